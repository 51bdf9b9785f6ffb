theorem dX12_fraction_0 : decode cX12_fraction 0 = .ok (.lload_n 1, 1) := by decide +kernel
theorem dX12_fraction_1 : decode cX12_fraction 1 = .ok (.lstore 5, 2) := by decide +kernel
theorem dX12_fraction_3 : decode cX12_fraction 3 = .ok (.lload_n 3, 1) := by decide +kernel
theorem dX12_fraction_4 : decode cX12_fraction 4 = .ok (.lstore 7, 2) := by decide +kernel
theorem dX12_fraction_6 : decode cX12_fraction 6 = .ok (.lload 7, 2) := by decide +kernel
theorem dX12_fraction_8 : decode cX12_fraction 8 = .ok (.lconst 0, 1) := by decide +kernel
theorem dX12_fraction_9 : decode cX12_fraction 9 = .ok (.lcmp, 1) := by decide +kernel
theorem dX12_fraction_10 : decode cX12_fraction 10 = .ok (.ifCond .eq 21, 3) := by decide +kernel
theorem dX12_fraction_13 : decode cX12_fraction 13 = .ok (.lload 5, 2) := by decide +kernel
theorem dX12_fraction_15 : decode cX12_fraction 15 = .ok (.lload 7, 2) := by decide +kernel
theorem dX12_fraction_17 : decode cX12_fraction 17 = .ok (.lrem, 1) := by decide +kernel
theorem dX12_fraction_18 : decode cX12_fraction 18 = .ok (.lstore 9, 2) := by decide +kernel
theorem dX12_fraction_20 : decode cX12_fraction 20 = .ok (.lload 7, 2) := by decide +kernel
theorem dX12_fraction_22 : decode cX12_fraction 22 = .ok (.lstore 5, 2) := by decide +kernel
theorem dX12_fraction_24 : decode cX12_fraction 24 = .ok (.lload 9, 2) := by decide +kernel
theorem dX12_fraction_26 : decode cX12_fraction 26 = .ok (.lstore 7, 2) := by decide +kernel
theorem dX12_fraction_28 : decode cX12_fraction 28 = .ok (.goto (-22), 3) := by decide +kernel
theorem dX12_fraction_31 : decode cX12_fraction 31 = .ok (.aload_n 0, 1) := by decide +kernel
theorem dX12_fraction_32 : decode cX12_fraction 32 = .ok (.lload_n 1, 1) := by decide +kernel
theorem dX12_fraction_33 : decode cX12_fraction 33 = .ok (.lload 5, 2) := by decide +kernel
theorem dX12_fraction_35 : decode cX12_fraction 35 = .ok (.ldiv, 1) := by decide +kernel
theorem dX12_fraction_36 : decode cX12_fraction 36 = .ok (.putfield 148, 3) := by decide +kernel
theorem dX12_fraction_39 : decode cX12_fraction 39 = .ok (.aload_n 0, 1) := by decide +kernel
theorem dX12_fraction_40 : decode cX12_fraction 40 = .ok (.lload_n 3, 1) := by decide +kernel
theorem dX12_fraction_41 : decode cX12_fraction 41 = .ok (.lload 5, 2) := by decide +kernel
theorem dX12_fraction_43 : decode cX12_fraction 43 = .ok (.ldiv, 1) := by decide +kernel
theorem dX12_fraction_44 : decode cX12_fraction 44 = .ok (.putfield 23, 3) := by decide +kernel
theorem dX12_fraction_47 : decode cX12_fraction 47 = .ok (.return_, 1) := by decide +kernel
set_option maxRecDepth 20000 in
theorem iw_m_fraction_X12 : ∀ w ∈ wsX120, w ∈ wsX12_fraction := by decide +kernel
set_option maxHeartbeats 4000000 in
set_option maxRecDepth 100000 in
theorem m_fraction (l : Launch) (dC : Nat → ClassId) (dI : Nat → Nat → Nat) (mo : Nat) (nw : Nat) (kp : Nat) (ik : Nat) (mr : Nat) (la_ : Int64) (lb_ : Int64) (mw : Nat) (lc_ : Int64) (ti_ : Int32) (cb_ : Int32) (ld_ : Int64) (le_ : Int64) (mq : Nat) (mz : Nat) (my : Nat) (sm_ : Int32) (mb : Nat) (bl_ : Int32) (ta_ : Int32) (tl_ : Int32) (tk_ : Int32) (vl_ : Int32) (mx : Nat) (mv : Nat) (pa : Int64) (pb : Int64) (sz : Nat) (hpb : ¬ pb = 0) : Met l yX12_fraction wsX12_fraction ({ frames := 0, cells := 0, slots := 0, locals := 0 }) (va_Pc [.ref mo, .long pa, .long pb] (fun U => U.heap.size = sz ∧ va_P (dC, dI) vwCl [(mo, .inr (12, [.ref nw, .ref kp, .ref ik, .ref mr, .long la_, .long lb_, .ref mw, .long lc_, .int ti_, .int cb_, .long ld_, .long le_, .ref mq, .ref mz, .ref my, .int sm_, .ref mb, .int bl_, .int ta_, .int tl_, .int tk_, .int vl_, .ref mx, .ref mv]))] U.heap ∧ va_K (dC, dI) vwCl [] U ∧ va_D (fun _ => True) [(mo, .inr (12, [.ref nw, .ref kp, .ref ik, .ref mr, .long la_, .long lb_, .ref mw, .long lc_, .int ti_, .int cb_, .long ld_, .long le_, .ref mq, .ref mz, .ref my, .int sm_, .ref mb, .int bl_, .int ta_, .int tl_, .int tk_, .int vl_, .ref mx, .ref mv]))])) (va_Qv (fun (_ : Unit) => True) (fun _ t => ∃ (h_above : Int64) (h_below : Int64), va_P (dC, dI) vwCl [(mo, .inr (12, [.ref nw, .ref kp, .ref ik, .ref mr, .long h_above, .long h_below, .ref mw, .long lc_, .int ti_, .int cb_, .long ld_, .long le_, .ref mq, .ref mz, .ref my, .int sm_, .ref mb, .int bl_, .int ta_, .int tl_, .int tk_, .int vl_, .ref mx, .ref mv]))] t.heap ∧ va_K (dC, dI) vwCl [] t ∧ va_D (va_A [(mo, .inr (12, [.ref nw, .ref kp, .ref ik, .ref mr, .long la_, .long lb_, .ref mw, .long lc_, .int ti_, .int cb_, .long ld_, .long le_, .ref mq, .ref mz, .ref my, .int sm_, .ref mb, .int bl_, .int ta_, .int tl_, .int tk_, .int vl_, .ref mx, .ref mv]))] sz) [(mo, .inr (12, [.ref nw, .ref kp, .ref ik, .ref mr, .long h_above, .long h_below, .ref mw, .long lc_, .int ti_, .int cb_, .long ld_, .long le_, .ref mq, .ref mz, .ref my, .int sm_, .ref mb, .int bl_, .int ta_, .int tl_, .int tk_, .int vl_, .ref mx, .ref mv]))]) (va_A [(mo, .inr (12, [.ref nw, .ref kp, .ref ik, .ref mr, .long la_, .long lb_, .ref mw, .long lc_, .int ti_, .int cb_, .long ld_, .long le_, .ref mq, .ref mz, .ref my, .int sm_, .ref mb, .int bl_, .int ta_, .int tl_, .int tk_, .int vl_, .ref mx, .ref mv]))] sz)) 0 0 (va_A [(mo, .inr (12, [.ref nw, .ref kp, .ref ik, .ref mr, .long la_, .long lb_, .ref mw, .long lc_, .int ti_, .int cb_, .long ld_, .long le_, .ref mq, .ref mz, .ref my, .int sm_, .ref mb, .int bl_, .int ta_, .int tl_, .int tk_, .int vl_, .ref mx, .ref mv]))] sz) := by
  refine Met.ofW (cc := cX12_fraction) (maxL := 11) (ret := none) (by decide) rfl ?_
  intro p e s m args below meth c s₁ B hml hv
  obtain ⟨rfl, hsz, hP, hK, hD0⟩ := hv
  have hx := B.exec
  have hb := B.bytes
  have hr := B.returns
  have hts := atoms_spec (ws := wsX12_fraction) B.pre
  have hown : s.vm.findClass RX12 = some m.cls := findClass_of_methodNamed B.named
  have hlocks := B.notSynchronized
  subst hsz
  have hD := hD0.self (sz := s.heap.size)
  generalize hAe : va_A [(mo, .inr (12, [.ref nw, .ref kp, .ref ik, .ref mr, .long la_, .long lb_, .ref mw, .long lc_, .int ti_, .int cb_, .long ld_, .long le_, .ref mq, .ref mz, .ref my, .int sm_, .ref mb, .int bl_, .int ta_, .int tl_, .int tk_, .int vl_, .ref mx, .ref mv]))] s.heap.size = A at hD ⊢
  have hA : ∀ q : Nat, s.heap.size ≤ q → A q := fun q h => by rw [← hAe]; exact Or.inr h
  have hS : va_S A s.heap s.heap [] := va_S.rf
  have hP : va_P (dC, dI) vwCl [(mo, .inr (12, [.ref nw, .ref kp, .ref ik, .ref mr, .long la_, .long lb_, .ref mw, .long lc_, .int ti_, .int cb_, .long ld_, .long le_, .ref mq, .ref mz, .ref my, .int sm_, .ref mb, .int bl_, .int ta_, .int tl_, .int tk_, .int vl_, .ref mx, .ref mv]))] s.heap := hP
  have hl := lv_entry ([.ref mo, .long pa, .long pb]) (n := 11) (Nat.le_of_ble_eq_true rfl)
  rw [lg_entry_eq]
  generalize (lg_sl ([.ref mo, .long pa, .long pb]) ++ List.replicate (11 - (lg_sl ([.ref mo, .long pa, .long pb])).length) Slot.unset).toArray = ls at hl ⊢
  have hl : lv_has ls 11 [(0, .ref mo), (1, .long pa), (3, .long pb)] := hl
  refine lv_lload_n hx hb dX12_fraction_0 rfl (lv_at hl 1 rfl) ?_
  refine lv_lstore (lv' := [(5, .long pa), (0, .ref mo), (1, .long pa), (3, .long pb)]) hx hb dX12_fraction_1 hl (by decide) rfl (fun ls hl => ?_)
  refine lv_lload_n hx hb dX12_fraction_3 rfl (lv_at hl 3 rfl) ?_
  refine lv_lstore (lv' := [(7, .long pb), (5, .long pa), (0, .ref mo), (1, .long pa), (3, .long pb)]) hx hb dX12_fraction_4 hl (by decide) rfl (fun ls hl => ?_)
  refine tz_while (σ := Int64 × Int64 × Array Slot) (fun x => W p l e _ s m _ below meth c _ _ _ _ _ (F0 m 6 x.2.2 [])) (fun x => (¬ (x.2.1 = 0 ∧ x.1 = 0)) ∧ lv_has x.2.2 11 [(7, .long x.1), (5, .long x.2.1), (0, .ref mo), (1, .long pa), (3, .long pb)]) (fun x => x.1.toInt.natAbs) ?_ (pb, pa, ls) ⟨fun q => hpb q.2, hl⟩
  rintro ⟨v_2, v_3, ls⟩ ⟨hi_5_0, hl⟩ ih_6
  dsimp only at hi_5_0 hl ih_6 ⊢
  refine lv_lload hx hb dX12_fraction_6 (lv_at hl 0 rfl) ?_
  refine lv_lconst (v := 0) hx hb dX12_fraction_8 (by decide) ?_
  refine W.lcmp hx hb dX12_fraction_9 ?_
  refine lv_if_eq (tgt := 31) hx hb dX12_fraction_10 (by decide) (fun c_7 => ?_) (fun c_7 => ?_)
  · refine lv_aload_n hx hb dX12_fraction_31 rfl (lv_at hl 2 rfl) ?_
    refine lv_lload_n hx hb dX12_fraction_32 rfl (lv_at hl 3 rfl) ?_
    refine lv_lload hx hb dX12_fraction_33 (lv_at hl 1 rfl) ?_
    refine lv_ldiv hx hb dX12_fraction_35 (fun q => hi_5_0 ⟨q, tz_cmp_eq0 c_7⟩) ?_
    refine lv_topl (fun x_8 _ => ?_)
    refine va_put (D := (dC, dI)) (ci := 12) (v := .long x_8) (ty := .long) (C := RX12) (T := TX12) (N := 24) hx hb hts iw_m_fraction_X12 tyX12 tyX12_ok nmX12 hown hK hP hD hS 0 rfl rfl 4 (by decide) (hts (.fieldLink RX12 148 "ThriceCountedModel" "above" "J") (by decide +kernel)) (fun _ h9 => h9) rfl (by decide +kernel) rfl rfl (Nat.le_of_ble_eq_true rfl) dX12_fraction_36 (fun H locs hP hD hS => ?_)
    have hP : va_P (dC, dI) vwCl [(mo, .inr (12, [.ref nw, .ref kp, .ref ik, .ref mr, .long x_8, .long lb_, .ref mw, .long lc_, .int ti_, .int cb_, .long ld_, .long le_, .ref mq, .ref mz, .ref my, .int sm_, .ref mb, .int bl_, .int ta_, .int tl_, .int tk_, .int vl_, .ref mx, .ref mv]))] H := hP
    have hD : va_D A [(mo, .inr (12, [.ref nw, .ref kp, .ref ik, .ref mr, .long x_8, .long lb_, .ref mw, .long lc_, .int ti_, .int cb_, .long ld_, .long le_, .ref mq, .ref mz, .ref my, .int sm_, .ref mb, .int bl_, .int ta_, .int tl_, .int tk_, .int vl_, .ref mx, .ref mv]))] := hD
    refine lv_aload_n hx hb dX12_fraction_39 rfl (lv_at hl 2 rfl) ?_
    refine lv_lload_n hx hb dX12_fraction_40 rfl (lv_at hl 4 rfl) ?_
    refine lv_lload hx hb dX12_fraction_41 (lv_at hl 1 rfl) ?_
    refine lv_ldiv hx hb dX12_fraction_43 (fun q => hi_5_0 ⟨q, tz_cmp_eq0 c_7⟩) ?_
    refine lv_topl (fun x_9 _ => ?_)
    refine va_put (D := (dC, dI)) (ci := 12) (v := .long x_9) (ty := .long) (C := RX12) (T := TX12) (N := 24) hx hb hts iw_m_fraction_X12 tyX12 tyX12_ok nmX12 hown hK hP hD hS 0 rfl rfl 5 (by decide) (hts (.fieldLink RX12 23 "ThriceCountedModel" "below" "J") (by decide +kernel)) (fun _ h9 => h9) rfl (by decide +kernel) rfl rfl (Nat.le_of_ble_eq_true rfl) dX12_fraction_44 (fun H locs hP hD hS => ?_)
    have hP : va_P (dC, dI) vwCl [(mo, .inr (12, [.ref nw, .ref kp, .ref ik, .ref mr, .long x_8, .long x_9, .ref mw, .long lc_, .int ti_, .int cb_, .long ld_, .long le_, .ref mq, .ref mz, .ref my, .int sm_, .ref mb, .int bl_, .int ta_, .int tl_, .int tk_, .int vl_, .ref mx, .ref mv]))] H := hP
    have hD : va_D A [(mo, .inr (12, [.ref nw, .ref kp, .ref ik, .ref mr, .long x_8, .long x_9, .ref mw, .long lc_, .int ti_, .int cb_, .long ld_, .long le_, .ref mq, .ref mz, .ref my, .int sm_, .ref mb, .int bl_, .int ta_, .int tl_, .int tk_, .int vl_, .ref mx, .ref mv]))] := hD
    have hP9 := hP.sub (ws' := [(mo, .inr (12, [.ref nw, .ref kp, .ref ik, .ref mr, .long x_8, .long x_9, .ref mw, .long lc_, .int ti_, .int cb_, .long ld_, .long le_, .ref mq, .ref mz, .ref my, .int sm_, .ref mb, .int bl_, .int ta_, .int tl_, .int tk_, .int vl_, .ref mx, .ref mv]))]) [0] rfl
    have hD9 := hD.sub (ws' := [(mo, .inr (12, [.ref nw, .ref kp, .ref ik, .ref mr, .long x_8, .long x_9, .ref mw, .long lc_, .int ti_, .int cb_, .long ld_, .long le_, .ref mq, .ref mz, .ref my, .int sm_, .ref mb, .int bl_, .int ta_, .int tl_, .int tk_, .int vl_, .ref mx, .ref mv]))]) [0] (by decide) rfl
    have hK9 := hK.sub (tys' := []) [] rfl
    exact W.vret hx hb hr (fun t ht hW => ⟨⟨(), rfl, trivial, x_8, x_9, by rw [ht]; exact hP9, va_K.moved hW.alike hK9, hD9⟩, hS.F ht⟩) hS.2.2 dX12_fraction_47
  · refine lv_lload hx hb dX12_fraction_13 (lv_at hl 1 rfl) ?_
    refine lv_lload hx hb dX12_fraction_15 (lv_at hl 0 rfl) ?_
    refine lv_lrem hx hb dX12_fraction_17 (tz_cmp_ne c_7) ?_
    refine lv_lstore (lv' := [(9, .long (v_3 - v_3 / v_2 * v_2)), (7, .long v_2), (5, .long v_3), (0, .ref mo), (1, .long pa), (3, .long pb)]) hx hb dX12_fraction_18 hl (by decide) rfl (fun ls hl => ?_)
    refine lv_lload hx hb dX12_fraction_20 (lv_at hl 1 rfl) ?_
    refine lv_lstore (lv' := [(5, .long v_2), (9, .long (v_3 - v_3 / v_2 * v_2)), (7, .long v_2), (0, .ref mo), (1, .long pa), (3, .long pb)]) hx hb dX12_fraction_22 hl (by decide) rfl (fun ls hl => ?_)
    refine lv_lload hx hb dX12_fraction_24 (lv_at hl 1 rfl) ?_
    refine lv_lstore (lv' := [(7, .long (v_3 - v_3 / v_2 * v_2)), (5, .long v_2), (9, .long (v_3 - v_3 / v_2 * v_2)), (0, .ref mo), (1, .long pa), (3, .long pb)]) hx hb dX12_fraction_26 hl (by decide) rfl (fun ls hl => ?_)
    refine lv_goto (tgt := 6) hx hb dX12_fraction_28 (by decide) ?_
    exact ih_6 ((v_3 - v_3 / v_2 * v_2), v_2, ls) ⟨fun q => tz_cmp_ne c_7 q.1, lv_sub hl [0, 1, 3, 4, 5] rfl⟩ (tz_rem_mu (tz_cmp_ne c_7))
set_option maxRecDepth 20000 in
theorem ggX12_weight_X12_bundleHas : GoodIn wsX12_weight wsX12_bundleHas := goodIn_r _ [6, 1, 28, 29, 30, 31, 32, 33, 34, 35, 36, 37, 38, 39, 40, 41, 42, 43, 44, 45, 46, 47, 48, 49, 50, 51] (by decide +kernel) (by decide +kernel)
set_option maxRecDepth 20000 in
theorem gX12_weight_X12_bundleHas : GoodIn wsX12_weight (wsV RX12 88 RX12 yX12_bundleHas wsX12_bundleHas) := goodIn_app (goodIn_of _ (by decide +kernel)) ggX12_weight_X12_bundleHas
set_option maxRecDepth 20000 in
theorem ggX12_weight_X12_in : GoodIn wsX12_weight wsX12_in := goodIn_r _ [9] (by decide +kernel) (by decide +kernel)
set_option maxRecDepth 20000 in
theorem gX12_weight_X12_in : GoodIn wsX12_weight (va_wsS RX12 49 yX12_in wsX12_in) := goodIn_app (goodIn_of _ (by decide +kernel)) ggX12_weight_X12_in
set_option maxRecDepth 20000 in
theorem ggX12_weight_X12_countHas : GoodIn wsX12_weight wsX12_countHas := goodIn_r _ [13, 1, 28, 29, 30, 31, 32, 33, 34, 35, 36, 37, 38, 39, 40, 41, 42, 43, 44, 45, 46, 47, 48, 49, 50, 51] (by decide +kernel) (by decide +kernel)
set_option maxRecDepth 20000 in
theorem gX12_weight_X12_countHas : GoodIn wsX12_weight (wsV RX12 143 RX12 yX12_countHas wsX12_countHas) := goodIn_app (goodIn_of _ (by decide +kernel)) ggX12_weight_X12_countHas
set_option maxRecDepth 20000 in
theorem ggX12_weight_X12_oddsOf : GoodIn wsX12_weight wsX12_oddsOf := goodIn_r _ [16, 17, 18, 5, 19, 20, 21, 22, 23, 24, 25, 26, 27, 7, 8, 9] (by decide +kernel) (by decide +kernel)
set_option maxRecDepth 20000 in
theorem gX12_weight_X12_oddsOf : GoodIn wsX12_weight (va_wsS RX12 134 yX12_oddsOf wsX12_oddsOf) := goodIn_app (goodIn_of _ (by decide +kernel)) ggX12_weight_X12_oddsOf
theorem dX12_weight_0 : decode cX12_weight 0 = .ok (.aload_n 0, 1) := by decide +kernel
theorem dX12_weight_1 : decode cX12_weight 1 = .ok (.iload_n 1, 1) := by decide +kernel
theorem dX12_weight_2 : decode cX12_weight 2 = .ok (.iconst 0, 1) := by decide +kernel
theorem dX12_weight_3 : decode cX12_weight 3 = .ok (.invokevirtual 88, 3) := by decide +kernel
theorem dX12_weight_6 : decode cX12_weight 6 = .ok (.istore_n 3, 1) := by decide +kernel
theorem dX12_weight_7 : decode cX12_weight 7 = .ok (.aload_n 0, 1) := by decide +kernel
theorem dX12_weight_8 : decode cX12_weight 8 = .ok (.iload_n 1, 1) := by decide +kernel
theorem dX12_weight_9 : decode cX12_weight 9 = .ok (.iconst 1, 1) := by decide +kernel
theorem dX12_weight_10 : decode cX12_weight 10 = .ok (.invokevirtual 88, 3) := by decide +kernel
theorem dX12_weight_13 : decode cX12_weight 13 = .ok (.istore 4, 2) := by decide +kernel
theorem dX12_weight_15 : decode cX12_weight 15 = .ok (.aload_n 0, 1) := by decide +kernel
theorem dX12_weight_16 : decode cX12_weight 16 = .ok (.iload_n 1, 1) := by decide +kernel
theorem dX12_weight_17 : decode cX12_weight 17 = .ok (.iconst 2, 1) := by decide +kernel
theorem dX12_weight_18 : decode cX12_weight 18 = .ok (.invokevirtual 88, 3) := by decide +kernel
theorem dX12_weight_21 : decode cX12_weight 21 = .ok (.istore 5, 2) := by decide +kernel
theorem dX12_weight_23 : decode cX12_weight 23 = .ok (.iload_n 2, 1) := by decide +kernel
theorem dX12_weight_24 : decode cX12_weight 24 = .ok (.i2l, 1) := by decide +kernel
theorem dX12_weight_25 : decode cX12_weight 25 = .ok (.iload_n 3, 1) := by decide +kernel
theorem dX12_weight_26 : decode cX12_weight 26 = .ok (.i2l, 1) := by decide +kernel
theorem dX12_weight_27 : decode cX12_weight 27 = .ok (.iload 4, 2) := by decide +kernel
theorem dX12_weight_29 : decode cX12_weight 29 = .ok (.i2l, 1) := by decide +kernel
theorem dX12_weight_30 : decode cX12_weight 30 = .ok (.invokestatic 49, 3) := by decide +kernel
theorem dX12_weight_33 : decode cX12_weight 33 = .ok (.ifCond .ne 5, 3) := by decide +kernel
theorem dX12_weight_38 : decode cX12_weight 38 = .ok (.lconst 1, 1) := by decide +kernel
theorem dX12_weight_39 : decode cX12_weight 39 = .ok (.lstore 6, 2) := by decide +kernel
theorem dX12_weight_41 : decode cX12_weight 41 = .ok (.iload 5, 2) := by decide +kernel
theorem dX12_weight_43 : decode cX12_weight 43 = .ok (.iconst (-1), 1) := by decide +kernel
theorem dX12_weight_44 : decode cX12_weight 44 = .ok (.if_icmp .eq 63, 3) := by decide +kernel
theorem dX12_weight_107 : decode cX12_weight 107 = .ok (.iconst 0, 1) := by decide +kernel
theorem dX12_weight_108 : decode cX12_weight 108 = .ok (.istore 8, 2) := by decide +kernel
theorem dX12_weight_110 : decode cX12_weight 110 = .ok (.iload 8, 2) := by decide +kernel
theorem dX12_weight_112 : decode cX12_weight 112 = .ok (.aload_n 0, 1) := by decide +kernel
theorem dX12_weight_113 : decode cX12_weight 113 = .ok (.getfield 7, 3) := by decide +kernel
theorem dX12_weight_116 : decode cX12_weight 116 = .ok (.iconst 2, 1) := by decide +kernel
theorem dX12_weight_117 : decode cX12_weight 117 = .ok (.iaload, 1) := by decide +kernel
theorem dX12_weight_118 : decode cX12_weight 118 = .ok (.if_icmp .ge 49, 3) := by decide +kernel
theorem dX12_weight_121 : decode cX12_weight 121 = .ok (.lload 6, 2) := by decide +kernel
theorem dX12_weight_123 : decode cX12_weight 123 = .ok (.aload_n 0, 1) := by decide +kernel
theorem dX12_weight_124 : decode cX12_weight 124 = .ok (.iload 8, 2) := by decide +kernel
theorem dX12_weight_126 : decode cX12_weight 126 = .ok (.iconst 0, 1) := by decide +kernel
theorem dX12_weight_127 : decode cX12_weight 127 = .ok (.invokevirtual 143, 3) := by decide +kernel
theorem dX12_weight_130 : decode cX12_weight 130 = .ok (.iload_n 1, 1) := by decide +kernel
theorem dX12_weight_131 : decode cX12_weight 131 = .ok (.if_icmp .ne 26, 3) := by decide +kernel
theorem dX12_weight_157 : decode cX12_weight 157 = .ok (.lconst 1, 1) := by decide +kernel
theorem dX12_weight_158 : decode cX12_weight 158 = .ok (.lmul, 1) := by decide +kernel
theorem dX12_weight_159 : decode cX12_weight 159 = .ok (.lstore 6, 2) := by decide +kernel
theorem dX12_weight_161 : decode cX12_weight 161 = .ok (.iinc 8 1, 3) := by decide +kernel
theorem dX12_weight_164 : decode cX12_weight 164 = .ok (.goto (-54), 3) := by decide +kernel
theorem dX12_weight_134 : decode cX12_weight 134 = .ok (.aload_n 0, 1) := by decide +kernel
theorem dX12_weight_135 : decode cX12_weight 135 = .ok (.iload 8, 2) := by decide +kernel
theorem dX12_weight_137 : decode cX12_weight 137 = .ok (.iconst 1, 1) := by decide +kernel
theorem dX12_weight_138 : decode cX12_weight 138 = .ok (.invokevirtual 143, 3) := by decide +kernel
theorem dX12_weight_141 : decode cX12_weight 141 = .ok (.aload_n 0, 1) := by decide +kernel
theorem dX12_weight_142 : decode cX12_weight 142 = .ok (.iload 8, 2) := by decide +kernel
theorem dX12_weight_144 : decode cX12_weight 144 = .ok (.iconst 3, 1) := by decide +kernel
theorem dX12_weight_145 : decode cX12_weight 145 = .ok (.invokevirtual 143, 3) := by decide +kernel
theorem dX12_weight_148 : decode cX12_weight 148 = .ok (.iload_n 2, 1) := by decide +kernel
theorem dX12_weight_149 : decode cX12_weight 149 = .ok (.isub, 1) := by decide +kernel
theorem dX12_weight_150 : decode cX12_weight 150 = .ok (.invokestatic 134, 3) := by decide +kernel
theorem dX12_weight_153 : decode cX12_weight 153 = .ok (.i2l, 1) := by decide +kernel
theorem dX12_weight_154 : decode cX12_weight 154 = .ok (.goto 4, 3) := by decide +kernel
theorem dX12_weight_167 : decode cX12_weight 167 = .ok (.lload 6, 2) := by decide +kernel
theorem dX12_weight_169 : decode cX12_weight 169 = .ok (.lreturn, 1) := by decide +kernel
theorem dX12_weight_47 : decode cX12_weight 47 = .ok (.iload 5, 2) := by decide +kernel
theorem dX12_weight_49 : decode cX12_weight 49 = .ok (.i2l, 1) := by decide +kernel
theorem dX12_weight_50 : decode cX12_weight 50 = .ok (.iload_n 3, 1) := by decide +kernel
theorem dX12_weight_51 : decode cX12_weight 51 = .ok (.i2l, 1) := by decide +kernel
theorem dX12_weight_52 : decode cX12_weight 52 = .ok (.iload 4, 2) := by decide +kernel
theorem dX12_weight_54 : decode cX12_weight 54 = .ok (.i2l, 1) := by decide +kernel
theorem dX12_weight_55 : decode cX12_weight 55 = .ok (.invokestatic 49, 3) := by decide +kernel
theorem dX12_weight_58 : decode cX12_weight 58 = .ok (.ifCond .eq 49, 3) := by decide +kernel
theorem dX12_weight_61 : decode cX12_weight 61 = .ok (.iload 4, 2) := by decide +kernel
theorem dX12_weight_63 : decode cX12_weight 63 = .ok (.iload_n 3, 1) := by decide +kernel
theorem dX12_weight_64 : decode cX12_weight 64 = .ok (.if_icmp .le 43, 3) := by decide +kernel
theorem dX12_weight_67 : decode cX12_weight 67 = .ok (.aload_n 0, 1) := by decide +kernel
theorem dX12_weight_68 : decode cX12_weight 68 = .ok (.getfield 7, 3) := by decide +kernel
theorem dX12_weight_71 : decode cX12_weight 71 = .ok (.iconst 5, 1) := by decide +kernel
theorem dX12_weight_72 : decode cX12_weight 72 = .ok (.aload_n 0, 1) := by decide +kernel
theorem dX12_weight_73 : decode cX12_weight 73 = .ok (.iload_n 1, 1) := by decide +kernel
theorem dX12_weight_74 : decode cX12_weight 74 = .ok (.iconst 3, 1) := by decide +kernel
theorem dX12_weight_75 : decode cX12_weight 75 = .ok (.invokevirtual 88, 3) := by decide +kernel
theorem dX12_weight_78 : decode cX12_weight 78 = .ok (.iadd, 1) := by decide +kernel
theorem dX12_weight_79 : decode cX12_weight 79 = .ok (.iaload, 1) := by decide +kernel
theorem dX12_weight_80 : decode cX12_weight 80 = .ok (.istore 8, 2) := by decide +kernel
theorem dX12_weight_82 : decode cX12_weight 82 = .ok (.iload_n 2, 1) := by decide +kernel
theorem dX12_weight_83 : decode cX12_weight 83 = .ok (.iload 5, 2) := by decide +kernel
theorem dX12_weight_85 : decode cX12_weight 85 = .ok (.if_icmp .ne 14, 3) := by decide +kernel
theorem dX12_weight_99 : decode cX12_weight 99 = .ok (.bipush 10, 2) := by decide +kernel
theorem dX12_weight_101 : decode cX12_weight 101 = .ok (.iload 8, 2) := by decide +kernel
theorem dX12_weight_103 : decode cX12_weight 103 = .ok (.isub, 1) := by decide +kernel
theorem dX12_weight_104 : decode cX12_weight 104 = .ok (.i2l, 1) := by decide +kernel
theorem dX12_weight_105 : decode cX12_weight 105 = .ok (.lstore 6, 2) := by decide +kernel
theorem dX12_weight_88 : decode cX12_weight 88 = .ok (.iload 8, 2) := by decide +kernel
theorem dX12_weight_90 : decode cX12_weight 90 = .ok (.iload 4, 2) := by decide +kernel
theorem dX12_weight_92 : decode cX12_weight 92 = .ok (.iload_n 3, 1) := by decide +kernel
theorem dX12_weight_93 : decode cX12_weight 93 = .ok (.isub, 1) := by decide +kernel
theorem dX12_weight_94 : decode cX12_weight 94 = .ok (.imul, 1) := by decide +kernel
theorem dX12_weight_95 : decode cX12_weight 95 = .ok (.i2l, 1) := by decide +kernel
theorem dX12_weight_96 : decode cX12_weight 96 = .ok (.goto 9, 3) := by decide +kernel
theorem dX12_weight_36 : decode cX12_weight 36 = .ok (.lconst 0, 1) := by decide +kernel
theorem dX12_weight_37 : decode cX12_weight 37 = .ok (.lreturn, 1) := by decide +kernel
set_option maxRecDepth 20000 in
theorem iw_m_weight_X12 : ∀ w ∈ wsX120, w ∈ wsX12_weight := by decide +kernel
set_option maxHeartbeats 4000000 in
set_option maxRecDepth 100000 in
theorem m_weight (l : Launch) (dC : Nat → ClassId) (dI : Nat → Nat → Nat) (mo : Nat) (nw : Nat) (kp : Nat) (ik : Nat) (mr : Nat) (la_ : Int64) (lb_ : Int64) (mw : Nat) (lc_ : Int64) (ti_ : Int32) (cb_ : Int32) (ld_ : Int64) (le_ : Int64) (mq : Nat) (mz : Nat) (my : Nat) (sm_ : Int32) (mb : Nat) (bl_ : Int32) (ta_ : Int32) (tl_ : Int32) (tk_ : Int32) (vl_ : Int32) (mx : Nat) (mv : Nat) (cn_ : ClassId) (fn : Nat → Int32) (jb : Nat) (nb : Int32) (hOn : tz_OK 350 fn) (hjb : jb < 5) : Met l yX12_weight wsX12_weight ({ frames := 3, cells := 0, slots := 0, locals := 69 }) (va_Pc [.ref mo, .int (nI jb), .int nb] (fun U => va_P (dC, dI) vwCl [(mo, .inr (12, [.ref nw, .ref kp, .ref ik, .ref mr, .long la_, .long lb_, .ref mw, .long lc_, .int ti_, .int cb_, .long ld_, .long le_, .ref mq, .ref mz, .ref my, .int sm_, .ref mb, .int bl_, .int ta_, .int tl_, .int tk_, .int vl_, .ref mx, .ref mv])), (nw, .inl (cn_, 350, .inl fn))] U.heap ∧ va_K (dC, dI) vwCl [(cn_, .int)] U)) (vp_Sl (fun r => tz_wv 8 r)) 0 0 (fun _ => False) := by
  refine Met.ofW (cc := cX12_weight) (maxL := 9) (ret := (some .long)) (by decide) rfl ?_
  intro p e s m args below meth c s₁ B hml hv
  obtain ⟨rfl, hP, hK⟩ := hv
  have hx := B.exec
  have hb := B.bytes
  have hr := B.returns
  have hts := atoms_spec (ws := wsX12_weight) B.pre
  have hown : s.vm.findClass RX12 = some m.cls := findClass_of_methodNamed B.named
  have hlocks := B.notSynchronized
  have hl := lv_entry ([.ref mo, .int (nI jb), .int nb]) (n := 9) (Nat.le_of_ble_eq_true rfl)
  rw [lg_entry_eq]
  generalize (lg_sl ([.ref mo, .int (nI jb), .int nb]) ++ List.replicate (9 - (lg_sl ([.ref mo, .int (nI jb), .int nb])).length) Slot.unset).toArray = ls at hl ⊢
  have hl : lv_has ls 9 [(0, .ref mo), (1, .int (nI jb)), (2, .int nb)] := hl
  refine lv_aload_n hx hb dX12_weight_0 rfl (lv_at hl 0 rfl) ?_
  refine lv_iload_n hx hb dX12_weight_1 rfl (lv_at hl 1 rfl) ?_
  refine lv_iconst (v := 0) hx hb dX12_weight_2 (by decide) ?_
  have hPc_1 := hP.sub (ws' := [(mo, .inr (12, [.ref nw, .ref kp, .ref ik, .ref mr, .long la_, .long lb_, .ref mw, .long lc_, .int ti_, .int cb_, .long ld_, .long le_, .ref mq, .ref mz, .ref my, .int sm_, .ref mb, .int bl_, .int ta_, .int tl_, .int tk_, .int vl_, .ref mx, .ref mv])), (nw, .inl (cn_, 350, .inl fn))]) [0, 1] rfl
  have hKc_2 := hK.sub (tys' := [(cn_, .int)]) [0] rfl
  refine vp_callSi (va_Run.run (va_runV (As := [.int (nI jb), .int 0]) (rest := []) ⟨hx, hb, hml, hown, hts⟩ (m_bundleHas0 l dC dI mo nw kp ik mr la_ lb_ mw lc_ ti_ cb_ ld_ le_ mq mz my sm_ mb bl_ ta_ tl_ tk_ vl_ mx mv cn_ fn jb hOn hjb) (cwV 2 hts gX12_weight_X12_bundleHas rfl rfl rfl (by decide +kernel) ⟨Nat.le_of_ble_eq_true rfl, Nat.le_of_ble_eq_true rfl⟩) ⟨fun a U g mk q => by obtain ⟨q0, qP, qK⟩ := q; exact ⟨q0, qP, va_K.moved (u := U) (U := U.calling g mk a) (Vm.Alike.refl U.vm) qK⟩, va_recv hK hP (ci := 12) (q0 := 0) rfl rfl, fun U hU hW => ⟨rfl, by rw [hU]; exact hPc_1, va_K.moved hW.alike hKc_2⟩⟩ rfl rfl hl.1 rfl (lv_room (Nat.le_of_ble_eq_true rfl)) dX12_weight_3 ⟨Nat.le_of_ble_eq_true rfl, Nat.le_of_ble_eq_true rfl⟩)) (fun r_3 hw_4 => ?_)
  obtain ⟨j_5, hj_6, rfl⟩ := hw_4
  refine lv_istore_n (lv' := [(3, .int (nI j_5)), (0, .ref mo), (1, .int (nI jb)), (2, .int nb)]) hx hb dX12_weight_6 rfl hl (by decide) rfl (fun ls hl => ?_)
  refine lv_aload_n hx hb dX12_weight_7 rfl (lv_at hl 1 rfl) ?_
  refine lv_iload_n hx hb dX12_weight_8 rfl (lv_at hl 2 rfl) ?_
  refine lv_iconst (v := 1) hx hb dX12_weight_9 (by decide) ?_
  have hPc_7 := hP.sub (ws' := [(mo, .inr (12, [.ref nw, .ref kp, .ref ik, .ref mr, .long la_, .long lb_, .ref mw, .long lc_, .int ti_, .int cb_, .long ld_, .long le_, .ref mq, .ref mz, .ref my, .int sm_, .ref mb, .int bl_, .int ta_, .int tl_, .int tk_, .int vl_, .ref mx, .ref mv])), (nw, .inl (cn_, 350, .inl fn))]) [0, 1] rfl
  have hKc_8 := hK.sub (tys' := [(cn_, .int)]) [0] rfl
  refine vp_callSi (va_Run.run (va_runV (As := [.int (nI jb), .int 1]) (rest := []) ⟨hx, hb, hml, hown, hts⟩ (m_bundleHas1 l dC dI mo nw kp ik mr la_ lb_ mw lc_ ti_ cb_ ld_ le_ mq mz my sm_ mb bl_ ta_ tl_ tk_ vl_ mx mv cn_ fn jb hOn hjb) (cwV 2 hts gX12_weight_X12_bundleHas rfl rfl rfl (by decide +kernel) ⟨Nat.le_of_ble_eq_true rfl, Nat.le_of_ble_eq_true rfl⟩) ⟨fun a U g mk q => by obtain ⟨q0, qP, qK⟩ := q; exact ⟨q0, qP, va_K.moved (u := U) (U := U.calling g mk a) (Vm.Alike.refl U.vm) qK⟩, va_recv hK hP (ci := 12) (q0 := 0) rfl rfl, fun U hU hW => ⟨rfl, by rw [hU]; exact hPc_7, va_K.moved hW.alike hKc_8⟩⟩ rfl rfl hl.1 rfl (lv_room (Nat.le_of_ble_eq_true rfl)) dX12_weight_10 ⟨Nat.le_of_ble_eq_true rfl, Nat.le_of_ble_eq_true rfl⟩)) (fun r_9 hw_10 => ?_)
  obtain ⟨j_11, hj_12, rfl⟩ := hw_10
  refine lv_istore (lv' := [(4, .int (nI j_11)), (3, .int (nI j_5)), (0, .ref mo), (1, .int (nI jb)), (2, .int nb)]) hx hb dX12_weight_13 hl (by decide) rfl (fun ls hl => ?_)
  refine lv_aload_n hx hb dX12_weight_15 rfl (lv_at hl 2 rfl) ?_
  refine lv_iload_n hx hb dX12_weight_16 rfl (lv_at hl 3 rfl) ?_
  refine lv_iconst (v := 2) hx hb dX12_weight_17 (by decide) ?_
  have hPc_13 := hP.sub (ws' := [(mo, .inr (12, [.ref nw, .ref kp, .ref ik, .ref mr, .long la_, .long lb_, .ref mw, .long lc_, .int ti_, .int cb_, .long ld_, .long le_, .ref mq, .ref mz, .ref my, .int sm_, .ref mb, .int bl_, .int ta_, .int tl_, .int tk_, .int vl_, .ref mx, .ref mv])), (nw, .inl (cn_, 350, .inl fn))]) [0, 1] rfl
  have hKc_14 := hK.sub (tys' := [(cn_, .int)]) [0] rfl
  refine vp_callSi (va_Run.run (va_runV (As := [.int (nI jb), .int 2]) (rest := []) ⟨hx, hb, hml, hown, hts⟩ (m_bundleHas2 l dC dI mo nw kp ik mr la_ lb_ mw lc_ ti_ cb_ ld_ le_ mq mz my sm_ mb bl_ ta_ tl_ tk_ vl_ mx mv cn_ fn jb hOn hjb) (cwV 2 hts gX12_weight_X12_bundleHas rfl rfl rfl (by decide +kernel) ⟨Nat.le_of_ble_eq_true rfl, Nat.le_of_ble_eq_true rfl⟩) ⟨fun a U g mk q => by obtain ⟨q0, qP, qK⟩ := q; exact ⟨q0, qP, va_K.moved (u := U) (U := U.calling g mk a) (Vm.Alike.refl U.vm) qK⟩, va_recv hK hP (ci := 12) (q0 := 0) rfl rfl, fun U hU hW => ⟨rfl, by rw [hU]; exact hPc_13, va_K.moved hW.alike hKc_14⟩⟩ rfl rfl hl.1 rfl (lv_room (Nat.le_of_ble_eq_true rfl)) dX12_weight_18 ⟨Nat.le_of_ble_eq_true rfl, Nat.le_of_ble_eq_true rfl⟩)) (fun r_15 hw_16 => ?_)
  refine lv_istore (lv' := [(5, .int r_15), (4, .int (nI j_11)), (3, .int (nI j_5)), (0, .ref mo), (1, .int (nI jb)), (2, .int nb)]) hx hb dX12_weight_21 hl (by decide) rfl (fun ls hl => ?_)
  refine lv_iload_n hx hb dX12_weight_23 rfl (lv_at hl 5 rfl) ?_
  refine lv_i2l (v := nb.toInt64) hx hb dX12_weight_24 rfl ?_
  refine lv_iload_n hx hb dX12_weight_25 rfl (lv_at hl 2 rfl) ?_
  refine lv_i2l (v := (nI j_5).toInt64) hx hb dX12_weight_26 rfl ?_
  refine lv_iload hx hb dX12_weight_27 (lv_at hl 1 rfl) ?_
  refine lv_i2l (v := (nI j_11).toInt64) hx hb dX12_weight_29 rfl ?_
  refine vp_callSi (va_Run.run (va_runS (As := [.long nb.toInt64, .long (nI j_5).toInt64, .long (nI j_11).toInt64]) (rest := []) ⟨hx, hb, hml, hown, hts⟩ (m_in l dC dI nb.toInt64 ((nI j_5).toInt64) ((nI j_11).toInt64)) (va_cwS 3 hts gX12_weight_X12_in rfl rfl rfl (by decide +kernel) ⟨Nat.le_of_ble_eq_true rfl, Nat.le_of_ble_eq_true rfl⟩) ⟨fun a U g mk q => ⟨q.1, trivial⟩, fun U hU hW => ⟨rfl, trivial⟩⟩ rfl rfl hl.1 rfl (lv_room (Nat.le_of_ble_eq_true rfl)) dX12_weight_30 ⟨Nat.le_of_ble_eq_true rfl, Nat.le_of_ble_eq_true rfl⟩)) (fun r_17 hw_18 => ?_)
  by_cases hc_19 : (nI j_5) ≤ nb ∧ nb ≤ (nI j_11)
  · obtain rfl : 1 = r_17 := (hw_18.trans (if_pos ((tz_in64 (by first | rfl | decide) rfl (by first | rfl | decide)).mpr hc_19))).symm
    refine lv_if_ne (tgt := 38) hx hb dX12_weight_33 (by decide) (fun c_20 => ?_) (fun c_20 => ?_)
    · refine lv_lconst (v := 1) hx hb dX12_weight_38 (by decide) ?_
      refine lv_lstore (lv' := [(6, .long 1), (5, .int r_15), (4, .int (nI j_11)), (3, .int (nI j_5)), (0, .ref mo), (1, .int (nI jb)), (2, .int nb)]) hx hb dX12_weight_39 hl (by decide) rfl (fun ls hl => ?_)
      refine lv_iload hx hb dX12_weight_41 (lv_at hl 1 rfl) ?_
      refine lv_iconst (v := (-1)) hx hb dX12_weight_43 (by decide) ?_
      refine lv_icmp_eq (tgt := 107) hx hb dX12_weight_44 (by decide) (fun c_21 => ?_) (fun c_21 => ?_)
      · have hv_22 : tz_wv 0 1 := tz_wv1
        refine lv_iconst (v := 0) hx hb dX12_weight_107 (by decide) ?_
        refine lv_istore (lv' := [(8, .int 0), (6, .long 1), (5, .int r_15), (4, .int (nI j_11)), (3, .int (nI j_5)), (0, .ref mo), (1, .int (nI jb)), (2, .int nb)]) hx hb dX12_weight_108 hl (by decide) rfl (fun ls hl => ?_)
        refine tz_while (σ := Nat × Int64 × Array Slot) (fun x => W p l e _ s m _ below meth c _ _ _ _ _ (F0 m 110 x.2.2 [])) (fun x => tz_wv x.1 x.2.1 ∧ x.1 ≤ 8 ∧ lv_has x.2.2 9 [(8, .int (nI x.1)), (6, .long x.2.1), (5, .int r_15), (4, .int (nI j_11)), (3, .int (nI j_5)), (0, .ref mo), (1, .int (nI jb)), (2, .int nb)]) (fun x => 8 - x.1) ?_ (0, 1, ls) ⟨hv_22, by (try dsimp only); omega, hl⟩
        rintro ⟨k_23, v_55, ls⟩ ⟨hi_87_0, hi_88_1, hl⟩ ih_89
        dsimp only at hi_87_0 hi_88_1 hl ih_89 ⊢
        refine lv_iload hx hb dX12_weight_110 (lv_at hl 0 rfl) ?_
        refine lv_aload_n hx hb dX12_weight_112 rfl (lv_at hl 5 rfl) ?_
        refine va_get (D := (dC, dI)) (ci := 12) (v := .ref nw) (C := RX12) (T := TX12) (N := 24) hx hb hts iw_m_weight_X12 hown hK hP 0 rfl rfl 0 (by decide) (hts (.fieldLink RX12 7 "ThriceCountedModel" "now" "[I") (by decide +kernel)) (fun _ h9 => h9) rfl dX12_weight_113 ?_
        refine lv_iconst (v := 2) hx hb dX12_weight_116 (by decide) ?_
        refine va_iald hx hb hK hP 1 0 rfl rfl (show ¬ ((2 : Int32) < 0 ∨ 350 ≤ (2 : Int32).toNatClampNeg) by decide) dX12_weight_117 ?_
        obtain ⟨j_90, hj_91, ej_92⟩ := hOn.nat (K := 2) (n := 8) (by omega) (show tz_b 2 = (0, 8) from by decide)
        refine tz_i (nI j_90) ej_92 ?_
        refine lv_icmp_ge (tgt := 167) hx hb dX12_weight_118 (by decide) (fun c_93 => ?_) (fun c_93 => ?_)
        · have hn_94 : j_90 ≤ k_23 := (nI_leI (a := j_90) (b := k_23) (by omega) (by omega)).mp c_93
          refine lv_lload hx hb dX12_weight_167 (lv_at hl 1 rfl) ?_
          exact W.lret (v := v_55) hx hb hr (fun t ht hW => ⟨v_55, rfl, (hi_87_0.mono (by omega) (by omega)), ht⟩) (fun _ h => absurd h List.not_mem_nil) dX12_weight_169
        · have hn_95 : ¬ j_90 ≤ k_23 := fun q => c_93 ((nI_leI (a := j_90) (b := k_23) (by omega) (by omega)).mpr q)
          refine lv_lload hx hb dX12_weight_121 (lv_at hl 1 rfl) ?_
          refine lv_aload_n hx hb dX12_weight_123 rfl (lv_at hl 5 rfl) ?_
          refine lv_iload hx hb dX12_weight_124 (lv_at hl 0 rfl) ?_
          refine lv_iconst (v := 0) hx hb dX12_weight_126 (by decide) ?_
          have hPc_96 := hP.sub (ws' := [(mo, .inr (12, [.ref nw, .ref kp, .ref ik, .ref mr, .long la_, .long lb_, .ref mw, .long lc_, .int ti_, .int cb_, .long ld_, .long le_, .ref mq, .ref mz, .ref my, .int sm_, .ref mb, .int bl_, .int ta_, .int tl_, .int tk_, .int vl_, .ref mx, .ref mv])), (nw, .inl (cn_, 350, .inl fn))]) [0, 1] rfl
          have hKc_97 := hK.sub (tys' := [(cn_, .int)]) [0] rfl
          refine vp_callSi (va_Run.run (va_runV (As := [.int (nI k_23), .int 0]) (rest := [.long v_55]) ⟨hx, hb, hml, hown, hts⟩ (m_countHas0 l dC dI mo nw kp ik mr la_ lb_ mw lc_ ti_ cb_ ld_ le_ mq mz my sm_ mb bl_ ta_ tl_ tk_ vl_ mx mv cn_ fn k_23 hOn (by omega)) (cwV 2 hts gX12_weight_X12_countHas rfl rfl rfl (by decide +kernel) ⟨Nat.le_of_ble_eq_true rfl, Nat.le_of_ble_eq_true rfl⟩) ⟨fun a U g mk q => by obtain ⟨q0, qP, qK⟩ := q; exact ⟨q0, qP, va_K.moved (u := U) (U := U.calling g mk a) (Vm.Alike.refl U.vm) qK⟩, va_recv hK hP (ci := 12) (q0 := 0) rfl rfl, fun U hU hW => ⟨rfl, by rw [hU]; exact hPc_96, va_K.moved hW.alike hKc_97⟩⟩ rfl rfl hl.1 rfl (lv_room (Nat.le_of_ble_eq_true rfl)) dX12_weight_127 ⟨Nat.le_of_ble_eq_true rfl, Nat.le_of_ble_eq_true rfl⟩)) (fun r_98 hw_99 => ?_)
          obtain ⟨j_100, hj_101, rfl⟩ := hw_99
          refine lv_iload_n hx hb dX12_weight_130 rfl (lv_at hl 6 rfl) ?_
          refine lv_icmp_ne (tgt := 157) hx hb dX12_weight_131 (by decide) (fun c_102 => ?_) (fun c_102 => ?_)
          · have hn_103 : ¬ j_100 = jb := fun q => c_102 ((nI_eq (a := j_100) (b := jb) (by omega) (by omega)).mpr q)
            refine lv_lconst (v := 1) hx hb dX12_weight_157 (by decide) ?_
            refine lv_lmul hx hb dX12_weight_158 ?_
            have hv_104 : tz_wv (k_23 + 1) (v_55 * 1) := hi_87_0.one (by omega)
            refine lv_lstore (lv' := [(6, .long (v_55 * 1)), (8, .int (nI k_23)), (5, .int r_15), (4, .int (nI j_11)), (3, .int (nI j_5)), (0, .ref mo), (1, .int (nI jb)), (2, .int nb)]) hx hb dX12_weight_159 hl (by decide) rfl (fun ls hl => ?_)
            refine lv_iinc (v := (nI (k_23 + 1))) (lv' := [(8, .int (nI (k_23 + 1))), (6, .long (v_55 * 1)), (5, .int r_15), (4, .int (nI j_11)), (3, .int (nI j_5)), (0, .ref mo), (1, .int (nI jb)), (2, .int nb)]) hx hb dX12_weight_161 hl (k := 1) rfl (nI_add k_23 1) (by decide) rfl (fun ls hl => ?_)
            refine lv_goto (tgt := 110) hx hb dX12_weight_164 (by decide) ?_
            exact ih_89 ((k_23 + 1), (v_55 * 1), ls) ⟨hv_104, by dsimp only; omega, lv_sub hl [0, 1, 2, 3, 4, 5, 6, 7] rfl⟩ (by dsimp only; omega)
          · have hn_105 : j_100 = jb := (nI_eq (a := j_100) (b := jb) (by omega) (by omega)).mp c_102
            refine lv_aload_n hx hb dX12_weight_134 rfl (lv_at hl 5 rfl) ?_
            refine lv_iload hx hb dX12_weight_135 (lv_at hl 0 rfl) ?_
            refine lv_iconst (v := 1) hx hb dX12_weight_137 (by decide) ?_
            have hPc_106 := hP.sub (ws' := [(mo, .inr (12, [.ref nw, .ref kp, .ref ik, .ref mr, .long la_, .long lb_, .ref mw, .long lc_, .int ti_, .int cb_, .long ld_, .long le_, .ref mq, .ref mz, .ref my, .int sm_, .ref mb, .int bl_, .int ta_, .int tl_, .int tk_, .int vl_, .ref mx, .ref mv])), (nw, .inl (cn_, 350, .inl fn))]) [0, 1] rfl
            have hKc_107 := hK.sub (tys' := [(cn_, .int)]) [0] rfl
            refine vp_callSi (va_Run.run (va_runV (As := [.int (nI k_23), .int 1]) (rest := [.long v_55]) ⟨hx, hb, hml, hown, hts⟩ (m_countHas1 l dC dI mo nw kp ik mr la_ lb_ mw lc_ ti_ cb_ ld_ le_ mq mz my sm_ mb bl_ ta_ tl_ tk_ vl_ mx mv cn_ fn k_23 hOn (by omega)) (cwV 2 hts gX12_weight_X12_countHas rfl rfl rfl (by decide +kernel) ⟨Nat.le_of_ble_eq_true rfl, Nat.le_of_ble_eq_true rfl⟩) ⟨fun a U g mk q => by obtain ⟨q0, qP, qK⟩ := q; exact ⟨q0, qP, va_K.moved (u := U) (U := U.calling g mk a) (Vm.Alike.refl U.vm) qK⟩, va_recv hK hP (ci := 12) (q0 := 0) rfl rfl, fun U hU hW => ⟨rfl, by rw [hU]; exact hPc_106, va_K.moved hW.alike hKc_107⟩⟩ rfl rfl hl.1 rfl (lv_room (Nat.le_of_ble_eq_true rfl)) dX12_weight_138 ⟨Nat.le_of_ble_eq_true rfl, Nat.le_of_ble_eq_true rfl⟩)) (fun r_108 hw_109 => ?_)
            obtain ⟨j_110, hj_111, rfl⟩ := hw_109
            refine lv_aload_n hx hb dX12_weight_141 rfl (lv_at hl 5 rfl) ?_
            refine lv_iload hx hb dX12_weight_142 (lv_at hl 0 rfl) ?_
            refine lv_iconst (v := 3) hx hb dX12_weight_144 (by decide) ?_
            have hPc_112 := hP.sub (ws' := [(mo, .inr (12, [.ref nw, .ref kp, .ref ik, .ref mr, .long la_, .long lb_, .ref mw, .long lc_, .int ti_, .int cb_, .long ld_, .long le_, .ref mq, .ref mz, .ref my, .int sm_, .ref mb, .int bl_, .int ta_, .int tl_, .int tk_, .int vl_, .ref mx, .ref mv])), (nw, .inl (cn_, 350, .inl fn))]) [0, 1] rfl
            have hKc_113 := hK.sub (tys' := [(cn_, .int)]) [0] rfl
            refine vp_callSi (va_Run.run (va_runV (As := [.int (nI k_23), .int 3]) (rest := [.int (nI j_110), .long v_55]) ⟨hx, hb, hml, hown, hts⟩ (m_countHas3 l dC dI mo nw kp ik mr la_ lb_ mw lc_ ti_ cb_ ld_ le_ mq mz my sm_ mb bl_ ta_ tl_ tk_ vl_ mx mv cn_ fn k_23 hOn (by omega)) (cwV 2 hts gX12_weight_X12_countHas rfl rfl rfl (by decide +kernel) ⟨Nat.le_of_ble_eq_true rfl, Nat.le_of_ble_eq_true rfl⟩) ⟨fun a U g mk q => by obtain ⟨q0, qP, qK⟩ := q; exact ⟨q0, qP, va_K.moved (u := U) (U := U.calling g mk a) (Vm.Alike.refl U.vm) qK⟩, va_recv hK hP (ci := 12) (q0 := 0) rfl rfl, fun U hU hW => ⟨rfl, by rw [hU]; exact hPc_112, va_K.moved hW.alike hKc_113⟩⟩ rfl rfl hl.1 rfl (lv_room (Nat.le_of_ble_eq_true rfl)) dX12_weight_145 ⟨Nat.le_of_ble_eq_true rfl, Nat.le_of_ble_eq_true rfl⟩)) (fun r_114 hw_115 => ?_)
            refine lv_iload_n hx hb dX12_weight_148 rfl (lv_at hl 7 rfl) ?_
            refine lv_isub hx hb dX12_weight_149 ?_
            refine lv_topi (fun x_116 _ => ?_)
            refine vp_callSi (va_Run.run (va_runS (As := [.int (nI j_110), .int x_116]) (rest := [.long v_55]) ⟨hx, hb, hml, hown, hts⟩ (m_oddsOf l dC dI (nI j_110) x_116 (tz_cnt5 (by omega))) (va_cwS 2 hts gX12_weight_X12_oddsOf rfl rfl rfl (by decide +kernel) ⟨Nat.le_of_ble_eq_true rfl, Nat.le_of_ble_eq_true rfl⟩) ⟨fun a U g mk q => ⟨q.1, trivial⟩, fun U hU hW => ⟨rfl, trivial⟩⟩ rfl rfl hl.1 rfl (lv_room (Nat.le_of_ble_eq_true rfl)) dX12_weight_150 ⟨Nat.le_of_ble_eq_true rfl, Nat.le_of_ble_eq_true rfl⟩)) (fun r_117 hw_118 => ?_)
            obtain rfl : (zN (yS (nI j_110)) x_116 20) = r_117 := hw_118.symm
            obtain ⟨o_119, ho_120, eo_121⟩ : ∃ o : Nat, o ≤ 20 ∧ (zN (yS (nI j_110)) x_116 20) = nI o := tz_zN_nat _ _ 20 (by decide)
            refine tz_i (nI o_119) eo_121 ?_
            refine lv_i2l (v := (nI o_119).toInt64) hx hb dX12_weight_153 rfl ?_
            refine lv_goto (tgt := 158) hx hb dX12_weight_154 (by decide) ?_
            refine lv_lmul hx hb dX12_weight_158 ?_
            have hv_122 : tz_wv (k_23 + 1) (v_55 * (nI o_119).toInt64) := hi_87_0.step (by omega) (by omega)
            refine lv_lstore (lv' := [(6, .long (v_55 * (nI o_119).toInt64)), (8, .int (nI k_23)), (5, .int r_15), (4, .int (nI j_11)), (3, .int (nI j_5)), (0, .ref mo), (1, .int (nI jb)), (2, .int nb)]) hx hb dX12_weight_159 hl (by decide) rfl (fun ls hl => ?_)
            refine lv_iinc (v := (nI (k_23 + 1))) (lv' := [(8, .int (nI (k_23 + 1))), (6, .long (v_55 * (nI o_119).toInt64)), (5, .int r_15), (4, .int (nI j_11)), (3, .int (nI j_5)), (0, .ref mo), (1, .int (nI jb)), (2, .int nb)]) hx hb dX12_weight_161 hl (k := 1) rfl (nI_add k_23 1) (by decide) rfl (fun ls hl => ?_)
            refine lv_goto (tgt := 110) hx hb dX12_weight_164 (by decide) ?_
            exact ih_89 ((k_23 + 1), (v_55 * (nI o_119).toInt64), ls) ⟨hv_122, by dsimp only; omega, lv_sub hl [0, 1, 2, 3, 4, 5, 6, 7] rfl⟩ (by dsimp only; omega)
      · refine lv_iload hx hb dX12_weight_47 (lv_at hl 1 rfl) ?_
        refine lv_i2l (v := r_15.toInt64) hx hb dX12_weight_49 rfl ?_
        refine lv_iload_n hx hb dX12_weight_50 rfl (lv_at hl 3 rfl) ?_
        refine lv_i2l (v := (nI j_5).toInt64) hx hb dX12_weight_51 rfl ?_
        refine lv_iload hx hb dX12_weight_52 (lv_at hl 2 rfl) ?_
        refine lv_i2l (v := (nI j_11).toInt64) hx hb dX12_weight_54 rfl ?_
        refine vp_callSi (va_Run.run (va_runS (As := [.long r_15.toInt64, .long (nI j_5).toInt64, .long (nI j_11).toInt64]) (rest := []) ⟨hx, hb, hml, hown, hts⟩ (m_in l dC dI r_15.toInt64 ((nI j_5).toInt64) ((nI j_11).toInt64)) (va_cwS 3 hts gX12_weight_X12_in rfl rfl rfl (by decide +kernel) ⟨Nat.le_of_ble_eq_true rfl, Nat.le_of_ble_eq_true rfl⟩) ⟨fun a U g mk q => ⟨q.1, trivial⟩, fun U hU hW => ⟨rfl, trivial⟩⟩ rfl rfl hl.1 rfl (lv_room (Nat.le_of_ble_eq_true rfl)) dX12_weight_55 ⟨Nat.le_of_ble_eq_true rfl, Nat.le_of_ble_eq_true rfl⟩)) (fun r_123 hw_124 => ?_)
        by_cases hc_125 : (nI j_5) ≤ r_15 ∧ r_15 ≤ (nI j_11)
        · obtain rfl : 1 = r_123 := (hw_124.trans (if_pos ((tz_in64 (by first | rfl | decide) rfl (by first | rfl | decide)).mpr hc_125))).symm
          refine lv_if_eq (tgt := 107) hx hb dX12_weight_58 (by decide) (fun c_126 => ?_) (fun c_126 => ?_)
          · exact absurd c_126 (by decide)
          · refine lv_iload hx hb dX12_weight_61 (lv_at hl 2 rfl) ?_
            refine lv_iload_n hx hb dX12_weight_63 rfl (lv_at hl 3 rfl) ?_
            refine lv_icmp_le (tgt := 107) hx hb dX12_weight_64 (by decide) (fun c_127 => ?_) (fun c_127 => ?_)
            · have hn_128 : j_11 ≤ j_5 := (nI_leI (a := j_11) (b := j_5) (by omega) (by omega)).mp c_127
              have hv_129 : tz_wv 0 1 := tz_wv1
              refine lv_iconst (v := 0) hx hb dX12_weight_107 (by decide) ?_
              refine lv_istore (lv' := [(8, .int 0), (6, .long 1), (5, .int r_15), (4, .int (nI j_11)), (3, .int (nI j_5)), (0, .ref mo), (1, .int (nI jb)), (2, .int nb)]) hx hb dX12_weight_108 hl (by decide) rfl (fun ls hl => ?_)
              refine tz_while (σ := Nat × Int64 × Array Slot) (fun x => W p l e _ s m _ below meth c _ _ _ _ _ (F0 m 110 x.2.2 [])) (fun x => tz_wv x.1 x.2.1 ∧ x.1 ≤ 8 ∧ lv_has x.2.2 9 [(8, .int (nI x.1)), (6, .long x.2.1), (5, .int r_15), (4, .int (nI j_11)), (3, .int (nI j_5)), (0, .ref mo), (1, .int (nI jb)), (2, .int nb)]) (fun x => 8 - x.1) ?_ (0, 1, ls) ⟨hv_129, by (try dsimp only); omega, hl⟩
              rintro ⟨k_130, v_162, ls⟩ ⟨hi_194_0, hi_195_1, hl⟩ ih_196
              dsimp only at hi_194_0 hi_195_1 hl ih_196 ⊢
              refine lv_iload hx hb dX12_weight_110 (lv_at hl 0 rfl) ?_
              refine lv_aload_n hx hb dX12_weight_112 rfl (lv_at hl 5 rfl) ?_
              refine va_get (D := (dC, dI)) (ci := 12) (v := .ref nw) (C := RX12) (T := TX12) (N := 24) hx hb hts iw_m_weight_X12 hown hK hP 0 rfl rfl 0 (by decide) (hts (.fieldLink RX12 7 "ThriceCountedModel" "now" "[I") (by decide +kernel)) (fun _ h9 => h9) rfl dX12_weight_113 ?_
              refine lv_iconst (v := 2) hx hb dX12_weight_116 (by decide) ?_
              refine va_iald hx hb hK hP 1 0 rfl rfl (show ¬ ((2 : Int32) < 0 ∨ 350 ≤ (2 : Int32).toNatClampNeg) by decide) dX12_weight_117 ?_
              obtain ⟨j_197, hj_198, ej_199⟩ := hOn.nat (K := 2) (n := 8) (by omega) (show tz_b 2 = (0, 8) from by decide)
              refine tz_i (nI j_197) ej_199 ?_
              refine lv_icmp_ge (tgt := 167) hx hb dX12_weight_118 (by decide) (fun c_200 => ?_) (fun c_200 => ?_)
              · have hn_201 : j_197 ≤ k_130 := (nI_leI (a := j_197) (b := k_130) (by omega) (by omega)).mp c_200
                refine lv_lload hx hb dX12_weight_167 (lv_at hl 1 rfl) ?_
                exact W.lret (v := v_162) hx hb hr (fun t ht hW => ⟨v_162, rfl, (hi_194_0.mono (by omega) (by omega)), ht⟩) (fun _ h => absurd h List.not_mem_nil) dX12_weight_169
              · have hn_202 : ¬ j_197 ≤ k_130 := fun q => c_200 ((nI_leI (a := j_197) (b := k_130) (by omega) (by omega)).mpr q)
                refine lv_lload hx hb dX12_weight_121 (lv_at hl 1 rfl) ?_
                refine lv_aload_n hx hb dX12_weight_123 rfl (lv_at hl 5 rfl) ?_
                refine lv_iload hx hb dX12_weight_124 (lv_at hl 0 rfl) ?_
                refine lv_iconst (v := 0) hx hb dX12_weight_126 (by decide) ?_
                have hPc_203 := hP.sub (ws' := [(mo, .inr (12, [.ref nw, .ref kp, .ref ik, .ref mr, .long la_, .long lb_, .ref mw, .long lc_, .int ti_, .int cb_, .long ld_, .long le_, .ref mq, .ref mz, .ref my, .int sm_, .ref mb, .int bl_, .int ta_, .int tl_, .int tk_, .int vl_, .ref mx, .ref mv])), (nw, .inl (cn_, 350, .inl fn))]) [0, 1] rfl
                have hKc_204 := hK.sub (tys' := [(cn_, .int)]) [0] rfl
                refine vp_callSi (va_Run.run (va_runV (As := [.int (nI k_130), .int 0]) (rest := [.long v_162]) ⟨hx, hb, hml, hown, hts⟩ (m_countHas0 l dC dI mo nw kp ik mr la_ lb_ mw lc_ ti_ cb_ ld_ le_ mq mz my sm_ mb bl_ ta_ tl_ tk_ vl_ mx mv cn_ fn k_130 hOn (by omega)) (cwV 2 hts gX12_weight_X12_countHas rfl rfl rfl (by decide +kernel) ⟨Nat.le_of_ble_eq_true rfl, Nat.le_of_ble_eq_true rfl⟩) ⟨fun a U g mk q => by obtain ⟨q0, qP, qK⟩ := q; exact ⟨q0, qP, va_K.moved (u := U) (U := U.calling g mk a) (Vm.Alike.refl U.vm) qK⟩, va_recv hK hP (ci := 12) (q0 := 0) rfl rfl, fun U hU hW => ⟨rfl, by rw [hU]; exact hPc_203, va_K.moved hW.alike hKc_204⟩⟩ rfl rfl hl.1 rfl (lv_room (Nat.le_of_ble_eq_true rfl)) dX12_weight_127 ⟨Nat.le_of_ble_eq_true rfl, Nat.le_of_ble_eq_true rfl⟩)) (fun r_205 hw_206 => ?_)
                obtain ⟨j_207, hj_208, rfl⟩ := hw_206
                refine lv_iload_n hx hb dX12_weight_130 rfl (lv_at hl 6 rfl) ?_
                refine lv_icmp_ne (tgt := 157) hx hb dX12_weight_131 (by decide) (fun c_209 => ?_) (fun c_209 => ?_)
                · have hn_210 : ¬ j_207 = jb := fun q => c_209 ((nI_eq (a := j_207) (b := jb) (by omega) (by omega)).mpr q)
                  refine lv_lconst (v := 1) hx hb dX12_weight_157 (by decide) ?_
                  refine lv_lmul hx hb dX12_weight_158 ?_
                  have hv_211 : tz_wv (k_130 + 1) (v_162 * 1) := hi_194_0.one (by omega)
                  refine lv_lstore (lv' := [(6, .long (v_162 * 1)), (8, .int (nI k_130)), (5, .int r_15), (4, .int (nI j_11)), (3, .int (nI j_5)), (0, .ref mo), (1, .int (nI jb)), (2, .int nb)]) hx hb dX12_weight_159 hl (by decide) rfl (fun ls hl => ?_)
                  refine lv_iinc (v := (nI (k_130 + 1))) (lv' := [(8, .int (nI (k_130 + 1))), (6, .long (v_162 * 1)), (5, .int r_15), (4, .int (nI j_11)), (3, .int (nI j_5)), (0, .ref mo), (1, .int (nI jb)), (2, .int nb)]) hx hb dX12_weight_161 hl (k := 1) rfl (nI_add k_130 1) (by decide) rfl (fun ls hl => ?_)
                  refine lv_goto (tgt := 110) hx hb dX12_weight_164 (by decide) ?_
                  exact ih_196 ((k_130 + 1), (v_162 * 1), ls) ⟨hv_211, by dsimp only; omega, lv_sub hl [0, 1, 2, 3, 4, 5, 6, 7] rfl⟩ (by dsimp only; omega)
                · have hn_212 : j_207 = jb := (nI_eq (a := j_207) (b := jb) (by omega) (by omega)).mp c_209
                  refine lv_aload_n hx hb dX12_weight_134 rfl (lv_at hl 5 rfl) ?_
                  refine lv_iload hx hb dX12_weight_135 (lv_at hl 0 rfl) ?_
                  refine lv_iconst (v := 1) hx hb dX12_weight_137 (by decide) ?_
                  have hPc_213 := hP.sub (ws' := [(mo, .inr (12, [.ref nw, .ref kp, .ref ik, .ref mr, .long la_, .long lb_, .ref mw, .long lc_, .int ti_, .int cb_, .long ld_, .long le_, .ref mq, .ref mz, .ref my, .int sm_, .ref mb, .int bl_, .int ta_, .int tl_, .int tk_, .int vl_, .ref mx, .ref mv])), (nw, .inl (cn_, 350, .inl fn))]) [0, 1] rfl
                  have hKc_214 := hK.sub (tys' := [(cn_, .int)]) [0] rfl
                  refine vp_callSi (va_Run.run (va_runV (As := [.int (nI k_130), .int 1]) (rest := [.long v_162]) ⟨hx, hb, hml, hown, hts⟩ (m_countHas1 l dC dI mo nw kp ik mr la_ lb_ mw lc_ ti_ cb_ ld_ le_ mq mz my sm_ mb bl_ ta_ tl_ tk_ vl_ mx mv cn_ fn k_130 hOn (by omega)) (cwV 2 hts gX12_weight_X12_countHas rfl rfl rfl (by decide +kernel) ⟨Nat.le_of_ble_eq_true rfl, Nat.le_of_ble_eq_true rfl⟩) ⟨fun a U g mk q => by obtain ⟨q0, qP, qK⟩ := q; exact ⟨q0, qP, va_K.moved (u := U) (U := U.calling g mk a) (Vm.Alike.refl U.vm) qK⟩, va_recv hK hP (ci := 12) (q0 := 0) rfl rfl, fun U hU hW => ⟨rfl, by rw [hU]; exact hPc_213, va_K.moved hW.alike hKc_214⟩⟩ rfl rfl hl.1 rfl (lv_room (Nat.le_of_ble_eq_true rfl)) dX12_weight_138 ⟨Nat.le_of_ble_eq_true rfl, Nat.le_of_ble_eq_true rfl⟩)) (fun r_215 hw_216 => ?_)
                  obtain ⟨j_217, hj_218, rfl⟩ := hw_216
                  refine lv_aload_n hx hb dX12_weight_141 rfl (lv_at hl 5 rfl) ?_
                  refine lv_iload hx hb dX12_weight_142 (lv_at hl 0 rfl) ?_
                  refine lv_iconst (v := 3) hx hb dX12_weight_144 (by decide) ?_
                  have hPc_219 := hP.sub (ws' := [(mo, .inr (12, [.ref nw, .ref kp, .ref ik, .ref mr, .long la_, .long lb_, .ref mw, .long lc_, .int ti_, .int cb_, .long ld_, .long le_, .ref mq, .ref mz, .ref my, .int sm_, .ref mb, .int bl_, .int ta_, .int tl_, .int tk_, .int vl_, .ref mx, .ref mv])), (nw, .inl (cn_, 350, .inl fn))]) [0, 1] rfl
                  have hKc_220 := hK.sub (tys' := [(cn_, .int)]) [0] rfl
                  refine vp_callSi (va_Run.run (va_runV (As := [.int (nI k_130), .int 3]) (rest := [.int (nI j_217), .long v_162]) ⟨hx, hb, hml, hown, hts⟩ (m_countHas3 l dC dI mo nw kp ik mr la_ lb_ mw lc_ ti_ cb_ ld_ le_ mq mz my sm_ mb bl_ ta_ tl_ tk_ vl_ mx mv cn_ fn k_130 hOn (by omega)) (cwV 2 hts gX12_weight_X12_countHas rfl rfl rfl (by decide +kernel) ⟨Nat.le_of_ble_eq_true rfl, Nat.le_of_ble_eq_true rfl⟩) ⟨fun a U g mk q => by obtain ⟨q0, qP, qK⟩ := q; exact ⟨q0, qP, va_K.moved (u := U) (U := U.calling g mk a) (Vm.Alike.refl U.vm) qK⟩, va_recv hK hP (ci := 12) (q0 := 0) rfl rfl, fun U hU hW => ⟨rfl, by rw [hU]; exact hPc_219, va_K.moved hW.alike hKc_220⟩⟩ rfl rfl hl.1 rfl (lv_room (Nat.le_of_ble_eq_true rfl)) dX12_weight_145 ⟨Nat.le_of_ble_eq_true rfl, Nat.le_of_ble_eq_true rfl⟩)) (fun r_221 hw_222 => ?_)
                  refine lv_iload_n hx hb dX12_weight_148 rfl (lv_at hl 7 rfl) ?_
                  refine lv_isub hx hb dX12_weight_149 ?_
                  refine lv_topi (fun x_223 _ => ?_)
                  refine vp_callSi (va_Run.run (va_runS (As := [.int (nI j_217), .int x_223]) (rest := [.long v_162]) ⟨hx, hb, hml, hown, hts⟩ (m_oddsOf l dC dI (nI j_217) x_223 (tz_cnt5 (by omega))) (va_cwS 2 hts gX12_weight_X12_oddsOf rfl rfl rfl (by decide +kernel) ⟨Nat.le_of_ble_eq_true rfl, Nat.le_of_ble_eq_true rfl⟩) ⟨fun a U g mk q => ⟨q.1, trivial⟩, fun U hU hW => ⟨rfl, trivial⟩⟩ rfl rfl hl.1 rfl (lv_room (Nat.le_of_ble_eq_true rfl)) dX12_weight_150 ⟨Nat.le_of_ble_eq_true rfl, Nat.le_of_ble_eq_true rfl⟩)) (fun r_224 hw_225 => ?_)
                  obtain rfl : (zN (yS (nI j_217)) x_223 20) = r_224 := hw_225.symm
                  obtain ⟨o_226, ho_227, eo_228⟩ : ∃ o : Nat, o ≤ 20 ∧ (zN (yS (nI j_217)) x_223 20) = nI o := tz_zN_nat _ _ 20 (by decide)
                  refine tz_i (nI o_226) eo_228 ?_
                  refine lv_i2l (v := (nI o_226).toInt64) hx hb dX12_weight_153 rfl ?_
                  refine lv_goto (tgt := 158) hx hb dX12_weight_154 (by decide) ?_
                  refine lv_lmul hx hb dX12_weight_158 ?_
                  have hv_229 : tz_wv (k_130 + 1) (v_162 * (nI o_226).toInt64) := hi_194_0.step (by omega) (by omega)
                  refine lv_lstore (lv' := [(6, .long (v_162 * (nI o_226).toInt64)), (8, .int (nI k_130)), (5, .int r_15), (4, .int (nI j_11)), (3, .int (nI j_5)), (0, .ref mo), (1, .int (nI jb)), (2, .int nb)]) hx hb dX12_weight_159 hl (by decide) rfl (fun ls hl => ?_)
                  refine lv_iinc (v := (nI (k_130 + 1))) (lv' := [(8, .int (nI (k_130 + 1))), (6, .long (v_162 * (nI o_226).toInt64)), (5, .int r_15), (4, .int (nI j_11)), (3, .int (nI j_5)), (0, .ref mo), (1, .int (nI jb)), (2, .int nb)]) hx hb dX12_weight_161 hl (k := 1) rfl (nI_add k_130 1) (by decide) rfl (fun ls hl => ?_)
                  refine lv_goto (tgt := 110) hx hb dX12_weight_164 (by decide) ?_
                  exact ih_196 ((k_130 + 1), (v_162 * (nI o_226).toInt64), ls) ⟨hv_229, by dsimp only; omega, lv_sub hl [0, 1, 2, 3, 4, 5, 6, 7] rfl⟩ (by dsimp only; omega)
            · have hn_230 : ¬ j_11 ≤ j_5 := fun q => c_127 ((nI_leI (a := j_11) (b := j_5) (by omega) (by omega)).mpr q)
              refine lv_aload_n hx hb dX12_weight_67 rfl (lv_at hl 4 rfl) ?_
              refine va_get (D := (dC, dI)) (ci := 12) (v := .ref nw) (C := RX12) (T := TX12) (N := 24) hx hb hts iw_m_weight_X12 hown hK hP 0 rfl rfl 0 (by decide) (hts (.fieldLink RX12 7 "ThriceCountedModel" "now" "[I") (by decide +kernel)) (fun _ h9 => h9) rfl dX12_weight_68 ?_
              refine lv_iconst (v := 5) hx hb dX12_weight_71 (by decide) ?_
              refine lv_aload_n hx hb dX12_weight_72 rfl (lv_at hl 4 rfl) ?_
              refine lv_iload_n hx hb dX12_weight_73 rfl (lv_at hl 5 rfl) ?_
              refine lv_iconst (v := 3) hx hb dX12_weight_74 (by decide) ?_
              have hPc_231 := hP.sub (ws' := [(mo, .inr (12, [.ref nw, .ref kp, .ref ik, .ref mr, .long la_, .long lb_, .ref mw, .long lc_, .int ti_, .int cb_, .long ld_, .long le_, .ref mq, .ref mz, .ref my, .int sm_, .ref mb, .int bl_, .int ta_, .int tl_, .int tk_, .int vl_, .ref mx, .ref mv])), (nw, .inl (cn_, 350, .inl fn))]) [0, 1] rfl
              have hKc_232 := hK.sub (tys' := [(cn_, .int)]) [0] rfl
              refine vp_callSi (va_Run.run (va_runV (As := [.int (nI jb), .int 3]) (rest := [.int 5, .ref nw]) ⟨hx, hb, hml, hown, hts⟩ (m_bundleHas3 l dC dI mo nw kp ik mr la_ lb_ mw lc_ ti_ cb_ ld_ le_ mq mz my sm_ mb bl_ ta_ tl_ tk_ vl_ mx mv cn_ fn jb hOn hjb) (cwV 2 hts gX12_weight_X12_bundleHas rfl rfl rfl (by decide +kernel) ⟨Nat.le_of_ble_eq_true rfl, Nat.le_of_ble_eq_true rfl⟩) ⟨fun a U g mk q => by obtain ⟨q0, qP, qK⟩ := q; exact ⟨q0, qP, va_K.moved (u := U) (U := U.calling g mk a) (Vm.Alike.refl U.vm) qK⟩, va_recv hK hP (ci := 12) (q0 := 0) rfl rfl, fun U hU hW => ⟨rfl, by rw [hU]; exact hPc_231, va_K.moved hW.alike hKc_232⟩⟩ rfl rfl hl.1 rfl (lv_room (Nat.le_of_ble_eq_true rfl)) dX12_weight_75 ⟨Nat.le_of_ble_eq_true rfl, Nat.le_of_ble_eq_true rfl⟩)) (fun r_233 hw_234 => ?_)
              rcases tz_m1 hw_234 with rfl | ⟨j_235, hj_236, rfl⟩
              · refine lv_iadd hx hb dX12_weight_78 ?_
                refine tz_i 4 (by decide) ?_
                refine va_iald hx hb hK hP 1 0 rfl rfl (show ¬ ((4 : Int32) < 0 ∨ 350 ≤ (4 : Int32).toNatClampNeg) by decide) dX12_weight_79 ?_
                obtain ⟨j_237, hj_238, ej_239⟩ := hOn.nat (K := 4) (n := 8) (by omega) (show tz_b 4 = (0, 8) from by decide)
                refine tz_i (nI j_237) ej_239 ?_
                refine lv_istore (lv' := [(8, .int (nI j_237)), (6, .long 1), (5, .int r_15), (4, .int (nI j_11)), (3, .int (nI j_5)), (0, .ref mo), (1, .int (nI jb)), (2, .int nb)]) hx hb dX12_weight_80 hl (by decide) rfl (fun ls hl => ?_)
                refine lv_iload_n hx hb dX12_weight_82 rfl (lv_at hl 7 rfl) ?_
                refine lv_iload hx hb dX12_weight_83 (lv_at hl 2 rfl) ?_
                refine lv_icmp_ne (tgt := 99) hx hb dX12_weight_85 (by decide) (fun c_240 => ?_) (fun c_240 => ?_)
                · refine lv_bipush (v := 10) hx hb dX12_weight_99 (by decide) ?_
                  refine lv_iload hx hb dX12_weight_101 (lv_at hl 0 rfl) ?_
                  refine lv_isub hx hb dX12_weight_103 ?_
                  refine tz_i (nI (10 - j_237)) (pk_sub (a := 10) (b := j_237) (by omega)) ?_
                  refine lv_i2l (v := (nI (10 - j_237)).toInt64) hx hb dX12_weight_104 rfl ?_
                  refine lv_lstore (lv' := [(6, .long (nI (10 - j_237)).toInt64), (8, .int (nI j_237)), (5, .int r_15), (4, .int (nI j_11)), (3, .int (nI j_5)), (0, .ref mo), (1, .int (nI jb)), (2, .int nb)]) hx hb dX12_weight_105 hl (by decide) rfl (fun ls hl => ?_)
                  have hv_241 : tz_wv 0 (nI (10 - j_237)).toInt64 := tz_wv0 (m := 10 - j_237) (by omega)
                  refine lv_iconst (v := 0) hx hb dX12_weight_107 (by decide) ?_
                  refine lv_istore (lv' := [(8, .int 0), (6, .long (nI (10 - j_237)).toInt64), (5, .int r_15), (4, .int (nI j_11)), (3, .int (nI j_5)), (0, .ref mo), (1, .int (nI jb)), (2, .int nb)]) hx hb dX12_weight_108 hl (by decide) rfl (fun ls hl => ?_)
                  refine tz_while (σ := Nat × Int64 × Array Slot) (fun x => W p l e _ s m _ below meth c _ _ _ _ _ (F0 m 110 x.2.2 [])) (fun x => tz_wv x.1 x.2.1 ∧ x.1 ≤ 8 ∧ lv_has x.2.2 9 [(8, .int (nI x.1)), (6, .long x.2.1), (5, .int r_15), (4, .int (nI j_11)), (3, .int (nI j_5)), (0, .ref mo), (1, .int (nI jb)), (2, .int nb)]) (fun x => 8 - x.1) ?_ (0, (nI (10 - j_237)).toInt64, ls) ⟨hv_241, by (try dsimp only); omega, hl⟩
                  rintro ⟨k_242, v_274, ls⟩ ⟨hi_306_0, hi_307_1, hl⟩ ih_308
                  dsimp only at hi_306_0 hi_307_1 hl ih_308 ⊢
                  refine lv_iload hx hb dX12_weight_110 (lv_at hl 0 rfl) ?_
                  refine lv_aload_n hx hb dX12_weight_112 rfl (lv_at hl 5 rfl) ?_
                  refine va_get (D := (dC, dI)) (ci := 12) (v := .ref nw) (C := RX12) (T := TX12) (N := 24) hx hb hts iw_m_weight_X12 hown hK hP 0 rfl rfl 0 (by decide) (hts (.fieldLink RX12 7 "ThriceCountedModel" "now" "[I") (by decide +kernel)) (fun _ h9 => h9) rfl dX12_weight_113 ?_
                  refine lv_iconst (v := 2) hx hb dX12_weight_116 (by decide) ?_
                  refine va_iald hx hb hK hP 1 0 rfl rfl (show ¬ ((2 : Int32) < 0 ∨ 350 ≤ (2 : Int32).toNatClampNeg) by decide) dX12_weight_117 ?_
                  obtain ⟨j_309, hj_310, ej_311⟩ := hOn.nat (K := 2) (n := 8) (by omega) (show tz_b 2 = (0, 8) from by decide)
                  refine tz_i (nI j_309) ej_311 ?_
                  refine lv_icmp_ge (tgt := 167) hx hb dX12_weight_118 (by decide) (fun c_312 => ?_) (fun c_312 => ?_)
                  · have hn_313 : j_309 ≤ k_242 := (nI_leI (a := j_309) (b := k_242) (by omega) (by omega)).mp c_312
                    refine lv_lload hx hb dX12_weight_167 (lv_at hl 1 rfl) ?_
                    exact W.lret (v := v_274) hx hb hr (fun t ht hW => ⟨v_274, rfl, (hi_306_0.mono (by omega) (by omega)), ht⟩) (fun _ h => absurd h List.not_mem_nil) dX12_weight_169
                  · have hn_314 : ¬ j_309 ≤ k_242 := fun q => c_312 ((nI_leI (a := j_309) (b := k_242) (by omega) (by omega)).mpr q)
                    refine lv_lload hx hb dX12_weight_121 (lv_at hl 1 rfl) ?_
                    refine lv_aload_n hx hb dX12_weight_123 rfl (lv_at hl 5 rfl) ?_
                    refine lv_iload hx hb dX12_weight_124 (lv_at hl 0 rfl) ?_
                    refine lv_iconst (v := 0) hx hb dX12_weight_126 (by decide) ?_
                    have hPc_315 := hP.sub (ws' := [(mo, .inr (12, [.ref nw, .ref kp, .ref ik, .ref mr, .long la_, .long lb_, .ref mw, .long lc_, .int ti_, .int cb_, .long ld_, .long le_, .ref mq, .ref mz, .ref my, .int sm_, .ref mb, .int bl_, .int ta_, .int tl_, .int tk_, .int vl_, .ref mx, .ref mv])), (nw, .inl (cn_, 350, .inl fn))]) [0, 1] rfl
                    have hKc_316 := hK.sub (tys' := [(cn_, .int)]) [0] rfl
                    refine vp_callSi (va_Run.run (va_runV (As := [.int (nI k_242), .int 0]) (rest := [.long v_274]) ⟨hx, hb, hml, hown, hts⟩ (m_countHas0 l dC dI mo nw kp ik mr la_ lb_ mw lc_ ti_ cb_ ld_ le_ mq mz my sm_ mb bl_ ta_ tl_ tk_ vl_ mx mv cn_ fn k_242 hOn (by omega)) (cwV 2 hts gX12_weight_X12_countHas rfl rfl rfl (by decide +kernel) ⟨Nat.le_of_ble_eq_true rfl, Nat.le_of_ble_eq_true rfl⟩) ⟨fun a U g mk q => by obtain ⟨q0, qP, qK⟩ := q; exact ⟨q0, qP, va_K.moved (u := U) (U := U.calling g mk a) (Vm.Alike.refl U.vm) qK⟩, va_recv hK hP (ci := 12) (q0 := 0) rfl rfl, fun U hU hW => ⟨rfl, by rw [hU]; exact hPc_315, va_K.moved hW.alike hKc_316⟩⟩ rfl rfl hl.1 rfl (lv_room (Nat.le_of_ble_eq_true rfl)) dX12_weight_127 ⟨Nat.le_of_ble_eq_true rfl, Nat.le_of_ble_eq_true rfl⟩)) (fun r_317 hw_318 => ?_)
                    obtain ⟨j_319, hj_320, rfl⟩ := hw_318
                    refine lv_iload_n hx hb dX12_weight_130 rfl (lv_at hl 6 rfl) ?_
                    refine lv_icmp_ne (tgt := 157) hx hb dX12_weight_131 (by decide) (fun c_321 => ?_) (fun c_321 => ?_)
                    · have hn_322 : ¬ j_319 = jb := fun q => c_321 ((nI_eq (a := j_319) (b := jb) (by omega) (by omega)).mpr q)
                      refine lv_lconst (v := 1) hx hb dX12_weight_157 (by decide) ?_
                      refine lv_lmul hx hb dX12_weight_158 ?_
                      have hv_323 : tz_wv (k_242 + 1) (v_274 * 1) := hi_306_0.one (by omega)
                      refine lv_lstore (lv' := [(6, .long (v_274 * 1)), (8, .int (nI k_242)), (5, .int r_15), (4, .int (nI j_11)), (3, .int (nI j_5)), (0, .ref mo), (1, .int (nI jb)), (2, .int nb)]) hx hb dX12_weight_159 hl (by decide) rfl (fun ls hl => ?_)
                      refine lv_iinc (v := (nI (k_242 + 1))) (lv' := [(8, .int (nI (k_242 + 1))), (6, .long (v_274 * 1)), (5, .int r_15), (4, .int (nI j_11)), (3, .int (nI j_5)), (0, .ref mo), (1, .int (nI jb)), (2, .int nb)]) hx hb dX12_weight_161 hl (k := 1) rfl (nI_add k_242 1) (by decide) rfl (fun ls hl => ?_)
                      refine lv_goto (tgt := 110) hx hb dX12_weight_164 (by decide) ?_
                      exact ih_308 ((k_242 + 1), (v_274 * 1), ls) ⟨hv_323, by dsimp only; omega, lv_sub hl [0, 1, 2, 3, 4, 5, 6, 7] rfl⟩ (by dsimp only; omega)
                    · have hn_324 : j_319 = jb := (nI_eq (a := j_319) (b := jb) (by omega) (by omega)).mp c_321
                      refine lv_aload_n hx hb dX12_weight_134 rfl (lv_at hl 5 rfl) ?_
                      refine lv_iload hx hb dX12_weight_135 (lv_at hl 0 rfl) ?_
                      refine lv_iconst (v := 1) hx hb dX12_weight_137 (by decide) ?_
                      have hPc_325 := hP.sub (ws' := [(mo, .inr (12, [.ref nw, .ref kp, .ref ik, .ref mr, .long la_, .long lb_, .ref mw, .long lc_, .int ti_, .int cb_, .long ld_, .long le_, .ref mq, .ref mz, .ref my, .int sm_, .ref mb, .int bl_, .int ta_, .int tl_, .int tk_, .int vl_, .ref mx, .ref mv])), (nw, .inl (cn_, 350, .inl fn))]) [0, 1] rfl
                      have hKc_326 := hK.sub (tys' := [(cn_, .int)]) [0] rfl
                      refine vp_callSi (va_Run.run (va_runV (As := [.int (nI k_242), .int 1]) (rest := [.long v_274]) ⟨hx, hb, hml, hown, hts⟩ (m_countHas1 l dC dI mo nw kp ik mr la_ lb_ mw lc_ ti_ cb_ ld_ le_ mq mz my sm_ mb bl_ ta_ tl_ tk_ vl_ mx mv cn_ fn k_242 hOn (by omega)) (cwV 2 hts gX12_weight_X12_countHas rfl rfl rfl (by decide +kernel) ⟨Nat.le_of_ble_eq_true rfl, Nat.le_of_ble_eq_true rfl⟩) ⟨fun a U g mk q => by obtain ⟨q0, qP, qK⟩ := q; exact ⟨q0, qP, va_K.moved (u := U) (U := U.calling g mk a) (Vm.Alike.refl U.vm) qK⟩, va_recv hK hP (ci := 12) (q0 := 0) rfl rfl, fun U hU hW => ⟨rfl, by rw [hU]; exact hPc_325, va_K.moved hW.alike hKc_326⟩⟩ rfl rfl hl.1 rfl (lv_room (Nat.le_of_ble_eq_true rfl)) dX12_weight_138 ⟨Nat.le_of_ble_eq_true rfl, Nat.le_of_ble_eq_true rfl⟩)) (fun r_327 hw_328 => ?_)
                      obtain ⟨j_329, hj_330, rfl⟩ := hw_328
                      refine lv_aload_n hx hb dX12_weight_141 rfl (lv_at hl 5 rfl) ?_
                      refine lv_iload hx hb dX12_weight_142 (lv_at hl 0 rfl) ?_
                      refine lv_iconst (v := 3) hx hb dX12_weight_144 (by decide) ?_
                      have hPc_331 := hP.sub (ws' := [(mo, .inr (12, [.ref nw, .ref kp, .ref ik, .ref mr, .long la_, .long lb_, .ref mw, .long lc_, .int ti_, .int cb_, .long ld_, .long le_, .ref mq, .ref mz, .ref my, .int sm_, .ref mb, .int bl_, .int ta_, .int tl_, .int tk_, .int vl_, .ref mx, .ref mv])), (nw, .inl (cn_, 350, .inl fn))]) [0, 1] rfl
                      have hKc_332 := hK.sub (tys' := [(cn_, .int)]) [0] rfl
                      refine vp_callSi (va_Run.run (va_runV (As := [.int (nI k_242), .int 3]) (rest := [.int (nI j_329), .long v_274]) ⟨hx, hb, hml, hown, hts⟩ (m_countHas3 l dC dI mo nw kp ik mr la_ lb_ mw lc_ ti_ cb_ ld_ le_ mq mz my sm_ mb bl_ ta_ tl_ tk_ vl_ mx mv cn_ fn k_242 hOn (by omega)) (cwV 2 hts gX12_weight_X12_countHas rfl rfl rfl (by decide +kernel) ⟨Nat.le_of_ble_eq_true rfl, Nat.le_of_ble_eq_true rfl⟩) ⟨fun a U g mk q => by obtain ⟨q0, qP, qK⟩ := q; exact ⟨q0, qP, va_K.moved (u := U) (U := U.calling g mk a) (Vm.Alike.refl U.vm) qK⟩, va_recv hK hP (ci := 12) (q0 := 0) rfl rfl, fun U hU hW => ⟨rfl, by rw [hU]; exact hPc_331, va_K.moved hW.alike hKc_332⟩⟩ rfl rfl hl.1 rfl (lv_room (Nat.le_of_ble_eq_true rfl)) dX12_weight_145 ⟨Nat.le_of_ble_eq_true rfl, Nat.le_of_ble_eq_true rfl⟩)) (fun r_333 hw_334 => ?_)
                      refine lv_iload_n hx hb dX12_weight_148 rfl (lv_at hl 7 rfl) ?_
                      refine lv_isub hx hb dX12_weight_149 ?_
                      refine lv_topi (fun x_335 _ => ?_)
                      refine vp_callSi (va_Run.run (va_runS (As := [.int (nI j_329), .int x_335]) (rest := [.long v_274]) ⟨hx, hb, hml, hown, hts⟩ (m_oddsOf l dC dI (nI j_329) x_335 (tz_cnt5 (by omega))) (va_cwS 2 hts gX12_weight_X12_oddsOf rfl rfl rfl (by decide +kernel) ⟨Nat.le_of_ble_eq_true rfl, Nat.le_of_ble_eq_true rfl⟩) ⟨fun a U g mk q => ⟨q.1, trivial⟩, fun U hU hW => ⟨rfl, trivial⟩⟩ rfl rfl hl.1 rfl (lv_room (Nat.le_of_ble_eq_true rfl)) dX12_weight_150 ⟨Nat.le_of_ble_eq_true rfl, Nat.le_of_ble_eq_true rfl⟩)) (fun r_336 hw_337 => ?_)
                      obtain rfl : (zN (yS (nI j_329)) x_335 20) = r_336 := hw_337.symm
                      obtain ⟨o_338, ho_339, eo_340⟩ : ∃ o : Nat, o ≤ 20 ∧ (zN (yS (nI j_329)) x_335 20) = nI o := tz_zN_nat _ _ 20 (by decide)
                      refine tz_i (nI o_338) eo_340 ?_
                      refine lv_i2l (v := (nI o_338).toInt64) hx hb dX12_weight_153 rfl ?_
                      refine lv_goto (tgt := 158) hx hb dX12_weight_154 (by decide) ?_
                      refine lv_lmul hx hb dX12_weight_158 ?_
                      have hv_341 : tz_wv (k_242 + 1) (v_274 * (nI o_338).toInt64) := hi_306_0.step (by omega) (by omega)
                      refine lv_lstore (lv' := [(6, .long (v_274 * (nI o_338).toInt64)), (8, .int (nI k_242)), (5, .int r_15), (4, .int (nI j_11)), (3, .int (nI j_5)), (0, .ref mo), (1, .int (nI jb)), (2, .int nb)]) hx hb dX12_weight_159 hl (by decide) rfl (fun ls hl => ?_)
                      refine lv_iinc (v := (nI (k_242 + 1))) (lv' := [(8, .int (nI (k_242 + 1))), (6, .long (v_274 * (nI o_338).toInt64)), (5, .int r_15), (4, .int (nI j_11)), (3, .int (nI j_5)), (0, .ref mo), (1, .int (nI jb)), (2, .int nb)]) hx hb dX12_weight_161 hl (k := 1) rfl (nI_add k_242 1) (by decide) rfl (fun ls hl => ?_)
                      refine lv_goto (tgt := 110) hx hb dX12_weight_164 (by decide) ?_
                      exact ih_308 ((k_242 + 1), (v_274 * (nI o_338).toInt64), ls) ⟨hv_341, by dsimp only; omega, lv_sub hl [0, 1, 2, 3, 4, 5, 6, 7] rfl⟩ (by dsimp only; omega)
                · refine lv_iload hx hb dX12_weight_88 (lv_at hl 0 rfl) ?_
                  refine lv_iload hx hb dX12_weight_90 (lv_at hl 3 rfl) ?_
                  refine lv_iload_n hx hb dX12_weight_92 rfl (lv_at hl 4 rfl) ?_
                  refine lv_isub hx hb dX12_weight_93 ?_
                  refine tz_i (nI (j_11 - j_5)) (pk_sub (a := j_11) (b := j_5) (by omega)) ?_
                  refine lv_imul hx hb dX12_weight_94 ?_
                  refine tz_i (nI (j_237 * (j_11 - j_5))) (pk_mul j_237 (j_11 - j_5)) ?_
                  refine lv_i2l (v := (nI (j_237 * (j_11 - j_5))).toInt64) hx hb dX12_weight_95 rfl ?_
                  refine lv_goto (tgt := 105) hx hb dX12_weight_96 (by decide) ?_
                  refine lv_lstore (lv' := [(6, .long (nI (j_237 * (j_11 - j_5))).toInt64), (8, .int (nI j_237)), (5, .int r_15), (4, .int (nI j_11)), (3, .int (nI j_5)), (0, .ref mo), (1, .int (nI jb)), (2, .int nb)]) hx hb dX12_weight_105 hl (by decide) rfl (fun ls hl => ?_)
                  have hv_342 : tz_wv 0 (nI (j_237 * (j_11 - j_5))).toInt64 := tz_wv0 (m := j_237 * (j_11 - j_5)) (Nat.le_trans (Nat.mul_le_mul (show _ ≤ 10 by omega) (show _ ≤ 110 by omega)) (by decide))
                  refine lv_iconst (v := 0) hx hb dX12_weight_107 (by decide) ?_
                  refine lv_istore (lv' := [(8, .int 0), (6, .long (nI (j_237 * (j_11 - j_5))).toInt64), (5, .int r_15), (4, .int (nI j_11)), (3, .int (nI j_5)), (0, .ref mo), (1, .int (nI jb)), (2, .int nb)]) hx hb dX12_weight_108 hl (by decide) rfl (fun ls hl => ?_)
                  refine tz_while (σ := Nat × Int64 × Array Slot) (fun x => W p l e _ s m _ below meth c _ _ _ _ _ (F0 m 110 x.2.2 [])) (fun x => tz_wv x.1 x.2.1 ∧ x.1 ≤ 8 ∧ lv_has x.2.2 9 [(8, .int (nI x.1)), (6, .long x.2.1), (5, .int r_15), (4, .int (nI j_11)), (3, .int (nI j_5)), (0, .ref mo), (1, .int (nI jb)), (2, .int nb)]) (fun x => 8 - x.1) ?_ (0, (nI (j_237 * (j_11 - j_5))).toInt64, ls) ⟨hv_342, by (try dsimp only); omega, hl⟩
                  rintro ⟨k_343, v_375, ls⟩ ⟨hi_407_0, hi_408_1, hl⟩ ih_409
                  dsimp only at hi_407_0 hi_408_1 hl ih_409 ⊢
                  refine lv_iload hx hb dX12_weight_110 (lv_at hl 0 rfl) ?_
                  refine lv_aload_n hx hb dX12_weight_112 rfl (lv_at hl 5 rfl) ?_
                  refine va_get (D := (dC, dI)) (ci := 12) (v := .ref nw) (C := RX12) (T := TX12) (N := 24) hx hb hts iw_m_weight_X12 hown hK hP 0 rfl rfl 0 (by decide) (hts (.fieldLink RX12 7 "ThriceCountedModel" "now" "[I") (by decide +kernel)) (fun _ h9 => h9) rfl dX12_weight_113 ?_
                  refine lv_iconst (v := 2) hx hb dX12_weight_116 (by decide) ?_
                  refine va_iald hx hb hK hP 1 0 rfl rfl (show ¬ ((2 : Int32) < 0 ∨ 350 ≤ (2 : Int32).toNatClampNeg) by decide) dX12_weight_117 ?_
                  obtain ⟨j_410, hj_411, ej_412⟩ := hOn.nat (K := 2) (n := 8) (by omega) (show tz_b 2 = (0, 8) from by decide)
                  refine tz_i (nI j_410) ej_412 ?_
                  refine lv_icmp_ge (tgt := 167) hx hb dX12_weight_118 (by decide) (fun c_413 => ?_) (fun c_413 => ?_)
                  · have hn_414 : j_410 ≤ k_343 := (nI_leI (a := j_410) (b := k_343) (by omega) (by omega)).mp c_413
                    refine lv_lload hx hb dX12_weight_167 (lv_at hl 1 rfl) ?_
                    exact W.lret (v := v_375) hx hb hr (fun t ht hW => ⟨v_375, rfl, (hi_407_0.mono (by omega) (by omega)), ht⟩) (fun _ h => absurd h List.not_mem_nil) dX12_weight_169
                  · have hn_415 : ¬ j_410 ≤ k_343 := fun q => c_413 ((nI_leI (a := j_410) (b := k_343) (by omega) (by omega)).mpr q)
                    refine lv_lload hx hb dX12_weight_121 (lv_at hl 1 rfl) ?_
                    refine lv_aload_n hx hb dX12_weight_123 rfl (lv_at hl 5 rfl) ?_
                    refine lv_iload hx hb dX12_weight_124 (lv_at hl 0 rfl) ?_
                    refine lv_iconst (v := 0) hx hb dX12_weight_126 (by decide) ?_
                    have hPc_416 := hP.sub (ws' := [(mo, .inr (12, [.ref nw, .ref kp, .ref ik, .ref mr, .long la_, .long lb_, .ref mw, .long lc_, .int ti_, .int cb_, .long ld_, .long le_, .ref mq, .ref mz, .ref my, .int sm_, .ref mb, .int bl_, .int ta_, .int tl_, .int tk_, .int vl_, .ref mx, .ref mv])), (nw, .inl (cn_, 350, .inl fn))]) [0, 1] rfl
                    have hKc_417 := hK.sub (tys' := [(cn_, .int)]) [0] rfl
                    refine vp_callSi (va_Run.run (va_runV (As := [.int (nI k_343), .int 0]) (rest := [.long v_375]) ⟨hx, hb, hml, hown, hts⟩ (m_countHas0 l dC dI mo nw kp ik mr la_ lb_ mw lc_ ti_ cb_ ld_ le_ mq mz my sm_ mb bl_ ta_ tl_ tk_ vl_ mx mv cn_ fn k_343 hOn (by omega)) (cwV 2 hts gX12_weight_X12_countHas rfl rfl rfl (by decide +kernel) ⟨Nat.le_of_ble_eq_true rfl, Nat.le_of_ble_eq_true rfl⟩) ⟨fun a U g mk q => by obtain ⟨q0, qP, qK⟩ := q; exact ⟨q0, qP, va_K.moved (u := U) (U := U.calling g mk a) (Vm.Alike.refl U.vm) qK⟩, va_recv hK hP (ci := 12) (q0 := 0) rfl rfl, fun U hU hW => ⟨rfl, by rw [hU]; exact hPc_416, va_K.moved hW.alike hKc_417⟩⟩ rfl rfl hl.1 rfl (lv_room (Nat.le_of_ble_eq_true rfl)) dX12_weight_127 ⟨Nat.le_of_ble_eq_true rfl, Nat.le_of_ble_eq_true rfl⟩)) (fun r_418 hw_419 => ?_)
                    obtain ⟨j_420, hj_421, rfl⟩ := hw_419
                    refine lv_iload_n hx hb dX12_weight_130 rfl (lv_at hl 6 rfl) ?_
                    refine lv_icmp_ne (tgt := 157) hx hb dX12_weight_131 (by decide) (fun c_422 => ?_) (fun c_422 => ?_)
                    · have hn_423 : ¬ j_420 = jb := fun q => c_422 ((nI_eq (a := j_420) (b := jb) (by omega) (by omega)).mpr q)
                      refine lv_lconst (v := 1) hx hb dX12_weight_157 (by decide) ?_
                      refine lv_lmul hx hb dX12_weight_158 ?_
                      have hv_424 : tz_wv (k_343 + 1) (v_375 * 1) := hi_407_0.one (by omega)
                      refine lv_lstore (lv' := [(6, .long (v_375 * 1)), (8, .int (nI k_343)), (5, .int r_15), (4, .int (nI j_11)), (3, .int (nI j_5)), (0, .ref mo), (1, .int (nI jb)), (2, .int nb)]) hx hb dX12_weight_159 hl (by decide) rfl (fun ls hl => ?_)
                      refine lv_iinc (v := (nI (k_343 + 1))) (lv' := [(8, .int (nI (k_343 + 1))), (6, .long (v_375 * 1)), (5, .int r_15), (4, .int (nI j_11)), (3, .int (nI j_5)), (0, .ref mo), (1, .int (nI jb)), (2, .int nb)]) hx hb dX12_weight_161 hl (k := 1) rfl (nI_add k_343 1) (by decide) rfl (fun ls hl => ?_)
                      refine lv_goto (tgt := 110) hx hb dX12_weight_164 (by decide) ?_
                      exact ih_409 ((k_343 + 1), (v_375 * 1), ls) ⟨hv_424, by dsimp only; omega, lv_sub hl [0, 1, 2, 3, 4, 5, 6, 7] rfl⟩ (by dsimp only; omega)
                    · have hn_425 : j_420 = jb := (nI_eq (a := j_420) (b := jb) (by omega) (by omega)).mp c_422
                      refine lv_aload_n hx hb dX12_weight_134 rfl (lv_at hl 5 rfl) ?_
                      refine lv_iload hx hb dX12_weight_135 (lv_at hl 0 rfl) ?_
                      refine lv_iconst (v := 1) hx hb dX12_weight_137 (by decide) ?_
                      have hPc_426 := hP.sub (ws' := [(mo, .inr (12, [.ref nw, .ref kp, .ref ik, .ref mr, .long la_, .long lb_, .ref mw, .long lc_, .int ti_, .int cb_, .long ld_, .long le_, .ref mq, .ref mz, .ref my, .int sm_, .ref mb, .int bl_, .int ta_, .int tl_, .int tk_, .int vl_, .ref mx, .ref mv])), (nw, .inl (cn_, 350, .inl fn))]) [0, 1] rfl
                      have hKc_427 := hK.sub (tys' := [(cn_, .int)]) [0] rfl
                      refine vp_callSi (va_Run.run (va_runV (As := [.int (nI k_343), .int 1]) (rest := [.long v_375]) ⟨hx, hb, hml, hown, hts⟩ (m_countHas1 l dC dI mo nw kp ik mr la_ lb_ mw lc_ ti_ cb_ ld_ le_ mq mz my sm_ mb bl_ ta_ tl_ tk_ vl_ mx mv cn_ fn k_343 hOn (by omega)) (cwV 2 hts gX12_weight_X12_countHas rfl rfl rfl (by decide +kernel) ⟨Nat.le_of_ble_eq_true rfl, Nat.le_of_ble_eq_true rfl⟩) ⟨fun a U g mk q => by obtain ⟨q0, qP, qK⟩ := q; exact ⟨q0, qP, va_K.moved (u := U) (U := U.calling g mk a) (Vm.Alike.refl U.vm) qK⟩, va_recv hK hP (ci := 12) (q0 := 0) rfl rfl, fun U hU hW => ⟨rfl, by rw [hU]; exact hPc_426, va_K.moved hW.alike hKc_427⟩⟩ rfl rfl hl.1 rfl (lv_room (Nat.le_of_ble_eq_true rfl)) dX12_weight_138 ⟨Nat.le_of_ble_eq_true rfl, Nat.le_of_ble_eq_true rfl⟩)) (fun r_428 hw_429 => ?_)
                      obtain ⟨j_430, hj_431, rfl⟩ := hw_429
                      refine lv_aload_n hx hb dX12_weight_141 rfl (lv_at hl 5 rfl) ?_
                      refine lv_iload hx hb dX12_weight_142 (lv_at hl 0 rfl) ?_
                      refine lv_iconst (v := 3) hx hb dX12_weight_144 (by decide) ?_
                      have hPc_432 := hP.sub (ws' := [(mo, .inr (12, [.ref nw, .ref kp, .ref ik, .ref mr, .long la_, .long lb_, .ref mw, .long lc_, .int ti_, .int cb_, .long ld_, .long le_, .ref mq, .ref mz, .ref my, .int sm_, .ref mb, .int bl_, .int ta_, .int tl_, .int tk_, .int vl_, .ref mx, .ref mv])), (nw, .inl (cn_, 350, .inl fn))]) [0, 1] rfl
                      have hKc_433 := hK.sub (tys' := [(cn_, .int)]) [0] rfl
                      refine vp_callSi (va_Run.run (va_runV (As := [.int (nI k_343), .int 3]) (rest := [.int (nI j_430), .long v_375]) ⟨hx, hb, hml, hown, hts⟩ (m_countHas3 l dC dI mo nw kp ik mr la_ lb_ mw lc_ ti_ cb_ ld_ le_ mq mz my sm_ mb bl_ ta_ tl_ tk_ vl_ mx mv cn_ fn k_343 hOn (by omega)) (cwV 2 hts gX12_weight_X12_countHas rfl rfl rfl (by decide +kernel) ⟨Nat.le_of_ble_eq_true rfl, Nat.le_of_ble_eq_true rfl⟩) ⟨fun a U g mk q => by obtain ⟨q0, qP, qK⟩ := q; exact ⟨q0, qP, va_K.moved (u := U) (U := U.calling g mk a) (Vm.Alike.refl U.vm) qK⟩, va_recv hK hP (ci := 12) (q0 := 0) rfl rfl, fun U hU hW => ⟨rfl, by rw [hU]; exact hPc_432, va_K.moved hW.alike hKc_433⟩⟩ rfl rfl hl.1 rfl (lv_room (Nat.le_of_ble_eq_true rfl)) dX12_weight_145 ⟨Nat.le_of_ble_eq_true rfl, Nat.le_of_ble_eq_true rfl⟩)) (fun r_434 hw_435 => ?_)
                      refine lv_iload_n hx hb dX12_weight_148 rfl (lv_at hl 7 rfl) ?_
                      refine lv_isub hx hb dX12_weight_149 ?_
                      refine lv_topi (fun x_436 _ => ?_)
                      refine vp_callSi (va_Run.run (va_runS (As := [.int (nI j_430), .int x_436]) (rest := [.long v_375]) ⟨hx, hb, hml, hown, hts⟩ (m_oddsOf l dC dI (nI j_430) x_436 (tz_cnt5 (by omega))) (va_cwS 2 hts gX12_weight_X12_oddsOf rfl rfl rfl (by decide +kernel) ⟨Nat.le_of_ble_eq_true rfl, Nat.le_of_ble_eq_true rfl⟩) ⟨fun a U g mk q => ⟨q.1, trivial⟩, fun U hU hW => ⟨rfl, trivial⟩⟩ rfl rfl hl.1 rfl (lv_room (Nat.le_of_ble_eq_true rfl)) dX12_weight_150 ⟨Nat.le_of_ble_eq_true rfl, Nat.le_of_ble_eq_true rfl⟩)) (fun r_437 hw_438 => ?_)
                      obtain rfl : (zN (yS (nI j_430)) x_436 20) = r_437 := hw_438.symm
                      obtain ⟨o_439, ho_440, eo_441⟩ : ∃ o : Nat, o ≤ 20 ∧ (zN (yS (nI j_430)) x_436 20) = nI o := tz_zN_nat _ _ 20 (by decide)
                      refine tz_i (nI o_439) eo_441 ?_
                      refine lv_i2l (v := (nI o_439).toInt64) hx hb dX12_weight_153 rfl ?_
                      refine lv_goto (tgt := 158) hx hb dX12_weight_154 (by decide) ?_
                      refine lv_lmul hx hb dX12_weight_158 ?_
                      have hv_442 : tz_wv (k_343 + 1) (v_375 * (nI o_439).toInt64) := hi_407_0.step (by omega) (by omega)
                      refine lv_lstore (lv' := [(6, .long (v_375 * (nI o_439).toInt64)), (8, .int (nI k_343)), (5, .int r_15), (4, .int (nI j_11)), (3, .int (nI j_5)), (0, .ref mo), (1, .int (nI jb)), (2, .int nb)]) hx hb dX12_weight_159 hl (by decide) rfl (fun ls hl => ?_)
                      refine lv_iinc (v := (nI (k_343 + 1))) (lv' := [(8, .int (nI (k_343 + 1))), (6, .long (v_375 * (nI o_439).toInt64)), (5, .int r_15), (4, .int (nI j_11)), (3, .int (nI j_5)), (0, .ref mo), (1, .int (nI jb)), (2, .int nb)]) hx hb dX12_weight_161 hl (k := 1) rfl (nI_add k_343 1) (by decide) rfl (fun ls hl => ?_)
                      refine lv_goto (tgt := 110) hx hb dX12_weight_164 (by decide) ?_
                      exact ih_409 ((k_343 + 1), (v_375 * (nI o_439).toInt64), ls) ⟨hv_442, by dsimp only; omega, lv_sub hl [0, 1, 2, 3, 4, 5, 6, 7] rfl⟩ (by dsimp only; omega)
              · refine lv_iadd hx hb dX12_weight_78 ?_
                refine tz_i (nI (5 + j_235)) (nI_add 5 j_235) ?_
                refine va_iald hx hb hK hP 1 0 rfl rfl (vp_in_nI (n := (5 + j_235)) (N := 350) (by omega) (by decide)) dX12_weight_79 ?_
                obtain ⟨j_443, hj_444, ej_445⟩ := hOn.natc (K := (5 + j_235)) (n := 10) (by omega) (by omega) (tz_b_tr j_235 (by omega))
                refine tz_i (nI j_443) ej_445 ?_
                refine lv_istore (lv' := [(8, .int (nI j_443)), (6, .long 1), (5, .int r_15), (4, .int (nI j_11)), (3, .int (nI j_5)), (0, .ref mo), (1, .int (nI jb)), (2, .int nb)]) hx hb dX12_weight_80 hl (by decide) rfl (fun ls hl => ?_)
                refine lv_iload_n hx hb dX12_weight_82 rfl (lv_at hl 7 rfl) ?_
                refine lv_iload hx hb dX12_weight_83 (lv_at hl 2 rfl) ?_
                refine lv_icmp_ne (tgt := 99) hx hb dX12_weight_85 (by decide) (fun c_446 => ?_) (fun c_446 => ?_)
                · refine lv_bipush (v := 10) hx hb dX12_weight_99 (by decide) ?_
                  refine lv_iload hx hb dX12_weight_101 (lv_at hl 0 rfl) ?_
                  refine lv_isub hx hb dX12_weight_103 ?_
                  refine tz_i (nI (10 - j_443)) (pk_sub (a := 10) (b := j_443) (by omega)) ?_
                  refine lv_i2l (v := (nI (10 - j_443)).toInt64) hx hb dX12_weight_104 rfl ?_
                  refine lv_lstore (lv' := [(6, .long (nI (10 - j_443)).toInt64), (8, .int (nI j_443)), (5, .int r_15), (4, .int (nI j_11)), (3, .int (nI j_5)), (0, .ref mo), (1, .int (nI jb)), (2, .int nb)]) hx hb dX12_weight_105 hl (by decide) rfl (fun ls hl => ?_)
                  have hv_447 : tz_wv 0 (nI (10 - j_443)).toInt64 := tz_wv0 (m := 10 - j_443) (by omega)
                  refine lv_iconst (v := 0) hx hb dX12_weight_107 (by decide) ?_
                  refine lv_istore (lv' := [(8, .int 0), (6, .long (nI (10 - j_443)).toInt64), (5, .int r_15), (4, .int (nI j_11)), (3, .int (nI j_5)), (0, .ref mo), (1, .int (nI jb)), (2, .int nb)]) hx hb dX12_weight_108 hl (by decide) rfl (fun ls hl => ?_)
                  refine tz_while (σ := Nat × Int64 × Array Slot) (fun x => W p l e _ s m _ below meth c _ _ _ _ _ (F0 m 110 x.2.2 [])) (fun x => tz_wv x.1 x.2.1 ∧ x.1 ≤ 8 ∧ lv_has x.2.2 9 [(8, .int (nI x.1)), (6, .long x.2.1), (5, .int r_15), (4, .int (nI j_11)), (3, .int (nI j_5)), (0, .ref mo), (1, .int (nI jb)), (2, .int nb)]) (fun x => 8 - x.1) ?_ (0, (nI (10 - j_443)).toInt64, ls) ⟨hv_447, by (try dsimp only); omega, hl⟩
                  rintro ⟨k_448, v_480, ls⟩ ⟨hi_512_0, hi_513_1, hl⟩ ih_514
                  dsimp only at hi_512_0 hi_513_1 hl ih_514 ⊢
                  refine lv_iload hx hb dX12_weight_110 (lv_at hl 0 rfl) ?_
                  refine lv_aload_n hx hb dX12_weight_112 rfl (lv_at hl 5 rfl) ?_
                  refine va_get (D := (dC, dI)) (ci := 12) (v := .ref nw) (C := RX12) (T := TX12) (N := 24) hx hb hts iw_m_weight_X12 hown hK hP 0 rfl rfl 0 (by decide) (hts (.fieldLink RX12 7 "ThriceCountedModel" "now" "[I") (by decide +kernel)) (fun _ h9 => h9) rfl dX12_weight_113 ?_
                  refine lv_iconst (v := 2) hx hb dX12_weight_116 (by decide) ?_
                  refine va_iald hx hb hK hP 1 0 rfl rfl (show ¬ ((2 : Int32) < 0 ∨ 350 ≤ (2 : Int32).toNatClampNeg) by decide) dX12_weight_117 ?_
                  obtain ⟨j_515, hj_516, ej_517⟩ := hOn.nat (K := 2) (n := 8) (by omega) (show tz_b 2 = (0, 8) from by decide)
                  refine tz_i (nI j_515) ej_517 ?_
                  refine lv_icmp_ge (tgt := 167) hx hb dX12_weight_118 (by decide) (fun c_518 => ?_) (fun c_518 => ?_)
                  · have hn_519 : j_515 ≤ k_448 := (nI_leI (a := j_515) (b := k_448) (by omega) (by omega)).mp c_518
                    refine lv_lload hx hb dX12_weight_167 (lv_at hl 1 rfl) ?_
                    exact W.lret (v := v_480) hx hb hr (fun t ht hW => ⟨v_480, rfl, (hi_512_0.mono (by omega) (by omega)), ht⟩) (fun _ h => absurd h List.not_mem_nil) dX12_weight_169
                  · have hn_520 : ¬ j_515 ≤ k_448 := fun q => c_518 ((nI_leI (a := j_515) (b := k_448) (by omega) (by omega)).mpr q)
                    refine lv_lload hx hb dX12_weight_121 (lv_at hl 1 rfl) ?_
                    refine lv_aload_n hx hb dX12_weight_123 rfl (lv_at hl 5 rfl) ?_
                    refine lv_iload hx hb dX12_weight_124 (lv_at hl 0 rfl) ?_
                    refine lv_iconst (v := 0) hx hb dX12_weight_126 (by decide) ?_
                    have hPc_521 := hP.sub (ws' := [(mo, .inr (12, [.ref nw, .ref kp, .ref ik, .ref mr, .long la_, .long lb_, .ref mw, .long lc_, .int ti_, .int cb_, .long ld_, .long le_, .ref mq, .ref mz, .ref my, .int sm_, .ref mb, .int bl_, .int ta_, .int tl_, .int tk_, .int vl_, .ref mx, .ref mv])), (nw, .inl (cn_, 350, .inl fn))]) [0, 1] rfl
                    have hKc_522 := hK.sub (tys' := [(cn_, .int)]) [0] rfl
                    refine vp_callSi (va_Run.run (va_runV (As := [.int (nI k_448), .int 0]) (rest := [.long v_480]) ⟨hx, hb, hml, hown, hts⟩ (m_countHas0 l dC dI mo nw kp ik mr la_ lb_ mw lc_ ti_ cb_ ld_ le_ mq mz my sm_ mb bl_ ta_ tl_ tk_ vl_ mx mv cn_ fn k_448 hOn (by omega)) (cwV 2 hts gX12_weight_X12_countHas rfl rfl rfl (by decide +kernel) ⟨Nat.le_of_ble_eq_true rfl, Nat.le_of_ble_eq_true rfl⟩) ⟨fun a U g mk q => by obtain ⟨q0, qP, qK⟩ := q; exact ⟨q0, qP, va_K.moved (u := U) (U := U.calling g mk a) (Vm.Alike.refl U.vm) qK⟩, va_recv hK hP (ci := 12) (q0 := 0) rfl rfl, fun U hU hW => ⟨rfl, by rw [hU]; exact hPc_521, va_K.moved hW.alike hKc_522⟩⟩ rfl rfl hl.1 rfl (lv_room (Nat.le_of_ble_eq_true rfl)) dX12_weight_127 ⟨Nat.le_of_ble_eq_true rfl, Nat.le_of_ble_eq_true rfl⟩)) (fun r_523 hw_524 => ?_)
                    obtain ⟨j_525, hj_526, rfl⟩ := hw_524
                    refine lv_iload_n hx hb dX12_weight_130 rfl (lv_at hl 6 rfl) ?_
                    refine lv_icmp_ne (tgt := 157) hx hb dX12_weight_131 (by decide) (fun c_527 => ?_) (fun c_527 => ?_)
                    · have hn_528 : ¬ j_525 = jb := fun q => c_527 ((nI_eq (a := j_525) (b := jb) (by omega) (by omega)).mpr q)
                      refine lv_lconst (v := 1) hx hb dX12_weight_157 (by decide) ?_
                      refine lv_lmul hx hb dX12_weight_158 ?_
                      have hv_529 : tz_wv (k_448 + 1) (v_480 * 1) := hi_512_0.one (by omega)
                      refine lv_lstore (lv' := [(6, .long (v_480 * 1)), (8, .int (nI k_448)), (5, .int r_15), (4, .int (nI j_11)), (3, .int (nI j_5)), (0, .ref mo), (1, .int (nI jb)), (2, .int nb)]) hx hb dX12_weight_159 hl (by decide) rfl (fun ls hl => ?_)
                      refine lv_iinc (v := (nI (k_448 + 1))) (lv' := [(8, .int (nI (k_448 + 1))), (6, .long (v_480 * 1)), (5, .int r_15), (4, .int (nI j_11)), (3, .int (nI j_5)), (0, .ref mo), (1, .int (nI jb)), (2, .int nb)]) hx hb dX12_weight_161 hl (k := 1) rfl (nI_add k_448 1) (by decide) rfl (fun ls hl => ?_)
                      refine lv_goto (tgt := 110) hx hb dX12_weight_164 (by decide) ?_
                      exact ih_514 ((k_448 + 1), (v_480 * 1), ls) ⟨hv_529, by dsimp only; omega, lv_sub hl [0, 1, 2, 3, 4, 5, 6, 7] rfl⟩ (by dsimp only; omega)
                    · have hn_530 : j_525 = jb := (nI_eq (a := j_525) (b := jb) (by omega) (by omega)).mp c_527
                      refine lv_aload_n hx hb dX12_weight_134 rfl (lv_at hl 5 rfl) ?_
                      refine lv_iload hx hb dX12_weight_135 (lv_at hl 0 rfl) ?_
                      refine lv_iconst (v := 1) hx hb dX12_weight_137 (by decide) ?_
                      have hPc_531 := hP.sub (ws' := [(mo, .inr (12, [.ref nw, .ref kp, .ref ik, .ref mr, .long la_, .long lb_, .ref mw, .long lc_, .int ti_, .int cb_, .long ld_, .long le_, .ref mq, .ref mz, .ref my, .int sm_, .ref mb, .int bl_, .int ta_, .int tl_, .int tk_, .int vl_, .ref mx, .ref mv])), (nw, .inl (cn_, 350, .inl fn))]) [0, 1] rfl
                      have hKc_532 := hK.sub (tys' := [(cn_, .int)]) [0] rfl
                      refine vp_callSi (va_Run.run (va_runV (As := [.int (nI k_448), .int 1]) (rest := [.long v_480]) ⟨hx, hb, hml, hown, hts⟩ (m_countHas1 l dC dI mo nw kp ik mr la_ lb_ mw lc_ ti_ cb_ ld_ le_ mq mz my sm_ mb bl_ ta_ tl_ tk_ vl_ mx mv cn_ fn k_448 hOn (by omega)) (cwV 2 hts gX12_weight_X12_countHas rfl rfl rfl (by decide +kernel) ⟨Nat.le_of_ble_eq_true rfl, Nat.le_of_ble_eq_true rfl⟩) ⟨fun a U g mk q => by obtain ⟨q0, qP, qK⟩ := q; exact ⟨q0, qP, va_K.moved (u := U) (U := U.calling g mk a) (Vm.Alike.refl U.vm) qK⟩, va_recv hK hP (ci := 12) (q0 := 0) rfl rfl, fun U hU hW => ⟨rfl, by rw [hU]; exact hPc_531, va_K.moved hW.alike hKc_532⟩⟩ rfl rfl hl.1 rfl (lv_room (Nat.le_of_ble_eq_true rfl)) dX12_weight_138 ⟨Nat.le_of_ble_eq_true rfl, Nat.le_of_ble_eq_true rfl⟩)) (fun r_533 hw_534 => ?_)
                      obtain ⟨j_535, hj_536, rfl⟩ := hw_534
                      refine lv_aload_n hx hb dX12_weight_141 rfl (lv_at hl 5 rfl) ?_
                      refine lv_iload hx hb dX12_weight_142 (lv_at hl 0 rfl) ?_
                      refine lv_iconst (v := 3) hx hb dX12_weight_144 (by decide) ?_
                      have hPc_537 := hP.sub (ws' := [(mo, .inr (12, [.ref nw, .ref kp, .ref ik, .ref mr, .long la_, .long lb_, .ref mw, .long lc_, .int ti_, .int cb_, .long ld_, .long le_, .ref mq, .ref mz, .ref my, .int sm_, .ref mb, .int bl_, .int ta_, .int tl_, .int tk_, .int vl_, .ref mx, .ref mv])), (nw, .inl (cn_, 350, .inl fn))]) [0, 1] rfl
                      have hKc_538 := hK.sub (tys' := [(cn_, .int)]) [0] rfl
                      refine vp_callSi (va_Run.run (va_runV (As := [.int (nI k_448), .int 3]) (rest := [.int (nI j_535), .long v_480]) ⟨hx, hb, hml, hown, hts⟩ (m_countHas3 l dC dI mo nw kp ik mr la_ lb_ mw lc_ ti_ cb_ ld_ le_ mq mz my sm_ mb bl_ ta_ tl_ tk_ vl_ mx mv cn_ fn k_448 hOn (by omega)) (cwV 2 hts gX12_weight_X12_countHas rfl rfl rfl (by decide +kernel) ⟨Nat.le_of_ble_eq_true rfl, Nat.le_of_ble_eq_true rfl⟩) ⟨fun a U g mk q => by obtain ⟨q0, qP, qK⟩ := q; exact ⟨q0, qP, va_K.moved (u := U) (U := U.calling g mk a) (Vm.Alike.refl U.vm) qK⟩, va_recv hK hP (ci := 12) (q0 := 0) rfl rfl, fun U hU hW => ⟨rfl, by rw [hU]; exact hPc_537, va_K.moved hW.alike hKc_538⟩⟩ rfl rfl hl.1 rfl (lv_room (Nat.le_of_ble_eq_true rfl)) dX12_weight_145 ⟨Nat.le_of_ble_eq_true rfl, Nat.le_of_ble_eq_true rfl⟩)) (fun r_539 hw_540 => ?_)
                      refine lv_iload_n hx hb dX12_weight_148 rfl (lv_at hl 7 rfl) ?_
                      refine lv_isub hx hb dX12_weight_149 ?_
                      refine lv_topi (fun x_541 _ => ?_)
                      refine vp_callSi (va_Run.run (va_runS (As := [.int (nI j_535), .int x_541]) (rest := [.long v_480]) ⟨hx, hb, hml, hown, hts⟩ (m_oddsOf l dC dI (nI j_535) x_541 (tz_cnt5 (by omega))) (va_cwS 2 hts gX12_weight_X12_oddsOf rfl rfl rfl (by decide +kernel) ⟨Nat.le_of_ble_eq_true rfl, Nat.le_of_ble_eq_true rfl⟩) ⟨fun a U g mk q => ⟨q.1, trivial⟩, fun U hU hW => ⟨rfl, trivial⟩⟩ rfl rfl hl.1 rfl (lv_room (Nat.le_of_ble_eq_true rfl)) dX12_weight_150 ⟨Nat.le_of_ble_eq_true rfl, Nat.le_of_ble_eq_true rfl⟩)) (fun r_542 hw_543 => ?_)
                      obtain rfl : (zN (yS (nI j_535)) x_541 20) = r_542 := hw_543.symm
                      obtain ⟨o_544, ho_545, eo_546⟩ : ∃ o : Nat, o ≤ 20 ∧ (zN (yS (nI j_535)) x_541 20) = nI o := tz_zN_nat _ _ 20 (by decide)
                      refine tz_i (nI o_544) eo_546 ?_
                      refine lv_i2l (v := (nI o_544).toInt64) hx hb dX12_weight_153 rfl ?_
                      refine lv_goto (tgt := 158) hx hb dX12_weight_154 (by decide) ?_
                      refine lv_lmul hx hb dX12_weight_158 ?_
                      have hv_547 : tz_wv (k_448 + 1) (v_480 * (nI o_544).toInt64) := hi_512_0.step (by omega) (by omega)
                      refine lv_lstore (lv' := [(6, .long (v_480 * (nI o_544).toInt64)), (8, .int (nI k_448)), (5, .int r_15), (4, .int (nI j_11)), (3, .int (nI j_5)), (0, .ref mo), (1, .int (nI jb)), (2, .int nb)]) hx hb dX12_weight_159 hl (by decide) rfl (fun ls hl => ?_)
                      refine lv_iinc (v := (nI (k_448 + 1))) (lv' := [(8, .int (nI (k_448 + 1))), (6, .long (v_480 * (nI o_544).toInt64)), (5, .int r_15), (4, .int (nI j_11)), (3, .int (nI j_5)), (0, .ref mo), (1, .int (nI jb)), (2, .int nb)]) hx hb dX12_weight_161 hl (k := 1) rfl (nI_add k_448 1) (by decide) rfl (fun ls hl => ?_)
                      refine lv_goto (tgt := 110) hx hb dX12_weight_164 (by decide) ?_
                      exact ih_514 ((k_448 + 1), (v_480 * (nI o_544).toInt64), ls) ⟨hv_547, by dsimp only; omega, lv_sub hl [0, 1, 2, 3, 4, 5, 6, 7] rfl⟩ (by dsimp only; omega)
                · refine lv_iload hx hb dX12_weight_88 (lv_at hl 0 rfl) ?_
                  refine lv_iload hx hb dX12_weight_90 (lv_at hl 3 rfl) ?_
                  refine lv_iload_n hx hb dX12_weight_92 rfl (lv_at hl 4 rfl) ?_
                  refine lv_isub hx hb dX12_weight_93 ?_
                  refine tz_i (nI (j_11 - j_5)) (pk_sub (a := j_11) (b := j_5) (by omega)) ?_
                  refine lv_imul hx hb dX12_weight_94 ?_
                  refine tz_i (nI (j_443 * (j_11 - j_5))) (pk_mul j_443 (j_11 - j_5)) ?_
                  refine lv_i2l (v := (nI (j_443 * (j_11 - j_5))).toInt64) hx hb dX12_weight_95 rfl ?_
                  refine lv_goto (tgt := 105) hx hb dX12_weight_96 (by decide) ?_
                  refine lv_lstore (lv' := [(6, .long (nI (j_443 * (j_11 - j_5))).toInt64), (8, .int (nI j_443)), (5, .int r_15), (4, .int (nI j_11)), (3, .int (nI j_5)), (0, .ref mo), (1, .int (nI jb)), (2, .int nb)]) hx hb dX12_weight_105 hl (by decide) rfl (fun ls hl => ?_)
                  have hv_548 : tz_wv 0 (nI (j_443 * (j_11 - j_5))).toInt64 := tz_wv0 (m := j_443 * (j_11 - j_5)) (Nat.le_trans (Nat.mul_le_mul (show _ ≤ 10 by omega) (show _ ≤ 110 by omega)) (by decide))
                  refine lv_iconst (v := 0) hx hb dX12_weight_107 (by decide) ?_
                  refine lv_istore (lv' := [(8, .int 0), (6, .long (nI (j_443 * (j_11 - j_5))).toInt64), (5, .int r_15), (4, .int (nI j_11)), (3, .int (nI j_5)), (0, .ref mo), (1, .int (nI jb)), (2, .int nb)]) hx hb dX12_weight_108 hl (by decide) rfl (fun ls hl => ?_)
                  refine tz_while (σ := Nat × Int64 × Array Slot) (fun x => W p l e _ s m _ below meth c _ _ _ _ _ (F0 m 110 x.2.2 [])) (fun x => tz_wv x.1 x.2.1 ∧ x.1 ≤ 8 ∧ lv_has x.2.2 9 [(8, .int (nI x.1)), (6, .long x.2.1), (5, .int r_15), (4, .int (nI j_11)), (3, .int (nI j_5)), (0, .ref mo), (1, .int (nI jb)), (2, .int nb)]) (fun x => 8 - x.1) ?_ (0, (nI (j_443 * (j_11 - j_5))).toInt64, ls) ⟨hv_548, by (try dsimp only); omega, hl⟩
                  rintro ⟨k_549, v_581, ls⟩ ⟨hi_613_0, hi_614_1, hl⟩ ih_615
                  dsimp only at hi_613_0 hi_614_1 hl ih_615 ⊢
                  refine lv_iload hx hb dX12_weight_110 (lv_at hl 0 rfl) ?_
                  refine lv_aload_n hx hb dX12_weight_112 rfl (lv_at hl 5 rfl) ?_
                  refine va_get (D := (dC, dI)) (ci := 12) (v := .ref nw) (C := RX12) (T := TX12) (N := 24) hx hb hts iw_m_weight_X12 hown hK hP 0 rfl rfl 0 (by decide) (hts (.fieldLink RX12 7 "ThriceCountedModel" "now" "[I") (by decide +kernel)) (fun _ h9 => h9) rfl dX12_weight_113 ?_
                  refine lv_iconst (v := 2) hx hb dX12_weight_116 (by decide) ?_
                  refine va_iald hx hb hK hP 1 0 rfl rfl (show ¬ ((2 : Int32) < 0 ∨ 350 ≤ (2 : Int32).toNatClampNeg) by decide) dX12_weight_117 ?_
                  obtain ⟨j_616, hj_617, ej_618⟩ := hOn.nat (K := 2) (n := 8) (by omega) (show tz_b 2 = (0, 8) from by decide)
                  refine tz_i (nI j_616) ej_618 ?_
                  refine lv_icmp_ge (tgt := 167) hx hb dX12_weight_118 (by decide) (fun c_619 => ?_) (fun c_619 => ?_)
                  · have hn_620 : j_616 ≤ k_549 := (nI_leI (a := j_616) (b := k_549) (by omega) (by omega)).mp c_619
                    refine lv_lload hx hb dX12_weight_167 (lv_at hl 1 rfl) ?_
                    exact W.lret (v := v_581) hx hb hr (fun t ht hW => ⟨v_581, rfl, (hi_613_0.mono (by omega) (by omega)), ht⟩) (fun _ h => absurd h List.not_mem_nil) dX12_weight_169
                  · have hn_621 : ¬ j_616 ≤ k_549 := fun q => c_619 ((nI_leI (a := j_616) (b := k_549) (by omega) (by omega)).mpr q)
                    refine lv_lload hx hb dX12_weight_121 (lv_at hl 1 rfl) ?_
                    refine lv_aload_n hx hb dX12_weight_123 rfl (lv_at hl 5 rfl) ?_
                    refine lv_iload hx hb dX12_weight_124 (lv_at hl 0 rfl) ?_
                    refine lv_iconst (v := 0) hx hb dX12_weight_126 (by decide) ?_
                    have hPc_622 := hP.sub (ws' := [(mo, .inr (12, [.ref nw, .ref kp, .ref ik, .ref mr, .long la_, .long lb_, .ref mw, .long lc_, .int ti_, .int cb_, .long ld_, .long le_, .ref mq, .ref mz, .ref my, .int sm_, .ref mb, .int bl_, .int ta_, .int tl_, .int tk_, .int vl_, .ref mx, .ref mv])), (nw, .inl (cn_, 350, .inl fn))]) [0, 1] rfl
                    have hKc_623 := hK.sub (tys' := [(cn_, .int)]) [0] rfl
                    refine vp_callSi (va_Run.run (va_runV (As := [.int (nI k_549), .int 0]) (rest := [.long v_581]) ⟨hx, hb, hml, hown, hts⟩ (m_countHas0 l dC dI mo nw kp ik mr la_ lb_ mw lc_ ti_ cb_ ld_ le_ mq mz my sm_ mb bl_ ta_ tl_ tk_ vl_ mx mv cn_ fn k_549 hOn (by omega)) (cwV 2 hts gX12_weight_X12_countHas rfl rfl rfl (by decide +kernel) ⟨Nat.le_of_ble_eq_true rfl, Nat.le_of_ble_eq_true rfl⟩) ⟨fun a U g mk q => by obtain ⟨q0, qP, qK⟩ := q; exact ⟨q0, qP, va_K.moved (u := U) (U := U.calling g mk a) (Vm.Alike.refl U.vm) qK⟩, va_recv hK hP (ci := 12) (q0 := 0) rfl rfl, fun U hU hW => ⟨rfl, by rw [hU]; exact hPc_622, va_K.moved hW.alike hKc_623⟩⟩ rfl rfl hl.1 rfl (lv_room (Nat.le_of_ble_eq_true rfl)) dX12_weight_127 ⟨Nat.le_of_ble_eq_true rfl, Nat.le_of_ble_eq_true rfl⟩)) (fun r_624 hw_625 => ?_)
                    obtain ⟨j_626, hj_627, rfl⟩ := hw_625
                    refine lv_iload_n hx hb dX12_weight_130 rfl (lv_at hl 6 rfl) ?_
                    refine lv_icmp_ne (tgt := 157) hx hb dX12_weight_131 (by decide) (fun c_628 => ?_) (fun c_628 => ?_)
                    · have hn_629 : ¬ j_626 = jb := fun q => c_628 ((nI_eq (a := j_626) (b := jb) (by omega) (by omega)).mpr q)
                      refine lv_lconst (v := 1) hx hb dX12_weight_157 (by decide) ?_
                      refine lv_lmul hx hb dX12_weight_158 ?_
                      have hv_630 : tz_wv (k_549 + 1) (v_581 * 1) := hi_613_0.one (by omega)
                      refine lv_lstore (lv' := [(6, .long (v_581 * 1)), (8, .int (nI k_549)), (5, .int r_15), (4, .int (nI j_11)), (3, .int (nI j_5)), (0, .ref mo), (1, .int (nI jb)), (2, .int nb)]) hx hb dX12_weight_159 hl (by decide) rfl (fun ls hl => ?_)
                      refine lv_iinc (v := (nI (k_549 + 1))) (lv' := [(8, .int (nI (k_549 + 1))), (6, .long (v_581 * 1)), (5, .int r_15), (4, .int (nI j_11)), (3, .int (nI j_5)), (0, .ref mo), (1, .int (nI jb)), (2, .int nb)]) hx hb dX12_weight_161 hl (k := 1) rfl (nI_add k_549 1) (by decide) rfl (fun ls hl => ?_)
                      refine lv_goto (tgt := 110) hx hb dX12_weight_164 (by decide) ?_
                      exact ih_615 ((k_549 + 1), (v_581 * 1), ls) ⟨hv_630, by dsimp only; omega, lv_sub hl [0, 1, 2, 3, 4, 5, 6, 7] rfl⟩ (by dsimp only; omega)
                    · have hn_631 : j_626 = jb := (nI_eq (a := j_626) (b := jb) (by omega) (by omega)).mp c_628
                      refine lv_aload_n hx hb dX12_weight_134 rfl (lv_at hl 5 rfl) ?_
                      refine lv_iload hx hb dX12_weight_135 (lv_at hl 0 rfl) ?_
                      refine lv_iconst (v := 1) hx hb dX12_weight_137 (by decide) ?_
                      have hPc_632 := hP.sub (ws' := [(mo, .inr (12, [.ref nw, .ref kp, .ref ik, .ref mr, .long la_, .long lb_, .ref mw, .long lc_, .int ti_, .int cb_, .long ld_, .long le_, .ref mq, .ref mz, .ref my, .int sm_, .ref mb, .int bl_, .int ta_, .int tl_, .int tk_, .int vl_, .ref mx, .ref mv])), (nw, .inl (cn_, 350, .inl fn))]) [0, 1] rfl
                      have hKc_633 := hK.sub (tys' := [(cn_, .int)]) [0] rfl
                      refine vp_callSi (va_Run.run (va_runV (As := [.int (nI k_549), .int 1]) (rest := [.long v_581]) ⟨hx, hb, hml, hown, hts⟩ (m_countHas1 l dC dI mo nw kp ik mr la_ lb_ mw lc_ ti_ cb_ ld_ le_ mq mz my sm_ mb bl_ ta_ tl_ tk_ vl_ mx mv cn_ fn k_549 hOn (by omega)) (cwV 2 hts gX12_weight_X12_countHas rfl rfl rfl (by decide +kernel) ⟨Nat.le_of_ble_eq_true rfl, Nat.le_of_ble_eq_true rfl⟩) ⟨fun a U g mk q => by obtain ⟨q0, qP, qK⟩ := q; exact ⟨q0, qP, va_K.moved (u := U) (U := U.calling g mk a) (Vm.Alike.refl U.vm) qK⟩, va_recv hK hP (ci := 12) (q0 := 0) rfl rfl, fun U hU hW => ⟨rfl, by rw [hU]; exact hPc_632, va_K.moved hW.alike hKc_633⟩⟩ rfl rfl hl.1 rfl (lv_room (Nat.le_of_ble_eq_true rfl)) dX12_weight_138 ⟨Nat.le_of_ble_eq_true rfl, Nat.le_of_ble_eq_true rfl⟩)) (fun r_634 hw_635 => ?_)
                      obtain ⟨j_636, hj_637, rfl⟩ := hw_635
                      refine lv_aload_n hx hb dX12_weight_141 rfl (lv_at hl 5 rfl) ?_
                      refine lv_iload hx hb dX12_weight_142 (lv_at hl 0 rfl) ?_
                      refine lv_iconst (v := 3) hx hb dX12_weight_144 (by decide) ?_
                      have hPc_638 := hP.sub (ws' := [(mo, .inr (12, [.ref nw, .ref kp, .ref ik, .ref mr, .long la_, .long lb_, .ref mw, .long lc_, .int ti_, .int cb_, .long ld_, .long le_, .ref mq, .ref mz, .ref my, .int sm_, .ref mb, .int bl_, .int ta_, .int tl_, .int tk_, .int vl_, .ref mx, .ref mv])), (nw, .inl (cn_, 350, .inl fn))]) [0, 1] rfl
                      have hKc_639 := hK.sub (tys' := [(cn_, .int)]) [0] rfl
                      refine vp_callSi (va_Run.run (va_runV (As := [.int (nI k_549), .int 3]) (rest := [.int (nI j_636), .long v_581]) ⟨hx, hb, hml, hown, hts⟩ (m_countHas3 l dC dI mo nw kp ik mr la_ lb_ mw lc_ ti_ cb_ ld_ le_ mq mz my sm_ mb bl_ ta_ tl_ tk_ vl_ mx mv cn_ fn k_549 hOn (by omega)) (cwV 2 hts gX12_weight_X12_countHas rfl rfl rfl (by decide +kernel) ⟨Nat.le_of_ble_eq_true rfl, Nat.le_of_ble_eq_true rfl⟩) ⟨fun a U g mk q => by obtain ⟨q0, qP, qK⟩ := q; exact ⟨q0, qP, va_K.moved (u := U) (U := U.calling g mk a) (Vm.Alike.refl U.vm) qK⟩, va_recv hK hP (ci := 12) (q0 := 0) rfl rfl, fun U hU hW => ⟨rfl, by rw [hU]; exact hPc_638, va_K.moved hW.alike hKc_639⟩⟩ rfl rfl hl.1 rfl (lv_room (Nat.le_of_ble_eq_true rfl)) dX12_weight_145 ⟨Nat.le_of_ble_eq_true rfl, Nat.le_of_ble_eq_true rfl⟩)) (fun r_640 hw_641 => ?_)
                      refine lv_iload_n hx hb dX12_weight_148 rfl (lv_at hl 7 rfl) ?_
                      refine lv_isub hx hb dX12_weight_149 ?_
                      refine lv_topi (fun x_642 _ => ?_)
                      refine vp_callSi (va_Run.run (va_runS (As := [.int (nI j_636), .int x_642]) (rest := [.long v_581]) ⟨hx, hb, hml, hown, hts⟩ (m_oddsOf l dC dI (nI j_636) x_642 (tz_cnt5 (by omega))) (va_cwS 2 hts gX12_weight_X12_oddsOf rfl rfl rfl (by decide +kernel) ⟨Nat.le_of_ble_eq_true rfl, Nat.le_of_ble_eq_true rfl⟩) ⟨fun a U g mk q => ⟨q.1, trivial⟩, fun U hU hW => ⟨rfl, trivial⟩⟩ rfl rfl hl.1 rfl (lv_room (Nat.le_of_ble_eq_true rfl)) dX12_weight_150 ⟨Nat.le_of_ble_eq_true rfl, Nat.le_of_ble_eq_true rfl⟩)) (fun r_643 hw_644 => ?_)
                      obtain rfl : (zN (yS (nI j_636)) x_642 20) = r_643 := hw_644.symm
                      obtain ⟨o_645, ho_646, eo_647⟩ : ∃ o : Nat, o ≤ 20 ∧ (zN (yS (nI j_636)) x_642 20) = nI o := tz_zN_nat _ _ 20 (by decide)
                      refine tz_i (nI o_645) eo_647 ?_
                      refine lv_i2l (v := (nI o_645).toInt64) hx hb dX12_weight_153 rfl ?_
                      refine lv_goto (tgt := 158) hx hb dX12_weight_154 (by decide) ?_
                      refine lv_lmul hx hb dX12_weight_158 ?_
                      have hv_648 : tz_wv (k_549 + 1) (v_581 * (nI o_645).toInt64) := hi_613_0.step (by omega) (by omega)
                      refine lv_lstore (lv' := [(6, .long (v_581 * (nI o_645).toInt64)), (8, .int (nI k_549)), (5, .int r_15), (4, .int (nI j_11)), (3, .int (nI j_5)), (0, .ref mo), (1, .int (nI jb)), (2, .int nb)]) hx hb dX12_weight_159 hl (by decide) rfl (fun ls hl => ?_)
                      refine lv_iinc (v := (nI (k_549 + 1))) (lv' := [(8, .int (nI (k_549 + 1))), (6, .long (v_581 * (nI o_645).toInt64)), (5, .int r_15), (4, .int (nI j_11)), (3, .int (nI j_5)), (0, .ref mo), (1, .int (nI jb)), (2, .int nb)]) hx hb dX12_weight_161 hl (k := 1) rfl (nI_add k_549 1) (by decide) rfl (fun ls hl => ?_)
                      refine lv_goto (tgt := 110) hx hb dX12_weight_164 (by decide) ?_
                      exact ih_615 ((k_549 + 1), (v_581 * (nI o_645).toInt64), ls) ⟨hv_648, by dsimp only; omega, lv_sub hl [0, 1, 2, 3, 4, 5, 6, 7] rfl⟩ (by dsimp only; omega)
        · obtain rfl : 0 = r_123 := (hw_124.trans (if_neg (fun z => hc_125 ((tz_in64 (by first | rfl | decide) rfl (by first | rfl | decide)).mp z)))).symm
          refine lv_if_eq (tgt := 107) hx hb dX12_weight_58 (by decide) (fun c_649 => ?_) (fun c_649 => ?_)
          · have hv_650 : tz_wv 0 1 := tz_wv1
            refine lv_iconst (v := 0) hx hb dX12_weight_107 (by decide) ?_
            refine lv_istore (lv' := [(8, .int 0), (6, .long 1), (5, .int r_15), (4, .int (nI j_11)), (3, .int (nI j_5)), (0, .ref mo), (1, .int (nI jb)), (2, .int nb)]) hx hb dX12_weight_108 hl (by decide) rfl (fun ls hl => ?_)
            refine tz_while (σ := Nat × Int64 × Array Slot) (fun x => W p l e _ s m _ below meth c _ _ _ _ _ (F0 m 110 x.2.2 [])) (fun x => tz_wv x.1 x.2.1 ∧ x.1 ≤ 8 ∧ lv_has x.2.2 9 [(8, .int (nI x.1)), (6, .long x.2.1), (5, .int r_15), (4, .int (nI j_11)), (3, .int (nI j_5)), (0, .ref mo), (1, .int (nI jb)), (2, .int nb)]) (fun x => 8 - x.1) ?_ (0, 1, ls) ⟨hv_650, by (try dsimp only); omega, hl⟩
            rintro ⟨k_651, v_683, ls⟩ ⟨hi_715_0, hi_716_1, hl⟩ ih_717
            dsimp only at hi_715_0 hi_716_1 hl ih_717 ⊢
            refine lv_iload hx hb dX12_weight_110 (lv_at hl 0 rfl) ?_
            refine lv_aload_n hx hb dX12_weight_112 rfl (lv_at hl 5 rfl) ?_
            refine va_get (D := (dC, dI)) (ci := 12) (v := .ref nw) (C := RX12) (T := TX12) (N := 24) hx hb hts iw_m_weight_X12 hown hK hP 0 rfl rfl 0 (by decide) (hts (.fieldLink RX12 7 "ThriceCountedModel" "now" "[I") (by decide +kernel)) (fun _ h9 => h9) rfl dX12_weight_113 ?_
            refine lv_iconst (v := 2) hx hb dX12_weight_116 (by decide) ?_
            refine va_iald hx hb hK hP 1 0 rfl rfl (show ¬ ((2 : Int32) < 0 ∨ 350 ≤ (2 : Int32).toNatClampNeg) by decide) dX12_weight_117 ?_
            obtain ⟨j_718, hj_719, ej_720⟩ := hOn.nat (K := 2) (n := 8) (by omega) (show tz_b 2 = (0, 8) from by decide)
            refine tz_i (nI j_718) ej_720 ?_
            refine lv_icmp_ge (tgt := 167) hx hb dX12_weight_118 (by decide) (fun c_721 => ?_) (fun c_721 => ?_)
            · have hn_722 : j_718 ≤ k_651 := (nI_leI (a := j_718) (b := k_651) (by omega) (by omega)).mp c_721
              refine lv_lload hx hb dX12_weight_167 (lv_at hl 1 rfl) ?_
              exact W.lret (v := v_683) hx hb hr (fun t ht hW => ⟨v_683, rfl, (hi_715_0.mono (by omega) (by omega)), ht⟩) (fun _ h => absurd h List.not_mem_nil) dX12_weight_169
            · have hn_723 : ¬ j_718 ≤ k_651 := fun q => c_721 ((nI_leI (a := j_718) (b := k_651) (by omega) (by omega)).mpr q)
              refine lv_lload hx hb dX12_weight_121 (lv_at hl 1 rfl) ?_
              refine lv_aload_n hx hb dX12_weight_123 rfl (lv_at hl 5 rfl) ?_
              refine lv_iload hx hb dX12_weight_124 (lv_at hl 0 rfl) ?_
              refine lv_iconst (v := 0) hx hb dX12_weight_126 (by decide) ?_
              have hPc_724 := hP.sub (ws' := [(mo, .inr (12, [.ref nw, .ref kp, .ref ik, .ref mr, .long la_, .long lb_, .ref mw, .long lc_, .int ti_, .int cb_, .long ld_, .long le_, .ref mq, .ref mz, .ref my, .int sm_, .ref mb, .int bl_, .int ta_, .int tl_, .int tk_, .int vl_, .ref mx, .ref mv])), (nw, .inl (cn_, 350, .inl fn))]) [0, 1] rfl
              have hKc_725 := hK.sub (tys' := [(cn_, .int)]) [0] rfl
              refine vp_callSi (va_Run.run (va_runV (As := [.int (nI k_651), .int 0]) (rest := [.long v_683]) ⟨hx, hb, hml, hown, hts⟩ (m_countHas0 l dC dI mo nw kp ik mr la_ lb_ mw lc_ ti_ cb_ ld_ le_ mq mz my sm_ mb bl_ ta_ tl_ tk_ vl_ mx mv cn_ fn k_651 hOn (by omega)) (cwV 2 hts gX12_weight_X12_countHas rfl rfl rfl (by decide +kernel) ⟨Nat.le_of_ble_eq_true rfl, Nat.le_of_ble_eq_true rfl⟩) ⟨fun a U g mk q => by obtain ⟨q0, qP, qK⟩ := q; exact ⟨q0, qP, va_K.moved (u := U) (U := U.calling g mk a) (Vm.Alike.refl U.vm) qK⟩, va_recv hK hP (ci := 12) (q0 := 0) rfl rfl, fun U hU hW => ⟨rfl, by rw [hU]; exact hPc_724, va_K.moved hW.alike hKc_725⟩⟩ rfl rfl hl.1 rfl (lv_room (Nat.le_of_ble_eq_true rfl)) dX12_weight_127 ⟨Nat.le_of_ble_eq_true rfl, Nat.le_of_ble_eq_true rfl⟩)) (fun r_726 hw_727 => ?_)
              obtain ⟨j_728, hj_729, rfl⟩ := hw_727
              refine lv_iload_n hx hb dX12_weight_130 rfl (lv_at hl 6 rfl) ?_
              refine lv_icmp_ne (tgt := 157) hx hb dX12_weight_131 (by decide) (fun c_730 => ?_) (fun c_730 => ?_)
              · have hn_731 : ¬ j_728 = jb := fun q => c_730 ((nI_eq (a := j_728) (b := jb) (by omega) (by omega)).mpr q)
                refine lv_lconst (v := 1) hx hb dX12_weight_157 (by decide) ?_
                refine lv_lmul hx hb dX12_weight_158 ?_
                have hv_732 : tz_wv (k_651 + 1) (v_683 * 1) := hi_715_0.one (by omega)
                refine lv_lstore (lv' := [(6, .long (v_683 * 1)), (8, .int (nI k_651)), (5, .int r_15), (4, .int (nI j_11)), (3, .int (nI j_5)), (0, .ref mo), (1, .int (nI jb)), (2, .int nb)]) hx hb dX12_weight_159 hl (by decide) rfl (fun ls hl => ?_)
                refine lv_iinc (v := (nI (k_651 + 1))) (lv' := [(8, .int (nI (k_651 + 1))), (6, .long (v_683 * 1)), (5, .int r_15), (4, .int (nI j_11)), (3, .int (nI j_5)), (0, .ref mo), (1, .int (nI jb)), (2, .int nb)]) hx hb dX12_weight_161 hl (k := 1) rfl (nI_add k_651 1) (by decide) rfl (fun ls hl => ?_)
                refine lv_goto (tgt := 110) hx hb dX12_weight_164 (by decide) ?_
                exact ih_717 ((k_651 + 1), (v_683 * 1), ls) ⟨hv_732, by dsimp only; omega, lv_sub hl [0, 1, 2, 3, 4, 5, 6, 7] rfl⟩ (by dsimp only; omega)
              · have hn_733 : j_728 = jb := (nI_eq (a := j_728) (b := jb) (by omega) (by omega)).mp c_730
                refine lv_aload_n hx hb dX12_weight_134 rfl (lv_at hl 5 rfl) ?_
                refine lv_iload hx hb dX12_weight_135 (lv_at hl 0 rfl) ?_
                refine lv_iconst (v := 1) hx hb dX12_weight_137 (by decide) ?_
                have hPc_734 := hP.sub (ws' := [(mo, .inr (12, [.ref nw, .ref kp, .ref ik, .ref mr, .long la_, .long lb_, .ref mw, .long lc_, .int ti_, .int cb_, .long ld_, .long le_, .ref mq, .ref mz, .ref my, .int sm_, .ref mb, .int bl_, .int ta_, .int tl_, .int tk_, .int vl_, .ref mx, .ref mv])), (nw, .inl (cn_, 350, .inl fn))]) [0, 1] rfl
                have hKc_735 := hK.sub (tys' := [(cn_, .int)]) [0] rfl
                refine vp_callSi (va_Run.run (va_runV (As := [.int (nI k_651), .int 1]) (rest := [.long v_683]) ⟨hx, hb, hml, hown, hts⟩ (m_countHas1 l dC dI mo nw kp ik mr la_ lb_ mw lc_ ti_ cb_ ld_ le_ mq mz my sm_ mb bl_ ta_ tl_ tk_ vl_ mx mv cn_ fn k_651 hOn (by omega)) (cwV 2 hts gX12_weight_X12_countHas rfl rfl rfl (by decide +kernel) ⟨Nat.le_of_ble_eq_true rfl, Nat.le_of_ble_eq_true rfl⟩) ⟨fun a U g mk q => by obtain ⟨q0, qP, qK⟩ := q; exact ⟨q0, qP, va_K.moved (u := U) (U := U.calling g mk a) (Vm.Alike.refl U.vm) qK⟩, va_recv hK hP (ci := 12) (q0 := 0) rfl rfl, fun U hU hW => ⟨rfl, by rw [hU]; exact hPc_734, va_K.moved hW.alike hKc_735⟩⟩ rfl rfl hl.1 rfl (lv_room (Nat.le_of_ble_eq_true rfl)) dX12_weight_138 ⟨Nat.le_of_ble_eq_true rfl, Nat.le_of_ble_eq_true rfl⟩)) (fun r_736 hw_737 => ?_)
                obtain ⟨j_738, hj_739, rfl⟩ := hw_737
                refine lv_aload_n hx hb dX12_weight_141 rfl (lv_at hl 5 rfl) ?_
                refine lv_iload hx hb dX12_weight_142 (lv_at hl 0 rfl) ?_
                refine lv_iconst (v := 3) hx hb dX12_weight_144 (by decide) ?_
                have hPc_740 := hP.sub (ws' := [(mo, .inr (12, [.ref nw, .ref kp, .ref ik, .ref mr, .long la_, .long lb_, .ref mw, .long lc_, .int ti_, .int cb_, .long ld_, .long le_, .ref mq, .ref mz, .ref my, .int sm_, .ref mb, .int bl_, .int ta_, .int tl_, .int tk_, .int vl_, .ref mx, .ref mv])), (nw, .inl (cn_, 350, .inl fn))]) [0, 1] rfl
                have hKc_741 := hK.sub (tys' := [(cn_, .int)]) [0] rfl
                refine vp_callSi (va_Run.run (va_runV (As := [.int (nI k_651), .int 3]) (rest := [.int (nI j_738), .long v_683]) ⟨hx, hb, hml, hown, hts⟩ (m_countHas3 l dC dI mo nw kp ik mr la_ lb_ mw lc_ ti_ cb_ ld_ le_ mq mz my sm_ mb bl_ ta_ tl_ tk_ vl_ mx mv cn_ fn k_651 hOn (by omega)) (cwV 2 hts gX12_weight_X12_countHas rfl rfl rfl (by decide +kernel) ⟨Nat.le_of_ble_eq_true rfl, Nat.le_of_ble_eq_true rfl⟩) ⟨fun a U g mk q => by obtain ⟨q0, qP, qK⟩ := q; exact ⟨q0, qP, va_K.moved (u := U) (U := U.calling g mk a) (Vm.Alike.refl U.vm) qK⟩, va_recv hK hP (ci := 12) (q0 := 0) rfl rfl, fun U hU hW => ⟨rfl, by rw [hU]; exact hPc_740, va_K.moved hW.alike hKc_741⟩⟩ rfl rfl hl.1 rfl (lv_room (Nat.le_of_ble_eq_true rfl)) dX12_weight_145 ⟨Nat.le_of_ble_eq_true rfl, Nat.le_of_ble_eq_true rfl⟩)) (fun r_742 hw_743 => ?_)
                refine lv_iload_n hx hb dX12_weight_148 rfl (lv_at hl 7 rfl) ?_
                refine lv_isub hx hb dX12_weight_149 ?_
                refine lv_topi (fun x_744 _ => ?_)
                refine vp_callSi (va_Run.run (va_runS (As := [.int (nI j_738), .int x_744]) (rest := [.long v_683]) ⟨hx, hb, hml, hown, hts⟩ (m_oddsOf l dC dI (nI j_738) x_744 (tz_cnt5 (by omega))) (va_cwS 2 hts gX12_weight_X12_oddsOf rfl rfl rfl (by decide +kernel) ⟨Nat.le_of_ble_eq_true rfl, Nat.le_of_ble_eq_true rfl⟩) ⟨fun a U g mk q => ⟨q.1, trivial⟩, fun U hU hW => ⟨rfl, trivial⟩⟩ rfl rfl hl.1 rfl (lv_room (Nat.le_of_ble_eq_true rfl)) dX12_weight_150 ⟨Nat.le_of_ble_eq_true rfl, Nat.le_of_ble_eq_true rfl⟩)) (fun r_745 hw_746 => ?_)
                obtain rfl : (zN (yS (nI j_738)) x_744 20) = r_745 := hw_746.symm
                obtain ⟨o_747, ho_748, eo_749⟩ : ∃ o : Nat, o ≤ 20 ∧ (zN (yS (nI j_738)) x_744 20) = nI o := tz_zN_nat _ _ 20 (by decide)
                refine tz_i (nI o_747) eo_749 ?_
                refine lv_i2l (v := (nI o_747).toInt64) hx hb dX12_weight_153 rfl ?_
                refine lv_goto (tgt := 158) hx hb dX12_weight_154 (by decide) ?_
                refine lv_lmul hx hb dX12_weight_158 ?_
                have hv_750 : tz_wv (k_651 + 1) (v_683 * (nI o_747).toInt64) := hi_715_0.step (by omega) (by omega)
                refine lv_lstore (lv' := [(6, .long (v_683 * (nI o_747).toInt64)), (8, .int (nI k_651)), (5, .int r_15), (4, .int (nI j_11)), (3, .int (nI j_5)), (0, .ref mo), (1, .int (nI jb)), (2, .int nb)]) hx hb dX12_weight_159 hl (by decide) rfl (fun ls hl => ?_)
                refine lv_iinc (v := (nI (k_651 + 1))) (lv' := [(8, .int (nI (k_651 + 1))), (6, .long (v_683 * (nI o_747).toInt64)), (5, .int r_15), (4, .int (nI j_11)), (3, .int (nI j_5)), (0, .ref mo), (1, .int (nI jb)), (2, .int nb)]) hx hb dX12_weight_161 hl (k := 1) rfl (nI_add k_651 1) (by decide) rfl (fun ls hl => ?_)
                refine lv_goto (tgt := 110) hx hb dX12_weight_164 (by decide) ?_
                exact ih_717 ((k_651 + 1), (v_683 * (nI o_747).toInt64), ls) ⟨hv_750, by dsimp only; omega, lv_sub hl [0, 1, 2, 3, 4, 5, 6, 7] rfl⟩ (by dsimp only; omega)
          · exact absurd c_649 (by decide)
    · exact absurd c_20 (by decide)
  · obtain rfl : 0 = r_17 := (hw_18.trans (if_neg (fun z => hc_19 ((tz_in64 (by first | rfl | decide) rfl (by first | rfl | decide)).mp z)))).symm
    refine lv_if_ne (tgt := 38) hx hb dX12_weight_33 (by decide) (fun c_751 => ?_) (fun c_751 => ?_)
    · exact absurd c_751 (by decide)
    · refine lv_lconst (v := 0) hx hb dX12_weight_36 (by decide) ?_
      exact W.lret (v := 0) hx hb hr (fun t ht hW => ⟨0, rfl, tz_wvz, ht⟩) (fun _ h => absurd h List.not_mem_nil) dX12_weight_37
set_option maxRecDepth 20000 in
theorem ggX12_weigh_X12_weight : GoodIn wsX12_weigh wsX12_weight := goodIn_r _ [9, 10, 11, 12, 13, 8, 14, 15, 16, 17, 18, 19, 20, 21, 22, 23, 24, 25, 26, 27, 28, 29, 30, 31, 32, 33, 34, 35, 36, 37, 38, 39, 40, 41, 42, 43, 44, 45, 46, 47, 48, 49, 50, 51, 52, 53, 54, 55, 56, 57, 58, 59] (by decide +kernel) (by decide +kernel)
set_option maxRecDepth 20000 in
theorem gX12_weigh_X12_weight : GoodIn wsX12_weigh (wsV RX12 161 RX12 yX12_weight wsX12_weight) := goodIn_app (goodIn_of _ (by decide +kernel)) ggX12_weigh_X12_weight
theorem dX12_weigh_0 : decode cX12_weigh 0 = .ok (.aload_n 0, 1) := by decide +kernel
theorem dX12_weigh_1 : decode cX12_weigh 1 = .ok (.lconst 0, 1) := by decide +kernel
theorem dX12_weigh_2 : decode cX12_weigh 2 = .ok (.putfield 151, 3) := by decide +kernel
theorem dX12_weigh_5 : decode cX12_weigh 5 = .ok (.aload_n 0, 1) := by decide +kernel
theorem dX12_weigh_6 : decode cX12_weigh 6 = .ok (.iconst (-1), 1) := by decide +kernel
theorem dX12_weigh_7 : decode cX12_weigh 7 = .ok (.putfield 154, 3) := by decide +kernel
theorem dX12_weigh_10 : decode cX12_weigh 10 = .ok (.aload_n 0, 1) := by decide +kernel
theorem dX12_weigh_11 : decode cX12_weigh 11 = .ok (.iconst 0, 1) := by decide +kernel
theorem dX12_weigh_12 : decode cX12_weigh 12 = .ok (.putfield 158, 3) := by decide +kernel
theorem dX12_weigh_15 : decode cX12_weigh 15 = .ok (.bipush 90, 2) := by decide +kernel
theorem dX12_weigh_17 : decode cX12_weigh 17 = .ok (.istore_n 2, 1) := by decide +kernel
theorem dX12_weigh_18 : decode cX12_weigh 18 = .ok (.iload_n 2, 1) := by decide +kernel
theorem dX12_weigh_19 : decode cX12_weigh 19 = .ok (.bipush 110, 2) := by decide +kernel
theorem dX12_weigh_21 : decode cX12_weigh 21 = .ok (.if_icmp .gt 99, 3) := by decide +kernel
theorem dX12_weigh_24 : decode cX12_weigh 24 = .ok (.aload_n 0, 1) := by decide +kernel
theorem dX12_weigh_25 : decode cX12_weigh 25 = .ok (.iload_n 1, 1) := by decide +kernel
theorem dX12_weigh_26 : decode cX12_weigh 26 = .ok (.iload_n 2, 1) := by decide +kernel
theorem dX12_weigh_27 : decode cX12_weigh 27 = .ok (.invokevirtual 161, 3) := by decide +kernel
theorem dX12_weigh_30 : decode cX12_weigh 30 = .ok (.lstore_n 3, 1) := by decide +kernel
theorem dX12_weigh_31 : decode cX12_weigh 31 = .ok (.aload_n 0, 1) := by decide +kernel
theorem dX12_weigh_32 : decode cX12_weigh 32 = .ok (.getfield 27, 3) := by decide +kernel
theorem dX12_weigh_35 : decode cX12_weigh 35 = .ok (.iload_n 2, 1) := by decide +kernel
theorem dX12_weigh_36 : decode cX12_weigh 36 = .ok (.bipush 90, 2) := by decide +kernel
theorem dX12_weigh_38 : decode cX12_weigh 38 = .ok (.isub, 1) := by decide +kernel
theorem dX12_weigh_39 : decode cX12_weigh 39 = .ok (.lload_n 3, 1) := by decide +kernel
theorem dX12_weigh_40 : decode cX12_weigh 40 = .ok (.lastore, 1) := by decide +kernel
theorem dX12_weigh_41 : decode cX12_weigh 41 = .ok (.aload_n 0, 1) := by decide +kernel
theorem dX12_weigh_42 : decode cX12_weigh 42 = .ok (.dup, 1) := by decide +kernel
theorem dX12_weigh_43 : decode cX12_weigh 43 = .ok (.getfield 151, 3) := by decide +kernel
theorem dX12_weigh_46 : decode cX12_weigh 46 = .ok (.lload_n 3, 1) := by decide +kernel
theorem dX12_weigh_47 : decode cX12_weigh 47 = .ok (.ladd, 1) := by decide +kernel
theorem dX12_weigh_48 : decode cX12_weigh 48 = .ok (.putfield 151, 3) := by decide +kernel
theorem dX12_weigh_51 : decode cX12_weigh 51 = .ok (.aload_n 0, 1) := by decide +kernel
theorem dX12_weigh_52 : decode cX12_weigh 52 = .ok (.dup, 1) := by decide +kernel
theorem dX12_weigh_53 : decode cX12_weigh 53 = .ok (.getfield 158, 3) := by decide +kernel
theorem dX12_weigh_56 : decode cX12_weigh 56 = .ok (.lload_n 3, 1) := by decide +kernel
theorem dX12_weigh_57 : decode cX12_weigh 57 = .ok (.lconst 0, 1) := by decide +kernel
theorem dX12_weigh_58 : decode cX12_weigh 58 = .ok (.lcmp, 1) := by decide +kernel
theorem dX12_weigh_59 : decode cX12_weigh 59 = .ok (.ifCond .le 7, 3) := by decide +kernel
theorem dX12_weigh_66 : decode cX12_weigh 66 = .ok (.iconst 0, 1) := by decide +kernel
theorem dX12_weigh_67 : decode cX12_weigh 67 = .ok (.iadd, 1) := by decide +kernel
theorem dX12_weigh_68 : decode cX12_weigh 68 = .ok (.putfield 158, 3) := by decide +kernel
theorem dX12_weigh_71 : decode cX12_weigh 71 = .ok (.aload_n 0, 1) := by decide +kernel
theorem dX12_weigh_72 : decode cX12_weigh 72 = .ok (.lload_n 3, 1) := by decide +kernel
theorem dX12_weigh_73 : decode cX12_weigh 73 = .ok (.lconst 0, 1) := by decide +kernel
theorem dX12_weigh_74 : decode cX12_weigh 74 = .ok (.lcmp, 1) := by decide +kernel
theorem dX12_weigh_75 : decode cX12_weigh 75 = .ok (.ifCond .le 32, 3) := by decide +kernel
theorem dX12_weigh_107 : decode cX12_weigh 107 = .ok (.aload_n 0, 1) := by decide +kernel
theorem dX12_weigh_108 : decode cX12_weigh 108 = .ok (.getfield 154, 3) := by decide +kernel
theorem dX12_weigh_111 : decode cX12_weigh 111 = .ok (.putfield 154, 3) := by decide +kernel
theorem dX12_weigh_114 : decode cX12_weigh 114 = .ok (.iinc 2 1, 3) := by decide +kernel
theorem dX12_weigh_117 : decode cX12_weigh 117 = .ok (.goto (-99), 3) := by decide +kernel
theorem dX12_weigh_78 : decode cX12_weigh 78 = .ok (.aload_n 0, 1) := by decide +kernel
theorem dX12_weigh_79 : decode cX12_weigh 79 = .ok (.getfield 154, 3) := by decide +kernel
theorem dX12_weigh_82 : decode cX12_weigh 82 = .ok (.iconst (-1), 1) := by decide +kernel
theorem dX12_weigh_83 : decode cX12_weigh 83 = .ok (.if_icmp .eq 20, 3) := by decide +kernel
theorem dX12_weigh_103 : decode cX12_weigh 103 = .ok (.iload_n 2, 1) := by decide +kernel
theorem dX12_weigh_104 : decode cX12_weigh 104 = .ok (.goto 7, 3) := by decide +kernel
theorem dX12_weigh_62 : decode cX12_weigh 62 = .ok (.iconst 1, 1) := by decide +kernel
theorem dX12_weigh_63 : decode cX12_weigh 63 = .ok (.goto 4, 3) := by decide +kernel
theorem dX12_weigh_86 : decode cX12_weigh 86 = .ok (.lload_n 3, 1) := by decide +kernel
theorem dX12_weigh_87 : decode cX12_weigh 87 = .ok (.aload_n 0, 1) := by decide +kernel
theorem dX12_weigh_88 : decode cX12_weigh 88 = .ok (.getfield 27, 3) := by decide +kernel
theorem dX12_weigh_91 : decode cX12_weigh 91 = .ok (.aload_n 0, 1) := by decide +kernel
theorem dX12_weigh_92 : decode cX12_weigh 92 = .ok (.getfield 154, 3) := by decide +kernel
theorem dX12_weigh_95 : decode cX12_weigh 95 = .ok (.bipush 90, 2) := by decide +kernel
theorem dX12_weigh_97 : decode cX12_weigh 97 = .ok (.isub, 1) := by decide +kernel
theorem dX12_weigh_98 : decode cX12_weigh 98 = .ok (.laload, 1) := by decide +kernel
theorem dX12_weigh_99 : decode cX12_weigh 99 = .ok (.lcmp, 1) := by decide +kernel
theorem dX12_weigh_100 : decode cX12_weigh 100 = .ok (.ifCond .le 7, 3) := by decide +kernel
theorem dX12_weigh_120 : decode cX12_weigh 120 = .ok (.return_, 1) := by decide +kernel
set_option maxRecDepth 20000 in
theorem iw_m_weigh_X12 : ∀ w ∈ wsX120, w ∈ wsX12_weigh := by decide +kernel
set_option maxHeartbeats 4000000 in
set_option maxRecDepth 100000 in
theorem m_weigh (l : Launch) (dC : Nat → ClassId) (dI : Nat → Nat → Nat) (mo : Nat) (nw : Nat) (kp : Nat) (ik : Nat) (mr : Nat) (la_ : Int64) (lb_ : Int64) (mw : Nat) (lc_ : Int64) (ti_ : Int32) (cb_ : Int32) (ld_ : Int64) (le_ : Int64) (mq : Nat) (mz : Nat) (my : Nat) (sm_ : Int32) (mb : Nat) (bl_ : Int32) (ta_ : Int32) (tl_ : Int32) (tk_ : Int32) (vl_ : Int32) (mx : Nat) (mv : Nat) (cn_ : ClassId) (fn : Nat → Int32) (cw_ : ClassId) (fw_ : Nat → Int64) (jb : Nat) (sz : Nat) (hOn : tz_OK 350 fn) (hjb : jb < 5) : Met l yX12_weigh wsX12_weigh ({ frames := 4, cells := 0, slots := 0, locals := 97 }) (va_Pc [.ref mo, .int (nI jb)] (fun U => U.heap.size = sz ∧ va_P (dC, dI) vwCl [(mo, .inr (12, [.ref nw, .ref kp, .ref ik, .ref mr, .long la_, .long lb_, .ref mw, .long lc_, .int ti_, .int cb_, .long ld_, .long le_, .ref mq, .ref mz, .ref my, .int sm_, .ref mb, .int bl_, .int ta_, .int tl_, .int tk_, .int vl_, .ref mx, .ref mv])), (nw, .inl (cn_, 350, .inl fn)), (mw, .inl (cw_, 21, .inr (.inl fw_)))] U.heap ∧ va_K (dC, dI) vwCl [(cn_, .int), (cw_, .long)] U ∧ va_D (fun _ => True) [(mo, .inr (12, [.ref nw, .ref kp, .ref ik, .ref mr, .long la_, .long lb_, .ref mw, .long lc_, .int ti_, .int cb_, .long ld_, .long le_, .ref mq, .ref mz, .ref my, .int sm_, .ref mb, .int bl_, .int ta_, .int tl_, .int tk_, .int vl_, .ref mx, .ref mv])), (nw, .inl (cn_, 350, .inl fn)), (mw, .inl (cw_, 21, .inr (.inl fw_)))])) (va_Qv (fun (_ : Unit) => True) (fun _ t => ∃ (h_allWeights : Int64) (h_trulyIs : Int32) (h_canBe : Int32) (gw_ : Nat → Int64), (tz_We 111 h_trulyIs gw_) ∧ va_P (dC, dI) vwCl [(mo, .inr (12, [.ref nw, .ref kp, .ref ik, .ref mr, .long la_, .long lb_, .ref mw, .long h_allWeights, .int h_trulyIs, .int h_canBe, .long ld_, .long le_, .ref mq, .ref mz, .ref my, .int sm_, .ref mb, .int bl_, .int ta_, .int tl_, .int tk_, .int vl_, .ref mx, .ref mv])), (nw, .inl (cn_, 350, .inl fn)), (mw, .inl (cw_, 21, .inr (.inl gw_)))] t.heap ∧ va_K (dC, dI) vwCl [(cn_, .int), (cw_, .long)] t ∧ va_D (va_A [(mo, .inr (12, [.ref nw, .ref kp, .ref ik, .ref mr, .long la_, .long lb_, .ref mw, .long lc_, .int ti_, .int cb_, .long ld_, .long le_, .ref mq, .ref mz, .ref my, .int sm_, .ref mb, .int bl_, .int ta_, .int tl_, .int tk_, .int vl_, .ref mx, .ref mv])), (nw, .inl (cn_, 350, .inl fn)), (mw, .inl (cw_, 21, .inr (.inl fw_)))] sz) [(mo, .inr (12, [.ref nw, .ref kp, .ref ik, .ref mr, .long la_, .long lb_, .ref mw, .long h_allWeights, .int h_trulyIs, .int h_canBe, .long ld_, .long le_, .ref mq, .ref mz, .ref my, .int sm_, .ref mb, .int bl_, .int ta_, .int tl_, .int tk_, .int vl_, .ref mx, .ref mv])), (nw, .inl (cn_, 350, .inl fn)), (mw, .inl (cw_, 21, .inr (.inl gw_)))]) (va_A [(mo, .inr (12, [.ref nw, .ref kp, .ref ik, .ref mr, .long la_, .long lb_, .ref mw, .long lc_, .int ti_, .int cb_, .long ld_, .long le_, .ref mq, .ref mz, .ref my, .int sm_, .ref mb, .int bl_, .int ta_, .int tl_, .int tk_, .int vl_, .ref mx, .ref mv])), (nw, .inl (cn_, 350, .inl fn)), (mw, .inl (cw_, 21, .inr (.inl fw_)))] sz)) 0 0 (va_A [(mo, .inr (12, [.ref nw, .ref kp, .ref ik, .ref mr, .long la_, .long lb_, .ref mw, .long lc_, .int ti_, .int cb_, .long ld_, .long le_, .ref mq, .ref mz, .ref my, .int sm_, .ref mb, .int bl_, .int ta_, .int tl_, .int tk_, .int vl_, .ref mx, .ref mv])), (nw, .inl (cn_, 350, .inl fn)), (mw, .inl (cw_, 21, .inr (.inl fw_)))] sz) := by
  refine Met.ofW (cc := cX12_weigh) (maxL := 5) (ret := none) (by decide) rfl ?_
  intro p e s m args below meth c s₁ B hml hv
  obtain ⟨rfl, hsz, hP, hK, hD0⟩ := hv
  have hx := B.exec
  have hb := B.bytes
  have hr := B.returns
  have hts := atoms_spec (ws := wsX12_weigh) B.pre
  have hown : s.vm.findClass RX12 = some m.cls := findClass_of_methodNamed B.named
  have hlocks := B.notSynchronized
  subst hsz
  have hD := hD0.self (sz := s.heap.size)
  generalize hAe : va_A [(mo, .inr (12, [.ref nw, .ref kp, .ref ik, .ref mr, .long la_, .long lb_, .ref mw, .long lc_, .int ti_, .int cb_, .long ld_, .long le_, .ref mq, .ref mz, .ref my, .int sm_, .ref mb, .int bl_, .int ta_, .int tl_, .int tk_, .int vl_, .ref mx, .ref mv])), (nw, .inl (cn_, 350, .inl fn)), (mw, .inl (cw_, 21, .inr (.inl fw_)))] s.heap.size = A at hD ⊢
  have hA : ∀ q : Nat, s.heap.size ≤ q → A q := fun q h => by rw [← hAe]; exact Or.inr h
  have hS : va_S A s.heap s.heap [] := va_S.rf
  have hP : va_P (dC, dI) vwCl [(mo, .inr (12, [.ref nw, .ref kp, .ref ik, .ref mr, .long la_, .long lb_, .ref mw, .long lc_, .int ti_, .int cb_, .long ld_, .long le_, .ref mq, .ref mz, .ref my, .int sm_, .ref mb, .int bl_, .int ta_, .int tl_, .int tk_, .int vl_, .ref mx, .ref mv])), (nw, .inl (cn_, 350, .inl fn)), (mw, .inl (cw_, 21, .inr (.inl fw_)))] s.heap := hP
  have hl := lv_entry ([.ref mo, .int (nI jb)]) (n := 5) (Nat.le_of_ble_eq_true rfl)
  rw [lg_entry_eq]
  generalize (lg_sl ([.ref mo, .int (nI jb)]) ++ List.replicate (5 - (lg_sl ([.ref mo, .int (nI jb)])).length) Slot.unset).toArray = ls at hl ⊢
  have hl : lv_has ls 5 [(0, .ref mo), (1, .int (nI jb))] := hl
  have hk_1 : tz_We 90 (-1) fw_ := tz_We.init
  refine lv_aload_n hx hb dX12_weigh_0 rfl (lv_at hl 0 rfl) ?_
  refine lv_lconst (v := 0) hx hb dX12_weigh_1 (by decide) ?_
  refine va_put (D := (dC, dI)) (ci := 12) (v := .long 0) (ty := .long) (C := RX12) (T := TX12) (N := 24) hx hb hts iw_m_weigh_X12 tyX12 tyX12_ok nmX12 hown hK hP hD hS 0 rfl rfl 7 (by decide) (hts (.fieldLink RX12 151 "ThriceCountedModel" "allWeights" "J") (by decide +kernel)) (fun _ h9 => h9) rfl (by decide +kernel) rfl rfl (Nat.le_of_ble_eq_true rfl) dX12_weigh_2 (fun H locs hP hD hS => ?_)
  have hP : va_P (dC, dI) vwCl [(mo, .inr (12, [.ref nw, .ref kp, .ref ik, .ref mr, .long la_, .long lb_, .ref mw, .long 0, .int ti_, .int cb_, .long ld_, .long le_, .ref mq, .ref mz, .ref my, .int sm_, .ref mb, .int bl_, .int ta_, .int tl_, .int tk_, .int vl_, .ref mx, .ref mv])), (nw, .inl (cn_, 350, .inl fn)), (mw, .inl (cw_, 21, .inr (.inl fw_)))] H := hP
  have hD : va_D A [(mo, .inr (12, [.ref nw, .ref kp, .ref ik, .ref mr, .long la_, .long lb_, .ref mw, .long 0, .int ti_, .int cb_, .long ld_, .long le_, .ref mq, .ref mz, .ref my, .int sm_, .ref mb, .int bl_, .int ta_, .int tl_, .int tk_, .int vl_, .ref mx, .ref mv])), (nw, .inl (cn_, 350, .inl fn)), (mw, .inl (cw_, 21, .inr (.inl fw_)))] := hD
  refine lv_aload_n hx hb dX12_weigh_5 rfl (lv_at hl 0 rfl) ?_
  refine lv_iconst (v := (-1)) hx hb dX12_weigh_6 (by decide) ?_
  refine va_put (D := (dC, dI)) (ci := 12) (v := .int (-1)) (ty := .int) (C := RX12) (T := TX12) (N := 24) hx hb hts iw_m_weigh_X12 tyX12 tyX12_ok nmX12 hown hK hP hD hS 0 rfl rfl 8 (by decide) (hts (.fieldLink RX12 154 "ThriceCountedModel" "trulyIs" "I") (by decide +kernel)) (fun _ h9 => h9) rfl (by decide +kernel) rfl rfl (Nat.le_of_ble_eq_true rfl) dX12_weigh_7 (fun H locs hP hD hS => ?_)
  have hP : va_P (dC, dI) vwCl [(mo, .inr (12, [.ref nw, .ref kp, .ref ik, .ref mr, .long la_, .long lb_, .ref mw, .long 0, .int (-1), .int cb_, .long ld_, .long le_, .ref mq, .ref mz, .ref my, .int sm_, .ref mb, .int bl_, .int ta_, .int tl_, .int tk_, .int vl_, .ref mx, .ref mv])), (nw, .inl (cn_, 350, .inl fn)), (mw, .inl (cw_, 21, .inr (.inl fw_)))] H := hP
  have hD : va_D A [(mo, .inr (12, [.ref nw, .ref kp, .ref ik, .ref mr, .long la_, .long lb_, .ref mw, .long 0, .int (-1), .int cb_, .long ld_, .long le_, .ref mq, .ref mz, .ref my, .int sm_, .ref mb, .int bl_, .int ta_, .int tl_, .int tk_, .int vl_, .ref mx, .ref mv])), (nw, .inl (cn_, 350, .inl fn)), (mw, .inl (cw_, 21, .inr (.inl fw_)))] := hD
  refine lv_aload_n hx hb dX12_weigh_10 rfl (lv_at hl 0 rfl) ?_
  refine lv_iconst (v := 0) hx hb dX12_weigh_11 (by decide) ?_
  refine va_put (D := (dC, dI)) (ci := 12) (v := .int 0) (ty := .int) (C := RX12) (T := TX12) (N := 24) hx hb hts iw_m_weigh_X12 tyX12 tyX12_ok nmX12 hown hK hP hD hS 0 rfl rfl 9 (by decide) (hts (.fieldLink RX12 158 "ThriceCountedModel" "canBe" "I") (by decide +kernel)) (fun _ h9 => h9) rfl (by decide +kernel) rfl rfl (Nat.le_of_ble_eq_true rfl) dX12_weigh_12 (fun H locs hP hD hS => ?_)
  have hP : va_P (dC, dI) vwCl [(mo, .inr (12, [.ref nw, .ref kp, .ref ik, .ref mr, .long la_, .long lb_, .ref mw, .long 0, .int (-1), .int 0, .long ld_, .long le_, .ref mq, .ref mz, .ref my, .int sm_, .ref mb, .int bl_, .int ta_, .int tl_, .int tk_, .int vl_, .ref mx, .ref mv])), (nw, .inl (cn_, 350, .inl fn)), (mw, .inl (cw_, 21, .inr (.inl fw_)))] H := hP
  have hD : va_D A [(mo, .inr (12, [.ref nw, .ref kp, .ref ik, .ref mr, .long la_, .long lb_, .ref mw, .long 0, .int (-1), .int 0, .long ld_, .long le_, .ref mq, .ref mz, .ref my, .int sm_, .ref mb, .int bl_, .int ta_, .int tl_, .int tk_, .int vl_, .ref mx, .ref mv])), (nw, .inl (cn_, 350, .inl fn)), (mw, .inl (cw_, 21, .inr (.inl fw_)))] := hD
  refine lv_bipush (v := 90) hx hb dX12_weigh_15 (by decide) ?_
  refine lv_istore_n (lv' := [(2, .int 90), (0, .ref mo), (1, .int (nI jb))]) hx hb dX12_weigh_17 rfl hl (by decide) rfl (fun ls hl => ?_)
  refine tz_while (σ := Nat × Int64 × (Nat → Int64) × Int32 × Int32 × Heap × List Loc × Array Slot) (fun x => W p l e _ s m _ below meth c x.2.2.2.2.2.1 x.2.2.2.2.2.2.1 _ _ _ (F0 m 18 x.2.2.2.2.2.2.2 [])) (fun x => 90 ≤ x.1 ∧ x.1 ≤ 111 ∧ tz_We x.1 x.2.2.2.1 x.2.2.1 ∧ va_P (dC, dI) vwCl [(mo, .inr (12, [.ref nw, .ref kp, .ref ik, .ref mr, .long la_, .long lb_, .ref mw, .long x.2.1, .int x.2.2.2.1, .int x.2.2.2.2.1, .long ld_, .long le_, .ref mq, .ref mz, .ref my, .int sm_, .ref mb, .int bl_, .int ta_, .int tl_, .int tk_, .int vl_, .ref mx, .ref mv])), (nw, .inl (cn_, 350, .inl fn)), (mw, .inl (cw_, 21, .inr (.inl x.2.2.1)))] x.2.2.2.2.2.1 ∧ va_D A [(mo, .inr (12, [.ref nw, .ref kp, .ref ik, .ref mr, .long la_, .long lb_, .ref mw, .long x.2.1, .int x.2.2.2.1, .int x.2.2.2.2.1, .long ld_, .long le_, .ref mq, .ref mz, .ref my, .int sm_, .ref mb, .int bl_, .int ta_, .int tl_, .int tk_, .int vl_, .ref mx, .ref mv])), (nw, .inl (cn_, 350, .inl fn)), (mw, .inl (cw_, 21, .inr (.inl x.2.2.1)))] ∧ va_S A s.heap x.2.2.2.2.2.1 x.2.2.2.2.2.2.1 ∧ lv_has x.2.2.2.2.2.2.2 5 [(2, .int (nI x.1)), (0, .ref mo), (1, .int (nI jb))]) (fun x => 111 - x.1) ?_ (90, 0, fw_, (-1), 0, H, locs, ls) ⟨by (try dsimp only); omega, by (try dsimp only); omega, hk_1, hP, hD, hS, hl⟩
  rintro ⟨k_2, v_17, f_18, v_19, v_20, H, locs, ls⟩ ⟨hi_49_0, hi_50_1, hi_51_2, hP, hD, hS, hl⟩ ih_52
  dsimp only at hi_49_0 hi_50_1 hi_51_2 hP hD hS hl ih_52 ⊢
  refine lv_iload_n hx hb dX12_weigh_18 rfl (lv_at hl 0 rfl) ?_
  refine lv_bipush (v := 110) hx hb dX12_weigh_19 (by decide) ?_
  refine lv_icmp_gt (tgt := 120) hx hb dX12_weigh_21 (by decide) (fun c_53 => ?_) (fun c_53 => ?_)
  · have hn_54 : 110 < k_2 := (nI_ltI (a := 110) (b := k_2) (by omega) (by omega)).mp c_53
    have hP9 := hP.sub (ws' := [(mo, .inr (12, [.ref nw, .ref kp, .ref ik, .ref mr, .long la_, .long lb_, .ref mw, .long v_17, .int v_19, .int v_20, .long ld_, .long le_, .ref mq, .ref mz, .ref my, .int sm_, .ref mb, .int bl_, .int ta_, .int tl_, .int tk_, .int vl_, .ref mx, .ref mv])), (nw, .inl (cn_, 350, .inl fn)), (mw, .inl (cw_, 21, .inr (.inl f_18)))]) [0, 1, 2] rfl
    have hD9 := hD.sub (ws' := [(mo, .inr (12, [.ref nw, .ref kp, .ref ik, .ref mr, .long la_, .long lb_, .ref mw, .long v_17, .int v_19, .int v_20, .long ld_, .long le_, .ref mq, .ref mz, .ref my, .int sm_, .ref mb, .int bl_, .int ta_, .int tl_, .int tk_, .int vl_, .ref mx, .ref mv])), (nw, .inl (cn_, 350, .inl fn)), (mw, .inl (cw_, 21, .inr (.inl f_18)))]) [0, 1, 2] (by decide) rfl
    have hK9 := hK.sub (tys' := [(cn_, .int), (cw_, .long)]) [0, 1] rfl
    exact W.vret hx hb hr (fun t ht hW => ⟨⟨(), rfl, trivial, v_17, v_19, v_20, f_18, hi_51_2.cast (by omega), by rw [ht]; exact hP9, va_K.moved hW.alike hK9, hD9⟩, hS.F ht⟩) hS.2.2 dX12_weigh_120
  · have hn_55 : ¬ 110 < k_2 := fun q => c_53 ((nI_ltI (a := 110) (b := k_2) (by omega) (by omega)).mpr q)
    refine lv_aload_n hx hb dX12_weigh_24 rfl (lv_at hl 1 rfl) ?_
    refine lv_iload_n hx hb dX12_weigh_25 rfl (lv_at hl 2 rfl) ?_
    refine lv_iload_n hx hb dX12_weigh_26 rfl (lv_at hl 0 rfl) ?_
    have hPc_56 := hP.sub (ws' := [(mo, .inr (12, [.ref nw, .ref kp, .ref ik, .ref mr, .long la_, .long lb_, .ref mw, .long v_17, .int v_19, .int v_20, .long ld_, .long le_, .ref mq, .ref mz, .ref my, .int sm_, .ref mb, .int bl_, .int ta_, .int tl_, .int tk_, .int vl_, .ref mx, .ref mv])), (nw, .inl (cn_, 350, .inl fn))]) [0, 1] rfl
    have hKc_57 := hK.sub (tys' := [(cn_, .int)]) [0] rfl
    refine vp_callSl (va_Run.run (va_runV (As := [.int (nI jb), .int (nI k_2)]) (rest := []) ⟨hx, hb, hml, hown, hts⟩ (m_weight l dC dI mo nw kp ik mr la_ lb_ mw v_17 v_19 v_20 ld_ le_ mq mz my sm_ mb bl_ ta_ tl_ tk_ vl_ mx mv cn_ fn jb (nI k_2) hOn hjb) (cwV 2 hts gX12_weigh_X12_weight rfl rfl rfl (by decide +kernel) ⟨Nat.le_of_ble_eq_true rfl, Nat.le_of_ble_eq_true rfl⟩) ⟨fun a U g mk q => by obtain ⟨q0, qP, qK⟩ := q; exact ⟨q0, qP, va_K.moved (u := U) (U := U.calling g mk a) (Vm.Alike.refl U.vm) qK⟩, va_recv hK hP (ci := 12) (q0 := 0) rfl rfl, fun U hU hW => ⟨rfl, by rw [hU]; exact hPc_56, va_K.moved hW.alike hKc_57⟩⟩ rfl rfl hl.1 rfl (lv_room (Nat.le_of_ble_eq_true rfl)) dX12_weigh_27 ⟨Nat.le_of_ble_eq_true rfl, Nat.le_of_ble_eq_true rfl⟩)) (fun r_58 hw_59 => ?_)
    refine lv_lstore_n (lv' := [(3, .long r_58), (2, .int (nI k_2)), (0, .ref mo), (1, .int (nI jb))]) hx hb dX12_weigh_30 rfl hl (by decide) rfl (fun ls hl => ?_)
    refine lv_aload_n hx hb dX12_weigh_31 rfl (lv_at hl 2 rfl) ?_
    refine va_get (D := (dC, dI)) (ci := 12) (v := .ref mw) (C := RX12) (T := TX12) (N := 24) hx hb hts iw_m_weigh_X12 hown hK hP 0 rfl rfl 6 (by decide) (hts (.fieldLink RX12 27 "ThriceCountedModel" "weights" "[J") (by decide +kernel)) (fun _ h9 => h9) rfl dX12_weigh_32 ?_
    refine lv_iload_n hx hb dX12_weigh_35 rfl (lv_at hl 1 rfl) ?_
    refine lv_bipush (v := 90) hx hb dX12_weigh_36 (by decide) ?_
    refine lv_isub hx hb dX12_weigh_38 ?_
    refine tz_i (nI (k_2 - 90)) (pk_sub (a := k_2) (b := 90) (by omega)) ?_
    refine lv_lload_n hx hb dX12_weigh_39 rfl (lv_at hl 0 rfl) ?_
    refine va_last hx hb hK hP hD hS 2 1 rfl rfl (vp_in_nI (n := (k_2 - 90)) (N := 21) (by omega) (by decide)) dX12_weigh_40 (fun H locs hP hD hS => ?_)
    have hk_61 : tz_W2 k_2 v_19 r_58 (vp_updL f_18 (Int32.toNatClampNeg (nI (k_2 - 90))) r_58) := hi_51_2.store hw_59 (by omega) (by omega)
    generalize (vp_updL f_18 (Int32.toNatClampNeg (nI (k_2 - 90))) r_58) = f_60 at hP hD hk_61
    have hP : va_P (dC, dI) vwCl [(mo, .inr (12, [.ref nw, .ref kp, .ref ik, .ref mr, .long la_, .long lb_, .ref mw, .long v_17, .int v_19, .int v_20, .long ld_, .long le_, .ref mq, .ref mz, .ref my, .int sm_, .ref mb, .int bl_, .int ta_, .int tl_, .int tk_, .int vl_, .ref mx, .ref mv])), (nw, .inl (cn_, 350, .inl fn)), (mw, .inl (cw_, 21, .inr (.inl f_60)))] H := hP
    have hD : va_D A [(mo, .inr (12, [.ref nw, .ref kp, .ref ik, .ref mr, .long la_, .long lb_, .ref mw, .long v_17, .int v_19, .int v_20, .long ld_, .long le_, .ref mq, .ref mz, .ref my, .int sm_, .ref mb, .int bl_, .int ta_, .int tl_, .int tk_, .int vl_, .ref mx, .ref mv])), (nw, .inl (cn_, 350, .inl fn)), (mw, .inl (cw_, 21, .inr (.inl f_60)))] := hD
    refine lv_aload_n hx hb dX12_weigh_41 rfl (lv_at hl 2 rfl) ?_
    refine lv_dup hx hb dX12_weigh_42 rfl ?_
    refine va_get (D := (dC, dI)) (ci := 12) (v := .long v_17) (C := RX12) (T := TX12) (N := 24) hx hb hts iw_m_weigh_X12 hown hK hP 0 rfl rfl 7 (by decide) (hts (.fieldLink RX12 151 "ThriceCountedModel" "allWeights" "J") (by decide +kernel)) (fun _ h9 => h9) rfl dX12_weigh_43 ?_
    refine lv_lload_n hx hb dX12_weigh_46 rfl (lv_at hl 0 rfl) ?_
    refine lv_ladd hx hb dX12_weigh_47 ?_
    refine lv_topl (fun x_62 _ => ?_)
    refine va_put (D := (dC, dI)) (ci := 12) (v := .long x_62) (ty := .long) (C := RX12) (T := TX12) (N := 24) hx hb hts iw_m_weigh_X12 tyX12 tyX12_ok nmX12 hown hK hP hD hS 0 rfl rfl 7 (by decide) (hts (.fieldLink RX12 151 "ThriceCountedModel" "allWeights" "J") (by decide +kernel)) (fun _ h9 => h9) rfl (by decide +kernel) rfl rfl (Nat.le_of_ble_eq_true rfl) dX12_weigh_48 (fun H locs hP hD hS => ?_)
    have hP : va_P (dC, dI) vwCl [(mo, .inr (12, [.ref nw, .ref kp, .ref ik, .ref mr, .long la_, .long lb_, .ref mw, .long x_62, .int v_19, .int v_20, .long ld_, .long le_, .ref mq, .ref mz, .ref my, .int sm_, .ref mb, .int bl_, .int ta_, .int tl_, .int tk_, .int vl_, .ref mx, .ref mv])), (nw, .inl (cn_, 350, .inl fn)), (mw, .inl (cw_, 21, .inr (.inl f_60)))] H := hP
    have hD : va_D A [(mo, .inr (12, [.ref nw, .ref kp, .ref ik, .ref mr, .long la_, .long lb_, .ref mw, .long x_62, .int v_19, .int v_20, .long ld_, .long le_, .ref mq, .ref mz, .ref my, .int sm_, .ref mb, .int bl_, .int ta_, .int tl_, .int tk_, .int vl_, .ref mx, .ref mv])), (nw, .inl (cn_, 350, .inl fn)), (mw, .inl (cw_, 21, .inr (.inl f_60)))] := hD
    refine lv_aload_n hx hb dX12_weigh_51 rfl (lv_at hl 2 rfl) ?_
    refine lv_dup hx hb dX12_weigh_52 rfl ?_
    refine va_get (D := (dC, dI)) (ci := 12) (v := .int v_20) (C := RX12) (T := TX12) (N := 24) hx hb hts iw_m_weigh_X12 hown hK hP 0 rfl rfl 9 (by decide) (hts (.fieldLink RX12 158 "ThriceCountedModel" "canBe" "I") (by decide +kernel)) (fun _ h9 => h9) rfl dX12_weigh_53 ?_
    refine lv_lload_n hx hb dX12_weigh_56 rfl (lv_at hl 0 rfl) ?_
    refine lv_lconst (v := 0) hx hb dX12_weigh_57 (by decide) ?_
    refine W.lcmp hx hb dX12_weigh_58 ?_
    refine lv_if_le (tgt := 66) hx hb dX12_weigh_59 (by decide) (fun c_63 => ?_) (fun c_63 => ?_)
    · refine lv_iconst (v := 0) hx hb dX12_weigh_66 (by decide) ?_
      refine lv_iadd hx hb dX12_weigh_67 ?_
      refine lv_topi (fun x_64 _ => ?_)
      refine va_put (D := (dC, dI)) (ci := 12) (v := .int x_64) (ty := .int) (C := RX12) (T := TX12) (N := 24) hx hb hts iw_m_weigh_X12 tyX12 tyX12_ok nmX12 hown hK hP hD hS 0 rfl rfl 9 (by decide) (hts (.fieldLink RX12 158 "ThriceCountedModel" "canBe" "I") (by decide +kernel)) (fun _ h9 => h9) rfl (by decide +kernel) rfl rfl (Nat.le_of_ble_eq_true rfl) dX12_weigh_68 (fun H locs hP hD hS => ?_)
      have hP : va_P (dC, dI) vwCl [(mo, .inr (12, [.ref nw, .ref kp, .ref ik, .ref mr, .long la_, .long lb_, .ref mw, .long x_62, .int v_19, .int x_64, .long ld_, .long le_, .ref mq, .ref mz, .ref my, .int sm_, .ref mb, .int bl_, .int ta_, .int tl_, .int tk_, .int vl_, .ref mx, .ref mv])), (nw, .inl (cn_, 350, .inl fn)), (mw, .inl (cw_, 21, .inr (.inl f_60)))] H := hP
      have hD : va_D A [(mo, .inr (12, [.ref nw, .ref kp, .ref ik, .ref mr, .long la_, .long lb_, .ref mw, .long x_62, .int v_19, .int x_64, .long ld_, .long le_, .ref mq, .ref mz, .ref my, .int sm_, .ref mb, .int bl_, .int ta_, .int tl_, .int tk_, .int vl_, .ref mx, .ref mv])), (nw, .inl (cn_, 350, .inl fn)), (mw, .inl (cw_, 21, .inr (.inl f_60)))] := hD
      refine lv_aload_n hx hb dX12_weigh_71 rfl (lv_at hl 2 rfl) ?_
      refine lv_lload_n hx hb dX12_weigh_72 rfl (lv_at hl 0 rfl) ?_
      refine lv_lconst (v := 0) hx hb dX12_weigh_73 (by decide) ?_
      refine W.lcmp hx hb dX12_weigh_74 ?_
      refine lv_if_le (tgt := 107) hx hb dX12_weigh_75 (by decide) (fun c_65 => ?_) (fun c_65 => ?_)
      · refine lv_aload_n hx hb dX12_weigh_107 rfl (lv_at hl 2 rfl) ?_
        refine va_get (D := (dC, dI)) (ci := 12) (v := .int v_19) (C := RX12) (T := TX12) (N := 24) hx hb hts iw_m_weigh_X12 hown hK hP 0 rfl rfl 8 (by decide) (hts (.fieldLink RX12 154 "ThriceCountedModel" "trulyIs" "I") (by decide +kernel)) (fun _ h9 => h9) rfl dX12_weigh_108 ?_
        refine va_put (D := (dC, dI)) (ci := 12) (v := .int v_19) (ty := .int) (C := RX12) (T := TX12) (N := 24) hx hb hts iw_m_weigh_X12 tyX12 tyX12_ok nmX12 hown hK hP hD hS 0 rfl rfl 8 (by decide) (hts (.fieldLink RX12 154 "ThriceCountedModel" "trulyIs" "I") (by decide +kernel)) (fun _ h9 => h9) rfl (by decide +kernel) rfl rfl (Nat.le_of_ble_eq_true rfl) dX12_weigh_111 (fun H locs hP hD hS => ?_)
        have hP : va_P (dC, dI) vwCl [(mo, .inr (12, [.ref nw, .ref kp, .ref ik, .ref mr, .long la_, .long lb_, .ref mw, .long x_62, .int v_19, .int x_64, .long ld_, .long le_, .ref mq, .ref mz, .ref my, .int sm_, .ref mb, .int bl_, .int ta_, .int tl_, .int tk_, .int vl_, .ref mx, .ref mv])), (nw, .inl (cn_, 350, .inl fn)), (mw, .inl (cw_, 21, .inr (.inl f_60)))] H := hP
        have hD : va_D A [(mo, .inr (12, [.ref nw, .ref kp, .ref ik, .ref mr, .long la_, .long lb_, .ref mw, .long x_62, .int v_19, .int x_64, .long ld_, .long le_, .ref mq, .ref mz, .ref my, .int sm_, .ref mb, .int bl_, .int ta_, .int tl_, .int tk_, .int vl_, .ref mx, .ref mv])), (nw, .inl (cn_, 350, .inl fn)), (mw, .inl (cw_, 21, .inr (.inl f_60)))] := hD
        have hv_66 : tz_We (k_2 + 1) v_19 f_60 := hk_61.keep (by omega)
        refine lv_iinc (v := (nI (k_2 + 1))) (lv' := [(2, .int (nI (k_2 + 1))), (3, .long r_58), (0, .ref mo), (1, .int (nI jb))]) hx hb dX12_weigh_114 hl (k := 1) rfl (nI_add k_2 1) (by decide) rfl (fun ls hl => ?_)
        refine lv_goto (tgt := 18) hx hb dX12_weigh_117 (by decide) ?_
        exact ih_52 ((k_2 + 1), x_62, f_60, v_19, x_64, H, locs, ls) ⟨by dsimp only; omega, by dsimp only; omega, hv_66, hP, hD, hS, lv_sub hl [0, 2, 3] rfl⟩ (by dsimp only; omega)
      · refine lv_aload_n hx hb dX12_weigh_78 rfl (lv_at hl 2 rfl) ?_
        refine va_get (D := (dC, dI)) (ci := 12) (v := .int v_19) (C := RX12) (T := TX12) (N := 24) hx hb hts iw_m_weigh_X12 hown hK hP 0 rfl rfl 8 (by decide) (hts (.fieldLink RX12 154 "ThriceCountedModel" "trulyIs" "I") (by decide +kernel)) (fun _ h9 => h9) rfl dX12_weigh_79 ?_
        refine lv_iconst (v := (-1)) hx hb dX12_weigh_82 (by decide) ?_
        refine lv_icmp_eq (tgt := 103) hx hb dX12_weigh_83 (by decide) (fun c_67 => ?_) (fun c_67 => ?_)
        · refine lv_iload_n hx hb dX12_weigh_103 rfl (lv_at hl 1 rfl) ?_
          refine lv_goto (tgt := 111) hx hb dX12_weigh_104 (by decide) ?_
          refine va_put (D := (dC, dI)) (ci := 12) (v := .int (nI k_2)) (ty := .int) (C := RX12) (T := TX12) (N := 24) hx hb hts iw_m_weigh_X12 tyX12 tyX12_ok nmX12 hown hK hP hD hS 0 rfl rfl 8 (by decide) (hts (.fieldLink RX12 154 "ThriceCountedModel" "trulyIs" "I") (by decide +kernel)) (fun _ h9 => h9) rfl (by decide +kernel) rfl rfl (Nat.le_of_ble_eq_true rfl) dX12_weigh_111 (fun H locs hP hD hS => ?_)
          have hP : va_P (dC, dI) vwCl [(mo, .inr (12, [.ref nw, .ref kp, .ref ik, .ref mr, .long la_, .long lb_, .ref mw, .long x_62, .int (nI k_2), .int x_64, .long ld_, .long le_, .ref mq, .ref mz, .ref my, .int sm_, .ref mb, .int bl_, .int ta_, .int tl_, .int tk_, .int vl_, .ref mx, .ref mv])), (nw, .inl (cn_, 350, .inl fn)), (mw, .inl (cw_, 21, .inr (.inl f_60)))] H := hP
          have hD : va_D A [(mo, .inr (12, [.ref nw, .ref kp, .ref ik, .ref mr, .long la_, .long lb_, .ref mw, .long x_62, .int (nI k_2), .int x_64, .long ld_, .long le_, .ref mq, .ref mz, .ref my, .int sm_, .ref mb, .int bl_, .int ta_, .int tl_, .int tk_, .int vl_, .ref mx, .ref mv])), (nw, .inl (cn_, 350, .inl fn)), (mw, .inl (cw_, 21, .inr (.inl f_60)))] := hD
          have hv_68 : tz_We (k_2 + 1) (nI k_2) f_60 := hk_61.take (by omega) c_65
          refine lv_iinc (v := (nI (k_2 + 1))) (lv' := [(2, .int (nI (k_2 + 1))), (3, .long r_58), (0, .ref mo), (1, .int (nI jb))]) hx hb dX12_weigh_114 hl (k := 1) rfl (nI_add k_2 1) (by decide) rfl (fun ls hl => ?_)
          refine lv_goto (tgt := 18) hx hb dX12_weigh_117 (by decide) ?_
          exact ih_52 ((k_2 + 1), x_62, f_60, (nI k_2), x_64, H, locs, ls) ⟨by dsimp only; omega, by dsimp only; omega, hv_68, hP, hD, hS, lv_sub hl [0, 2, 3] rfl⟩ (by dsimp only; omega)
        · refine lv_lload_n hx hb dX12_weigh_86 rfl (lv_at hl 0 rfl) ?_
          refine lv_aload_n hx hb dX12_weigh_87 rfl (lv_at hl 2 rfl) ?_
          refine va_get (D := (dC, dI)) (ci := 12) (v := .ref mw) (C := RX12) (T := TX12) (N := 24) hx hb hts iw_m_weigh_X12 hown hK hP 0 rfl rfl 6 (by decide) (hts (.fieldLink RX12 27 "ThriceCountedModel" "weights" "[J") (by decide +kernel)) (fun _ h9 => h9) rfl dX12_weigh_88 ?_
          refine lv_aload_n hx hb dX12_weigh_91 rfl (lv_at hl 2 rfl) ?_
          refine va_get (D := (dC, dI)) (ci := 12) (v := .int v_19) (C := RX12) (T := TX12) (N := 24) hx hb hts iw_m_weigh_X12 hown hK hP 0 rfl rfl 8 (by decide) (hts (.fieldLink RX12 154 "ThriceCountedModel" "trulyIs" "I") (by decide +kernel)) (fun _ h9 => h9) rfl dX12_weigh_92 ?_
          obtain ⟨t_69, ht_71, et_70⟩ := hk_61.ex c_67
          refine tz_i (nI (90 + t_69)) et_70 ?_
          refine lv_bipush (v := 90) hx hb dX12_weigh_95 (by decide) ?_
          refine lv_isub hx hb dX12_weigh_97 ?_
          refine tz_i (nI ((90 + t_69) - 90)) (pk_sub (a := (90 + t_69)) (b := 90) (by omega)) ?_
          refine va_lald hx hb hK hP 2 1 rfl rfl (vp_in_nI (n := ((90 + t_69) - 90)) (N := 21) (by omega) (by decide)) dX12_weigh_98 ?_
          refine lv_topl (fun x_72 _ => ?_)
          refine W.lcmp hx hb dX12_weigh_99 ?_
          refine lv_if_le (tgt := 107) hx hb dX12_weigh_100 (by decide) (fun c_73 => ?_) (fun c_73 => ?_)
          · refine lv_aload_n hx hb dX12_weigh_107 rfl (lv_at hl 2 rfl) ?_
            refine va_get (D := (dC, dI)) (ci := 12) (v := .int v_19) (C := RX12) (T := TX12) (N := 24) hx hb hts iw_m_weigh_X12 hown hK hP 0 rfl rfl 8 (by decide) (hts (.fieldLink RX12 154 "ThriceCountedModel" "trulyIs" "I") (by decide +kernel)) (fun _ h9 => h9) rfl dX12_weigh_108 ?_
            refine va_put (D := (dC, dI)) (ci := 12) (v := .int v_19) (ty := .int) (C := RX12) (T := TX12) (N := 24) hx hb hts iw_m_weigh_X12 tyX12 tyX12_ok nmX12 hown hK hP hD hS 0 rfl rfl 8 (by decide) (hts (.fieldLink RX12 154 "ThriceCountedModel" "trulyIs" "I") (by decide +kernel)) (fun _ h9 => h9) rfl (by decide +kernel) rfl rfl (Nat.le_of_ble_eq_true rfl) dX12_weigh_111 (fun H locs hP hD hS => ?_)
            have hP : va_P (dC, dI) vwCl [(mo, .inr (12, [.ref nw, .ref kp, .ref ik, .ref mr, .long la_, .long lb_, .ref mw, .long x_62, .int v_19, .int x_64, .long ld_, .long le_, .ref mq, .ref mz, .ref my, .int sm_, .ref mb, .int bl_, .int ta_, .int tl_, .int tk_, .int vl_, .ref mx, .ref mv])), (nw, .inl (cn_, 350, .inl fn)), (mw, .inl (cw_, 21, .inr (.inl f_60)))] H := hP
            have hD : va_D A [(mo, .inr (12, [.ref nw, .ref kp, .ref ik, .ref mr, .long la_, .long lb_, .ref mw, .long x_62, .int v_19, .int x_64, .long ld_, .long le_, .ref mq, .ref mz, .ref my, .int sm_, .ref mb, .int bl_, .int ta_, .int tl_, .int tk_, .int vl_, .ref mx, .ref mv])), (nw, .inl (cn_, 350, .inl fn)), (mw, .inl (cw_, 21, .inr (.inl f_60)))] := hD
            have hv_74 : tz_We (k_2 + 1) v_19 f_60 := hk_61.keep (by omega)
            refine lv_iinc (v := (nI (k_2 + 1))) (lv' := [(2, .int (nI (k_2 + 1))), (3, .long r_58), (0, .ref mo), (1, .int (nI jb))]) hx hb dX12_weigh_114 hl (k := 1) rfl (nI_add k_2 1) (by decide) rfl (fun ls hl => ?_)
            refine lv_goto (tgt := 18) hx hb dX12_weigh_117 (by decide) ?_
            exact ih_52 ((k_2 + 1), x_62, f_60, v_19, x_64, H, locs, ls) ⟨by dsimp only; omega, by dsimp only; omega, hv_74, hP, hD, hS, lv_sub hl [0, 2, 3] rfl⟩ (by dsimp only; omega)
          · refine lv_iload_n hx hb dX12_weigh_103 rfl (lv_at hl 1 rfl) ?_
            refine lv_goto (tgt := 111) hx hb dX12_weigh_104 (by decide) ?_
            refine va_put (D := (dC, dI)) (ci := 12) (v := .int (nI k_2)) (ty := .int) (C := RX12) (T := TX12) (N := 24) hx hb hts iw_m_weigh_X12 tyX12 tyX12_ok nmX12 hown hK hP hD hS 0 rfl rfl 8 (by decide) (hts (.fieldLink RX12 154 "ThriceCountedModel" "trulyIs" "I") (by decide +kernel)) (fun _ h9 => h9) rfl (by decide +kernel) rfl rfl (Nat.le_of_ble_eq_true rfl) dX12_weigh_111 (fun H locs hP hD hS => ?_)
            have hP : va_P (dC, dI) vwCl [(mo, .inr (12, [.ref nw, .ref kp, .ref ik, .ref mr, .long la_, .long lb_, .ref mw, .long x_62, .int (nI k_2), .int x_64, .long ld_, .long le_, .ref mq, .ref mz, .ref my, .int sm_, .ref mb, .int bl_, .int ta_, .int tl_, .int tk_, .int vl_, .ref mx, .ref mv])), (nw, .inl (cn_, 350, .inl fn)), (mw, .inl (cw_, 21, .inr (.inl f_60)))] H := hP
            have hD : va_D A [(mo, .inr (12, [.ref nw, .ref kp, .ref ik, .ref mr, .long la_, .long lb_, .ref mw, .long x_62, .int (nI k_2), .int x_64, .long ld_, .long le_, .ref mq, .ref mz, .ref my, .int sm_, .ref mb, .int bl_, .int ta_, .int tl_, .int tk_, .int vl_, .ref mx, .ref mv])), (nw, .inl (cn_, 350, .inl fn)), (mw, .inl (cw_, 21, .inr (.inl f_60)))] := hD
            have hv_75 : tz_We (k_2 + 1) (nI k_2) f_60 := hk_61.take (by omega) c_65
            refine lv_iinc (v := (nI (k_2 + 1))) (lv' := [(2, .int (nI (k_2 + 1))), (3, .long r_58), (0, .ref mo), (1, .int (nI jb))]) hx hb dX12_weigh_114 hl (k := 1) rfl (nI_add k_2 1) (by decide) rfl (fun ls hl => ?_)
            refine lv_goto (tgt := 18) hx hb dX12_weigh_117 (by decide) ?_
            exact ih_52 ((k_2 + 1), x_62, f_60, (nI k_2), x_64, H, locs, ls) ⟨by dsimp only; omega, by dsimp only; omega, hv_75, hP, hD, hS, lv_sub hl [0, 2, 3] rfl⟩ (by dsimp only; omega)
    · refine lv_iconst (v := 1) hx hb dX12_weigh_62 (by decide) ?_
      refine lv_goto (tgt := 67) hx hb dX12_weigh_63 (by decide) ?_
      refine lv_iadd hx hb dX12_weigh_67 ?_
      refine lv_topi (fun x_76 _ => ?_)
      refine va_put (D := (dC, dI)) (ci := 12) (v := .int x_76) (ty := .int) (C := RX12) (T := TX12) (N := 24) hx hb hts iw_m_weigh_X12 tyX12 tyX12_ok nmX12 hown hK hP hD hS 0 rfl rfl 9 (by decide) (hts (.fieldLink RX12 158 "ThriceCountedModel" "canBe" "I") (by decide +kernel)) (fun _ h9 => h9) rfl (by decide +kernel) rfl rfl (Nat.le_of_ble_eq_true rfl) dX12_weigh_68 (fun H locs hP hD hS => ?_)
      have hP : va_P (dC, dI) vwCl [(mo, .inr (12, [.ref nw, .ref kp, .ref ik, .ref mr, .long la_, .long lb_, .ref mw, .long x_62, .int v_19, .int x_76, .long ld_, .long le_, .ref mq, .ref mz, .ref my, .int sm_, .ref mb, .int bl_, .int ta_, .int tl_, .int tk_, .int vl_, .ref mx, .ref mv])), (nw, .inl (cn_, 350, .inl fn)), (mw, .inl (cw_, 21, .inr (.inl f_60)))] H := hP
      have hD : va_D A [(mo, .inr (12, [.ref nw, .ref kp, .ref ik, .ref mr, .long la_, .long lb_, .ref mw, .long x_62, .int v_19, .int x_76, .long ld_, .long le_, .ref mq, .ref mz, .ref my, .int sm_, .ref mb, .int bl_, .int ta_, .int tl_, .int tk_, .int vl_, .ref mx, .ref mv])), (nw, .inl (cn_, 350, .inl fn)), (mw, .inl (cw_, 21, .inr (.inl f_60)))] := hD
      refine lv_aload_n hx hb dX12_weigh_71 rfl (lv_at hl 2 rfl) ?_
      refine lv_lload_n hx hb dX12_weigh_72 rfl (lv_at hl 0 rfl) ?_
      refine lv_lconst (v := 0) hx hb dX12_weigh_73 (by decide) ?_
      refine W.lcmp hx hb dX12_weigh_74 ?_
      refine lv_if_le (tgt := 107) hx hb dX12_weigh_75 (by decide) (fun c_77 => ?_) (fun c_77 => ?_)
      · refine lv_aload_n hx hb dX12_weigh_107 rfl (lv_at hl 2 rfl) ?_
        refine va_get (D := (dC, dI)) (ci := 12) (v := .int v_19) (C := RX12) (T := TX12) (N := 24) hx hb hts iw_m_weigh_X12 hown hK hP 0 rfl rfl 8 (by decide) (hts (.fieldLink RX12 154 "ThriceCountedModel" "trulyIs" "I") (by decide +kernel)) (fun _ h9 => h9) rfl dX12_weigh_108 ?_
        refine va_put (D := (dC, dI)) (ci := 12) (v := .int v_19) (ty := .int) (C := RX12) (T := TX12) (N := 24) hx hb hts iw_m_weigh_X12 tyX12 tyX12_ok nmX12 hown hK hP hD hS 0 rfl rfl 8 (by decide) (hts (.fieldLink RX12 154 "ThriceCountedModel" "trulyIs" "I") (by decide +kernel)) (fun _ h9 => h9) rfl (by decide +kernel) rfl rfl (Nat.le_of_ble_eq_true rfl) dX12_weigh_111 (fun H locs hP hD hS => ?_)
        have hP : va_P (dC, dI) vwCl [(mo, .inr (12, [.ref nw, .ref kp, .ref ik, .ref mr, .long la_, .long lb_, .ref mw, .long x_62, .int v_19, .int x_76, .long ld_, .long le_, .ref mq, .ref mz, .ref my, .int sm_, .ref mb, .int bl_, .int ta_, .int tl_, .int tk_, .int vl_, .ref mx, .ref mv])), (nw, .inl (cn_, 350, .inl fn)), (mw, .inl (cw_, 21, .inr (.inl f_60)))] H := hP
        have hD : va_D A [(mo, .inr (12, [.ref nw, .ref kp, .ref ik, .ref mr, .long la_, .long lb_, .ref mw, .long x_62, .int v_19, .int x_76, .long ld_, .long le_, .ref mq, .ref mz, .ref my, .int sm_, .ref mb, .int bl_, .int ta_, .int tl_, .int tk_, .int vl_, .ref mx, .ref mv])), (nw, .inl (cn_, 350, .inl fn)), (mw, .inl (cw_, 21, .inr (.inl f_60)))] := hD
        have hv_78 : tz_We (k_2 + 1) v_19 f_60 := hk_61.keep (by omega)
        refine lv_iinc (v := (nI (k_2 + 1))) (lv' := [(2, .int (nI (k_2 + 1))), (3, .long r_58), (0, .ref mo), (1, .int (nI jb))]) hx hb dX12_weigh_114 hl (k := 1) rfl (nI_add k_2 1) (by decide) rfl (fun ls hl => ?_)
        refine lv_goto (tgt := 18) hx hb dX12_weigh_117 (by decide) ?_
        exact ih_52 ((k_2 + 1), x_62, f_60, v_19, x_76, H, locs, ls) ⟨by dsimp only; omega, by dsimp only; omega, hv_78, hP, hD, hS, lv_sub hl [0, 2, 3] rfl⟩ (by dsimp only; omega)
      · refine lv_aload_n hx hb dX12_weigh_78 rfl (lv_at hl 2 rfl) ?_
        refine va_get (D := (dC, dI)) (ci := 12) (v := .int v_19) (C := RX12) (T := TX12) (N := 24) hx hb hts iw_m_weigh_X12 hown hK hP 0 rfl rfl 8 (by decide) (hts (.fieldLink RX12 154 "ThriceCountedModel" "trulyIs" "I") (by decide +kernel)) (fun _ h9 => h9) rfl dX12_weigh_79 ?_
        refine lv_iconst (v := (-1)) hx hb dX12_weigh_82 (by decide) ?_
        refine lv_icmp_eq (tgt := 103) hx hb dX12_weigh_83 (by decide) (fun c_79 => ?_) (fun c_79 => ?_)
        · refine lv_iload_n hx hb dX12_weigh_103 rfl (lv_at hl 1 rfl) ?_
          refine lv_goto (tgt := 111) hx hb dX12_weigh_104 (by decide) ?_
          refine va_put (D := (dC, dI)) (ci := 12) (v := .int (nI k_2)) (ty := .int) (C := RX12) (T := TX12) (N := 24) hx hb hts iw_m_weigh_X12 tyX12 tyX12_ok nmX12 hown hK hP hD hS 0 rfl rfl 8 (by decide) (hts (.fieldLink RX12 154 "ThriceCountedModel" "trulyIs" "I") (by decide +kernel)) (fun _ h9 => h9) rfl (by decide +kernel) rfl rfl (Nat.le_of_ble_eq_true rfl) dX12_weigh_111 (fun H locs hP hD hS => ?_)
          have hP : va_P (dC, dI) vwCl [(mo, .inr (12, [.ref nw, .ref kp, .ref ik, .ref mr, .long la_, .long lb_, .ref mw, .long x_62, .int (nI k_2), .int x_76, .long ld_, .long le_, .ref mq, .ref mz, .ref my, .int sm_, .ref mb, .int bl_, .int ta_, .int tl_, .int tk_, .int vl_, .ref mx, .ref mv])), (nw, .inl (cn_, 350, .inl fn)), (mw, .inl (cw_, 21, .inr (.inl f_60)))] H := hP
          have hD : va_D A [(mo, .inr (12, [.ref nw, .ref kp, .ref ik, .ref mr, .long la_, .long lb_, .ref mw, .long x_62, .int (nI k_2), .int x_76, .long ld_, .long le_, .ref mq, .ref mz, .ref my, .int sm_, .ref mb, .int bl_, .int ta_, .int tl_, .int tk_, .int vl_, .ref mx, .ref mv])), (nw, .inl (cn_, 350, .inl fn)), (mw, .inl (cw_, 21, .inr (.inl f_60)))] := hD
          have hv_80 : tz_We (k_2 + 1) (nI k_2) f_60 := hk_61.take (by omega) c_77
          refine lv_iinc (v := (nI (k_2 + 1))) (lv' := [(2, .int (nI (k_2 + 1))), (3, .long r_58), (0, .ref mo), (1, .int (nI jb))]) hx hb dX12_weigh_114 hl (k := 1) rfl (nI_add k_2 1) (by decide) rfl (fun ls hl => ?_)
          refine lv_goto (tgt := 18) hx hb dX12_weigh_117 (by decide) ?_
          exact ih_52 ((k_2 + 1), x_62, f_60, (nI k_2), x_76, H, locs, ls) ⟨by dsimp only; omega, by dsimp only; omega, hv_80, hP, hD, hS, lv_sub hl [0, 2, 3] rfl⟩ (by dsimp only; omega)
        · refine lv_lload_n hx hb dX12_weigh_86 rfl (lv_at hl 0 rfl) ?_
          refine lv_aload_n hx hb dX12_weigh_87 rfl (lv_at hl 2 rfl) ?_
          refine va_get (D := (dC, dI)) (ci := 12) (v := .ref mw) (C := RX12) (T := TX12) (N := 24) hx hb hts iw_m_weigh_X12 hown hK hP 0 rfl rfl 6 (by decide) (hts (.fieldLink RX12 27 "ThriceCountedModel" "weights" "[J") (by decide +kernel)) (fun _ h9 => h9) rfl dX12_weigh_88 ?_
          refine lv_aload_n hx hb dX12_weigh_91 rfl (lv_at hl 2 rfl) ?_
          refine va_get (D := (dC, dI)) (ci := 12) (v := .int v_19) (C := RX12) (T := TX12) (N := 24) hx hb hts iw_m_weigh_X12 hown hK hP 0 rfl rfl 8 (by decide) (hts (.fieldLink RX12 154 "ThriceCountedModel" "trulyIs" "I") (by decide +kernel)) (fun _ h9 => h9) rfl dX12_weigh_92 ?_
          obtain ⟨t_81, ht_83, et_82⟩ := hk_61.ex c_79
          refine tz_i (nI (90 + t_81)) et_82 ?_
          refine lv_bipush (v := 90) hx hb dX12_weigh_95 (by decide) ?_
          refine lv_isub hx hb dX12_weigh_97 ?_
          refine tz_i (nI ((90 + t_81) - 90)) (pk_sub (a := (90 + t_81)) (b := 90) (by omega)) ?_
          refine va_lald hx hb hK hP 2 1 rfl rfl (vp_in_nI (n := ((90 + t_81) - 90)) (N := 21) (by omega) (by decide)) dX12_weigh_98 ?_
          refine lv_topl (fun x_84 _ => ?_)
          refine W.lcmp hx hb dX12_weigh_99 ?_
          refine lv_if_le (tgt := 107) hx hb dX12_weigh_100 (by decide) (fun c_85 => ?_) (fun c_85 => ?_)
          · refine lv_aload_n hx hb dX12_weigh_107 rfl (lv_at hl 2 rfl) ?_
            refine va_get (D := (dC, dI)) (ci := 12) (v := .int v_19) (C := RX12) (T := TX12) (N := 24) hx hb hts iw_m_weigh_X12 hown hK hP 0 rfl rfl 8 (by decide) (hts (.fieldLink RX12 154 "ThriceCountedModel" "trulyIs" "I") (by decide +kernel)) (fun _ h9 => h9) rfl dX12_weigh_108 ?_
            refine va_put (D := (dC, dI)) (ci := 12) (v := .int v_19) (ty := .int) (C := RX12) (T := TX12) (N := 24) hx hb hts iw_m_weigh_X12 tyX12 tyX12_ok nmX12 hown hK hP hD hS 0 rfl rfl 8 (by decide) (hts (.fieldLink RX12 154 "ThriceCountedModel" "trulyIs" "I") (by decide +kernel)) (fun _ h9 => h9) rfl (by decide +kernel) rfl rfl (Nat.le_of_ble_eq_true rfl) dX12_weigh_111 (fun H locs hP hD hS => ?_)
            have hP : va_P (dC, dI) vwCl [(mo, .inr (12, [.ref nw, .ref kp, .ref ik, .ref mr, .long la_, .long lb_, .ref mw, .long x_62, .int v_19, .int x_76, .long ld_, .long le_, .ref mq, .ref mz, .ref my, .int sm_, .ref mb, .int bl_, .int ta_, .int tl_, .int tk_, .int vl_, .ref mx, .ref mv])), (nw, .inl (cn_, 350, .inl fn)), (mw, .inl (cw_, 21, .inr (.inl f_60)))] H := hP
            have hD : va_D A [(mo, .inr (12, [.ref nw, .ref kp, .ref ik, .ref mr, .long la_, .long lb_, .ref mw, .long x_62, .int v_19, .int x_76, .long ld_, .long le_, .ref mq, .ref mz, .ref my, .int sm_, .ref mb, .int bl_, .int ta_, .int tl_, .int tk_, .int vl_, .ref mx, .ref mv])), (nw, .inl (cn_, 350, .inl fn)), (mw, .inl (cw_, 21, .inr (.inl f_60)))] := hD
            have hv_86 : tz_We (k_2 + 1) v_19 f_60 := hk_61.keep (by omega)
            refine lv_iinc (v := (nI (k_2 + 1))) (lv' := [(2, .int (nI (k_2 + 1))), (3, .long r_58), (0, .ref mo), (1, .int (nI jb))]) hx hb dX12_weigh_114 hl (k := 1) rfl (nI_add k_2 1) (by decide) rfl (fun ls hl => ?_)
            refine lv_goto (tgt := 18) hx hb dX12_weigh_117 (by decide) ?_
            exact ih_52 ((k_2 + 1), x_62, f_60, v_19, x_76, H, locs, ls) ⟨by dsimp only; omega, by dsimp only; omega, hv_86, hP, hD, hS, lv_sub hl [0, 2, 3] rfl⟩ (by dsimp only; omega)
          · refine lv_iload_n hx hb dX12_weigh_103 rfl (lv_at hl 1 rfl) ?_
            refine lv_goto (tgt := 111) hx hb dX12_weigh_104 (by decide) ?_
            refine va_put (D := (dC, dI)) (ci := 12) (v := .int (nI k_2)) (ty := .int) (C := RX12) (T := TX12) (N := 24) hx hb hts iw_m_weigh_X12 tyX12 tyX12_ok nmX12 hown hK hP hD hS 0 rfl rfl 8 (by decide) (hts (.fieldLink RX12 154 "ThriceCountedModel" "trulyIs" "I") (by decide +kernel)) (fun _ h9 => h9) rfl (by decide +kernel) rfl rfl (Nat.le_of_ble_eq_true rfl) dX12_weigh_111 (fun H locs hP hD hS => ?_)
            have hP : va_P (dC, dI) vwCl [(mo, .inr (12, [.ref nw, .ref kp, .ref ik, .ref mr, .long la_, .long lb_, .ref mw, .long x_62, .int (nI k_2), .int x_76, .long ld_, .long le_, .ref mq, .ref mz, .ref my, .int sm_, .ref mb, .int bl_, .int ta_, .int tl_, .int tk_, .int vl_, .ref mx, .ref mv])), (nw, .inl (cn_, 350, .inl fn)), (mw, .inl (cw_, 21, .inr (.inl f_60)))] H := hP
            have hD : va_D A [(mo, .inr (12, [.ref nw, .ref kp, .ref ik, .ref mr, .long la_, .long lb_, .ref mw, .long x_62, .int (nI k_2), .int x_76, .long ld_, .long le_, .ref mq, .ref mz, .ref my, .int sm_, .ref mb, .int bl_, .int ta_, .int tl_, .int tk_, .int vl_, .ref mx, .ref mv])), (nw, .inl (cn_, 350, .inl fn)), (mw, .inl (cw_, 21, .inr (.inl f_60)))] := hD
            have hv_87 : tz_We (k_2 + 1) (nI k_2) f_60 := hk_61.take (by omega) c_77
            refine lv_iinc (v := (nI (k_2 + 1))) (lv' := [(2, .int (nI (k_2 + 1))), (3, .long r_58), (0, .ref mo), (1, .int (nI jb))]) hx hb dX12_weigh_114 hl (k := 1) rfl (nI_add k_2 1) (by decide) rfl (fun ls hl => ?_)
            refine lv_goto (tgt := 18) hx hb dX12_weigh_117 (by decide) ?_
            exact ih_52 ((k_2 + 1), x_62, f_60, (nI k_2), x_76, H, locs, ls) ⟨by dsimp only; omega, by dsimp only; omega, hv_87, hP, hD, hS, lv_sub hl [0, 2, 3] rfl⟩ (by dsimp only; omega)
set_option maxRecDepth 20000 in
theorem ggX12_likely_X12_isBundle : GoodIn wsX12_likely wsX12_isBundle := goodIn_r _ [9, 10, 11, 12, 8, 13, 61, 62, 63, 64, 65, 66, 67, 68, 69, 70, 71, 72, 73, 74, 75, 76, 77, 78, 79, 80, 81, 82, 83, 84] (by decide +kernel) (by decide +kernel)
set_option maxRecDepth 20000 in
theorem gX12_likely_X12_isBundle : GoodIn wsX12_likely (wsV RX12 81 RX12 yX12_isBundle wsX12_isBundle) := goodIn_app (goodIn_of _ (by decide +kernel)) ggX12_likely_X12_isBundle
set_option maxRecDepth 20000 in
theorem ggX12_likely_X12_in : GoodIn wsX12_likely wsX12_in := goodIn_r _ [13] (by decide +kernel) (by decide +kernel)
set_option maxRecDepth 20000 in
theorem gX12_likely_X12_in : GoodIn wsX12_likely (va_wsS RX12 49 yX12_in wsX12_in) := goodIn_app (goodIn_of _ (by decide +kernel)) ggX12_likely_X12_in
set_option maxRecDepth 20000 in
theorem ggX12_likely_X12_weigh : GoodIn wsX12_likely wsX12_weigh := goodIn_r _ [22, 3, 23, 24, 4, 25, 26, 27, 8, 28, 10, 29, 30, 31, 32, 11, 12, 13, 33, 34, 35, 36, 37, 38, 39, 40, 41, 42, 43, 44, 45, 46, 47, 48, 49, 50, 61, 62, 63, 64, 65, 66, 67, 68, 69, 70, 71, 72, 73, 74, 75, 76, 77, 78, 79, 80, 81, 82, 83, 84] (by decide +kernel) (by decide +kernel)
set_option maxRecDepth 20000 in
theorem gX12_likely_X12_weigh : GoodIn wsX12_likely (wsV RX12 165 RX12 yX12_weigh wsX12_weigh) := goodIn_app (goodIn_of _ (by decide +kernel)) ggX12_likely_X12_weigh
set_option maxRecDepth 20000 in
theorem ggX12_likely_X12_fraction : GoodIn wsX12_likely wsX12_fraction := goodIn_r _ [58, 59, 60, 61, 62, 63, 64, 65, 66, 67, 68, 69, 70, 71, 72, 73, 74, 75, 76, 77, 78, 79, 80, 81, 82, 83, 84] (by decide +kernel) (by decide +kernel)
set_option maxRecDepth 20000 in
theorem gX12_likely_X12_fraction : GoodIn wsX12_likely (wsV RX12 169 RX12 yX12_fraction wsX12_fraction) := goodIn_app (goodIn_of _ (by decide +kernel)) ggX12_likely_X12_fraction
set_option maxRecDepth 20000 in
theorem ggX12_likely_X12_no : GoodIn wsX12_likely wsX12_no := goodIn_r _ [54, 18, 61, 62, 63, 64, 65, 66, 67, 68, 69, 70, 71, 72, 73, 74, 75, 76, 77, 78, 79, 80, 81, 82, 83, 84] (by decide +kernel) (by decide +kernel)
set_option maxRecDepth 20000 in
theorem gX12_likely_X12_no : GoodIn wsX12_likely (wsV RX12 113 RX12 yX12_no wsX12_no) := goodIn_app (goodIn_of _ (by decide +kernel)) ggX12_likely_X12_no
set_option maxRecDepth 20000 in
theorem ggX12_likely_X12_bad : GoodIn wsX12_likely wsX12_bad := goodIn_r _ [17, 18, 61, 62, 63, 64, 65, 66, 67, 68, 69, 70, 71, 72, 73, 74, 75, 76, 77, 78, 79, 80, 81, 82, 83, 84] (by decide +kernel) (by decide +kernel)
set_option maxRecDepth 20000 in
theorem gX12_likely_X12_bad : GoodIn wsX12_likely (wsV RX12 61 RX12 yX12_bad wsX12_bad) := goodIn_app (goodIn_of _ (by decide +kernel)) ggX12_likely_X12_bad
theorem dX12_likely_0 : decode cX12_likely 0 = .ok (.aload_n 0, 1) := by decide +kernel
theorem dX12_likely_1 : decode cX12_likely 1 = .ok (.iload_n 1, 1) := by decide +kernel
theorem dX12_likely_2 : decode cX12_likely 2 = .ok (.invokevirtual 81, 3) := by decide +kernel
theorem dX12_likely_5 : decode cX12_likely 5 = .ok (.ifCond .eq 17, 3) := by decide +kernel
theorem dX12_likely_8 : decode cX12_likely 8 = .ok (.iload_n 2, 1) := by decide +kernel
theorem dX12_likely_9 : decode cX12_likely 9 = .ok (.i2l, 1) := by decide +kernel
theorem dX12_likely_10 : decode cX12_likely 10 = .ok (.ldc2_w 73, 3) := by decide +kernel
theorem dX12_likely_13 : decode cX12_likely 13 = .ok (.ldc2_w 75, 3) := by decide +kernel
theorem dX12_likely_16 : decode cX12_likely 16 = .ok (.invokestatic 49, 3) := by decide +kernel
theorem dX12_likely_19 : decode cX12_likely 19 = .ok (.ifCond .ne 10, 3) := by decide +kernel
theorem dX12_likely_29 : decode cX12_likely 29 = .ok (.aload_n 0, 1) := by decide +kernel
theorem dX12_likely_30 : decode cX12_likely 30 = .ok (.iload_n 1, 1) := by decide +kernel
theorem dX12_likely_31 : decode cX12_likely 31 = .ok (.invokevirtual 165, 3) := by decide +kernel
theorem dX12_likely_34 : decode cX12_likely 34 = .ok (.aload_n 0, 1) := by decide +kernel
theorem dX12_likely_35 : decode cX12_likely 35 = .ok (.getfield 151, 3) := by decide +kernel
theorem dX12_likely_38 : decode cX12_likely 38 = .ok (.lconst 0, 1) := by decide +kernel
theorem dX12_likely_39 : decode cX12_likely 39 = .ok (.lcmp, 1) := by decide +kernel
theorem dX12_likely_40 : decode cX12_likely 40 = .ok (.ifCond .ne 8, 3) := by decide +kernel
theorem dX12_likely_48 : decode cX12_likely 48 = .ok (.aload_n 0, 1) := by decide +kernel
theorem dX12_likely_49 : decode cX12_likely 49 = .ok (.aload_n 0, 1) := by decide +kernel
theorem dX12_likely_50 : decode cX12_likely 50 = .ok (.getfield 27, 3) := by decide +kernel
theorem dX12_likely_53 : decode cX12_likely 53 = .ok (.iload_n 2, 1) := by decide +kernel
theorem dX12_likely_54 : decode cX12_likely 54 = .ok (.bipush 90, 2) := by decide +kernel
theorem dX12_likely_56 : decode cX12_likely 56 = .ok (.isub, 1) := by decide +kernel
theorem dX12_likely_57 : decode cX12_likely 57 = .ok (.laload, 1) := by decide +kernel
theorem dX12_likely_58 : decode cX12_likely 58 = .ok (.aload_n 0, 1) := by decide +kernel
theorem dX12_likely_59 : decode cX12_likely 59 = .ok (.getfield 151, 3) := by decide +kernel
theorem dX12_likely_62 : decode cX12_likely 62 = .ok (.invokevirtual 169, 3) := by decide +kernel
theorem dX12_likely_65 : decode cX12_likely 65 = .ok (.iconst 1, 1) := by decide +kernel
theorem dX12_likely_66 : decode cX12_likely 66 = .ok (.ireturn, 1) := by decide +kernel
theorem dX12_likely_43 : decode cX12_likely 43 = .ok (.aload_n 0, 1) := by decide +kernel
theorem dX12_likely_44 : decode cX12_likely 44 = .ok (.invokevirtual 113, 3) := by decide +kernel
theorem dX12_likely_47 : decode cX12_likely 47 = .ok (.ireturn, 1) := by decide +kernel
theorem dX12_likely_22 : decode cX12_likely 22 = .ok (.aload_n 0, 1) := by decide +kernel
theorem dX12_likely_23 : decode cX12_likely 23 = .ok (.bipush (-2), 2) := by decide +kernel
theorem dX12_likely_25 : decode cX12_likely 25 = .ok (.invokevirtual 61, 3) := by decide +kernel
theorem dX12_likely_28 : decode cX12_likely 28 = .ok (.ireturn, 1) := by decide +kernel
set_option maxRecDepth 20000 in
theorem iw_m_likely_X12 : ∀ w ∈ wsX120, w ∈ wsX12_likely := by decide +kernel
set_option maxHeartbeats 4000000 in
set_option maxRecDepth 100000 in
theorem m_likely (l : Launch) (dC : Nat → ClassId) (dI : Nat → Nat → Nat) (mo : Nat) (nw : Nat) (kp : Nat) (ik : Nat) (mr : Nat) (la_ : Int64) (lb_ : Int64) (mw : Nat) (lc_ : Int64) (ti_ : Int32) (cb_ : Int32) (ld_ : Int64) (le_ : Int64) (mq : Nat) (mz : Nat) (my : Nat) (sm_ : Int32) (mb : Nat) (bl_ : Int32) (ta_ : Int32) (tl_ : Int32) (tk_ : Int32) (vl_ : Int32) (mx : Nat) (mv : Nat) (cn_ : ClassId) (fn : Nat → Int32) (cw_ : ClassId) (fw_ : Nat → Int64) (cr_ : ClassId) (fr_ : Nat → Int32) (na : Int32) (nb : Int32) (sz : Nat) (hOn : tz_OK 350 fn) : Met l yX12_likely wsX12_likely ({ frames := 5, cells := 0, slots := 0, locals := 121 }) (va_Pc [.ref mo, .int na, .int nb] (fun U => U.heap.size = sz ∧ va_P (dC, dI) vwCl [(mo, .inr (12, [.ref nw, .ref kp, .ref ik, .ref mr, .long la_, .long lb_, .ref mw, .long lc_, .int ti_, .int cb_, .long ld_, .long le_, .ref mq, .ref mz, .ref my, .int sm_, .ref mb, .int bl_, .int ta_, .int tl_, .int tk_, .int vl_, .ref mx, .ref mv])), (nw, .inl (cn_, 350, .inl fn)), (mw, .inl (cw_, 21, .inr (.inl fw_))), (mr, .inl (cr_, 3, .inl fr_))] U.heap ∧ va_K (dC, dI) vwCl [(cn_, .int), (cw_, .long), (cr_, .int)] U ∧ va_D (fun _ => True) [(mo, .inr (12, [.ref nw, .ref kp, .ref ik, .ref mr, .long la_, .long lb_, .ref mw, .long lc_, .int ti_, .int cb_, .long ld_, .long le_, .ref mq, .ref mz, .ref my, .int sm_, .ref mb, .int bl_, .int ta_, .int tl_, .int tk_, .int vl_, .ref mx, .ref mv])), (nw, .inl (cn_, 350, .inl fn)), (mw, .inl (cw_, 21, .inr (.inl fw_))), (mr, .inl (cr_, 3, .inl fr_))])) (va_Qi (fun (r : Int32) (_ : Unit) => True) (fun _ t => ∃ (h_allWeights : Int64) (h_trulyIs : Int32) (h_canBe : Int32) (h_above : Int64) (h_below : Int64) (gw_ : Nat → Int64) (gr_ : Nat → Int32), va_P (dC, dI) vwCl [(mo, .inr (12, [.ref nw, .ref kp, .ref ik, .ref mr, .long h_above, .long h_below, .ref mw, .long h_allWeights, .int h_trulyIs, .int h_canBe, .long ld_, .long le_, .ref mq, .ref mz, .ref my, .int sm_, .ref mb, .int bl_, .int ta_, .int tl_, .int tk_, .int vl_, .ref mx, .ref mv])), (nw, .inl (cn_, 350, .inl fn)), (mw, .inl (cw_, 21, .inr (.inl gw_))), (mr, .inl (cr_, 3, .inl gr_))] t.heap ∧ va_K (dC, dI) vwCl [(cn_, .int), (cw_, .long), (cr_, .int)] t ∧ va_D (va_A [(mo, .inr (12, [.ref nw, .ref kp, .ref ik, .ref mr, .long la_, .long lb_, .ref mw, .long lc_, .int ti_, .int cb_, .long ld_, .long le_, .ref mq, .ref mz, .ref my, .int sm_, .ref mb, .int bl_, .int ta_, .int tl_, .int tk_, .int vl_, .ref mx, .ref mv])), (nw, .inl (cn_, 350, .inl fn)), (mw, .inl (cw_, 21, .inr (.inl fw_))), (mr, .inl (cr_, 3, .inl fr_))] sz) [(mo, .inr (12, [.ref nw, .ref kp, .ref ik, .ref mr, .long h_above, .long h_below, .ref mw, .long h_allWeights, .int h_trulyIs, .int h_canBe, .long ld_, .long le_, .ref mq, .ref mz, .ref my, .int sm_, .ref mb, .int bl_, .int ta_, .int tl_, .int tk_, .int vl_, .ref mx, .ref mv])), (nw, .inl (cn_, 350, .inl fn)), (mw, .inl (cw_, 21, .inr (.inl gw_))), (mr, .inl (cr_, 3, .inl gr_))]) (va_A [(mo, .inr (12, [.ref nw, .ref kp, .ref ik, .ref mr, .long la_, .long lb_, .ref mw, .long lc_, .int ti_, .int cb_, .long ld_, .long le_, .ref mq, .ref mz, .ref my, .int sm_, .ref mb, .int bl_, .int ta_, .int tl_, .int tk_, .int vl_, .ref mx, .ref mv])), (nw, .inl (cn_, 350, .inl fn)), (mw, .inl (cw_, 21, .inr (.inl fw_))), (mr, .inl (cr_, 3, .inl fr_))] sz)) 0 0 (va_A [(mo, .inr (12, [.ref nw, .ref kp, .ref ik, .ref mr, .long la_, .long lb_, .ref mw, .long lc_, .int ti_, .int cb_, .long ld_, .long le_, .ref mq, .ref mz, .ref my, .int sm_, .ref mb, .int bl_, .int ta_, .int tl_, .int tk_, .int vl_, .ref mx, .ref mv])), (nw, .inl (cn_, 350, .inl fn)), (mw, .inl (cw_, 21, .inr (.inl fw_))), (mr, .inl (cr_, 3, .inl fr_))] sz) := by
  refine Met.ofW (cc := cX12_likely) (maxL := 3) (ret := (some .int)) (by decide) rfl ?_
  intro p e s m args below meth c s₁ B hml hv
  obtain ⟨rfl, hsz, hP, hK, hD0⟩ := hv
  have hx := B.exec
  have hb := B.bytes
  have hr := B.returns
  have hts := atoms_spec (ws := wsX12_likely) B.pre
  have hown : s.vm.findClass RX12 = some m.cls := findClass_of_methodNamed B.named
  have hlocks := B.notSynchronized
  subst hsz
  have hD := hD0.self (sz := s.heap.size)
  generalize hAe : va_A [(mo, .inr (12, [.ref nw, .ref kp, .ref ik, .ref mr, .long la_, .long lb_, .ref mw, .long lc_, .int ti_, .int cb_, .long ld_, .long le_, .ref mq, .ref mz, .ref my, .int sm_, .ref mb, .int bl_, .int ta_, .int tl_, .int tk_, .int vl_, .ref mx, .ref mv])), (nw, .inl (cn_, 350, .inl fn)), (mw, .inl (cw_, 21, .inr (.inl fw_))), (mr, .inl (cr_, 3, .inl fr_))] s.heap.size = A at hD ⊢
  have hA : ∀ q : Nat, s.heap.size ≤ q → A q := fun q h => by rw [← hAe]; exact Or.inr h
  have hS : va_S A s.heap s.heap [] := va_S.rf
  have hP : va_P (dC, dI) vwCl [(mo, .inr (12, [.ref nw, .ref kp, .ref ik, .ref mr, .long la_, .long lb_, .ref mw, .long lc_, .int ti_, .int cb_, .long ld_, .long le_, .ref mq, .ref mz, .ref my, .int sm_, .ref mb, .int bl_, .int ta_, .int tl_, .int tk_, .int vl_, .ref mx, .ref mv])), (nw, .inl (cn_, 350, .inl fn)), (mw, .inl (cw_, 21, .inr (.inl fw_))), (mr, .inl (cr_, 3, .inl fr_))] s.heap := hP
  have hl := lv_entry ([.ref mo, .int na, .int nb]) (n := 3) (Nat.le_of_ble_eq_true rfl)
  rw [lg_entry_eq]
  generalize (lg_sl ([.ref mo, .int na, .int nb]) ++ List.replicate (3 - (lg_sl ([.ref mo, .int na, .int nb])).length) Slot.unset).toArray = ls at hl ⊢
  have hl : lv_has ls 3 [(0, .ref mo), (1, .int na), (2, .int nb)] := hl
  refine lv_aload_n hx hb dX12_likely_0 rfl (lv_at hl 0 rfl) ?_
  refine lv_iload_n hx hb dX12_likely_1 rfl (lv_at hl 1 rfl) ?_
  have hPc_1 := hP.sub (ws' := [(mo, .inr (12, [.ref nw, .ref kp, .ref ik, .ref mr, .long la_, .long lb_, .ref mw, .long lc_, .int ti_, .int cb_, .long ld_, .long le_, .ref mq, .ref mz, .ref my, .int sm_, .ref mb, .int bl_, .int ta_, .int tl_, .int tk_, .int vl_, .ref mx, .ref mv])), (nw, .inl (cn_, 350, .inl fn))]) [0, 1] rfl
  have hKc_2 := hK.sub (tys' := [(cn_, .int)]) [0] rfl
  refine vp_callSi (va_Run.run (va_runV (As := [.int na]) (rest := []) ⟨hx, hb, hml, hown, hts⟩ (m_isBundle l dC dI mo nw kp ik mr la_ lb_ mw lc_ ti_ cb_ ld_ le_ mq mz my sm_ mb bl_ ta_ tl_ tk_ vl_ mx mv cn_ fn na hOn) (cwV 1 hts gX12_likely_X12_isBundle rfl rfl rfl (by decide +kernel) ⟨Nat.le_of_ble_eq_true rfl, Nat.le_of_ble_eq_true rfl⟩) ⟨fun a U g mk q => by obtain ⟨q0, qP, qK⟩ := q; exact ⟨q0, qP, va_K.moved (u := U) (U := U.calling g mk a) (Vm.Alike.refl U.vm) qK⟩, va_recv hK hP (ci := 12) (q0 := 0) rfl rfl, fun U hU hW => ⟨rfl, by rw [hU]; exact hPc_1, va_K.moved hW.alike hKc_2⟩⟩ rfl rfl hl.1 rfl (lv_room (Nat.le_of_ble_eq_true rfl)) dX12_likely_2 ⟨Nat.le_of_ble_eq_true rfl, Nat.le_of_ble_eq_true rfl⟩)) (fun r_3 hw_4 => ?_)
  by_cases hc_5 : 0 ≤ na ∧ na < (fn 1)
  · obtain rfl : 1 = r_3 := (hw_4.trans (if_pos hc_5)).symm
    obtain ⟨j_7, hj_8, ej_9⟩ := hOn.nat (K := 1) (n := 5) (by omega) (show tz_b 1 = (0, 5) from by decide)
    obtain ⟨j_6, hj_10, rfl⟩ := tz_idx2 (J := j_7) hc_5 ej_9 (by omega)
    refine lv_if_eq (tgt := 22) hx hb dX12_likely_5 (by decide) (fun c_11 => ?_) (fun c_11 => ?_)
    · exact absurd c_11 (by decide)
    · refine lv_iload_n hx hb dX12_likely_8 rfl (lv_at hl 2 rfl) ?_
      refine lv_i2l (v := nb.toInt64) hx hb dX12_likely_9 rfl ?_
      refine lv_ldc2 hx hb hown (hts (.constantLong RX12 73 (90)) (by decide +kernel)) dX12_likely_10 ?_
      refine lv_ldc2 hx hb hown (hts (.constantLong RX12 75 (110)) (by decide +kernel)) dX12_likely_13 ?_
      refine vp_callSi (va_Run.run (va_runS (As := [.long nb.toInt64, .long 90, .long 110]) (rest := []) ⟨hx, hb, hml, hown, hts⟩ (m_in l dC dI nb.toInt64 90 110) (va_cwS 3 hts gX12_likely_X12_in rfl rfl rfl (by decide +kernel) ⟨Nat.le_of_ble_eq_true rfl, Nat.le_of_ble_eq_true rfl⟩) ⟨fun a U g mk q => ⟨q.1, trivial⟩, fun U hU hW => ⟨rfl, trivial⟩⟩ rfl rfl hl.1 rfl (lv_room (Nat.le_of_ble_eq_true rfl)) dX12_likely_16 ⟨Nat.le_of_ble_eq_true rfl, Nat.le_of_ble_eq_true rfl⟩)) (fun r_12 hw_13 => ?_)
      by_cases hc_14 : 90 ≤ nb ∧ nb ≤ 110
      · obtain rfl : 1 = r_12 := (hw_13.trans (if_pos ((tz_in64 (by first | rfl | decide) rfl (by first | rfl | decide)).mpr hc_14))).symm
        obtain ⟨j_15, hj_16, hj_17, rfl⟩ := tz_pickL (l := 90) (n := 110) hc_14 (by decide) (by decide)
        refine lv_if_ne (tgt := 29) hx hb dX12_likely_19 (by decide) (fun c_18 => ?_) (fun c_18 => ?_)
        · refine lv_aload_n hx hb dX12_likely_29 rfl (lv_at hl 0 rfl) ?_
          refine lv_iload_n hx hb dX12_likely_30 rfl (lv_at hl 1 rfl) ?_
          have hPc := hP.sub (ws' := [(mo, .inr (12, [.ref nw, .ref kp, .ref ik, .ref mr, .long la_, .long lb_, .ref mw, .long lc_, .int ti_, .int cb_, .long ld_, .long le_, .ref mq, .ref mz, .ref my, .int sm_, .ref mb, .int bl_, .int ta_, .int tl_, .int tk_, .int vl_, .ref mx, .ref mv])), (nw, .inl (cn_, 350, .inl fn)), (mw, .inl (cw_, 21, .inr (.inl fw_)))]) [0, 1, 2] rfl
          have hDc := hD.sub (ws' := [(mo, .inr (12, [.ref nw, .ref kp, .ref ik, .ref mr, .long la_, .long lb_, .ref mw, .long lc_, .int ti_, .int cb_, .long ld_, .long le_, .ref mq, .ref mz, .ref my, .int sm_, .ref mb, .int bl_, .int ta_, .int tl_, .int tk_, .int vl_, .ref mx, .ref mv])), (nw, .inl (cn_, 350, .inl fn)), (mw, .inl (cw_, 21, .inr (.inl fw_)))]) [0, 1, 2] (by decide) rfl
          have hKc := hK.sub (tys' := [(cn_, .int), (cw_, .long)]) [0, 1] rfl
          have hFc := va_free (wc := [(mo, .inr (12, [.ref nw, .ref kp, .ref ik, .ref mr, .long la_, .long lb_, .ref mw, .long lc_, .int ti_, .int cb_, .long ld_, .long le_, .ref mq, .ref mz, .ref my, .int sm_, .ref mb, .int bl_, .int ta_, .int tl_, .int tk_, .int vl_, .ref mx, .ref mv])), (nw, .inl (cn_, 350, .inl fn)), (mw, .inl (cw_, 21, .inr (.inl fw_)))]) hD hS hA [0, 1, 2] rfl
          refine va_callv (va_runV (As := [.int (nI j_6)]) (rest := []) ⟨hx, hb, hml, hown, hts⟩ (m_weigh l dC dI mo nw kp ik mr la_ lb_ mw lc_ ti_ cb_ ld_ le_ mq mz my sm_ mb bl_ ta_ tl_ tk_ vl_ mx mv cn_ fn cw_ fw_ j_6 s.heap.size hOn (by omega)) (cwV 1 hts gX12_likely_X12_weigh rfl rfl rfl (by decide +kernel) ⟨Nat.le_of_ble_eq_true rfl, Nat.le_of_ble_eq_true rfl⟩) ⟨fun a U g mk q => by obtain ⟨q0, q1, qP, qK, qD⟩ := q; exact ⟨q0, q1, qP, va_K.moved (u := U) (U := U.calling g mk a) (Vm.Alike.refl U.vm) qK, qD⟩, va_recv hK hP (ci := 12) (q0 := 0) rfl rfl, fun U hU hW => ⟨rfl, by rw [hU], by rw [hU]; exact hPc, va_K.moved hW.alike hKc, hDc.weaken (fun _ _ _ _ => trivial)⟩⟩ rfl rfl hl.1 rfl (lv_room (Nat.le_of_ble_eq_true rfl)) dX12_likely_31 ⟨Nat.le_of_ble_eq_true rfl, Nat.le_of_ble_eq_true rfl⟩) hS (fun q _ h => hFc q h) hFc (fun u_ t H1 locs ht hvm hw_20 hB hz1 hk1 hS => ?_)
          obtain ⟨h_allWeights_21, h_trulyIs_22, h_canBe_23, gw__24, hf_25, hP1, hK1, hD1⟩ := hB
          rw [ht] at hP1
          have hK1 := va_K.moved hvm.symm hK1
          obtain ⟨hP, hD⟩ := va_join (wr := [(mr, .inl (cr_, 3, .inl fr_))]) (w1 := [(mo, .inr (12, [.ref nw, .ref kp, .ref ik, .ref mr, .long la_, .long lb_, .ref mw, .long h_allWeights_21, .int h_trulyIs_22, .int h_canBe_23, .long ld_, .long le_, .ref mq, .ref mz, .ref my, .int sm_, .ref mb, .int bl_, .int ta_, .int tl_, .int tk_, .int vl_, .ref mx, .ref mv])), (nw, .inl (cn_, 350, .inl fn)), (mw, .inl (cw_, 21, .inr (.inl gw__24)))]) hP hD [0, 1, 2] [3] rfl rfl (by decide) (by decide) hk1 hFc hP1 hD1
          generalize H1 = H at hP hS ⊢
          have hP : va_P (dC, dI) vwCl [(mr, .inl (cr_, 3, .inl fr_)), (mo, .inr (12, [.ref nw, .ref kp, .ref ik, .ref mr, .long la_, .long lb_, .ref mw, .long h_allWeights_21, .int h_trulyIs_22, .int h_canBe_23, .long ld_, .long le_, .ref mq, .ref mz, .ref my, .int sm_, .ref mb, .int bl_, .int ta_, .int tl_, .int tk_, .int vl_, .ref mx, .ref mv])), (nw, .inl (cn_, 350, .inl fn)), (mw, .inl (cw_, 21, .inr (.inl gw__24)))] H := hP
          have hD : va_D A [(mr, .inl (cr_, 3, .inl fr_)), (mo, .inr (12, [.ref nw, .ref kp, .ref ik, .ref mr, .long la_, .long lb_, .ref mw, .long h_allWeights_21, .int h_trulyIs_22, .int h_canBe_23, .long ld_, .long le_, .ref mq, .ref mz, .ref my, .int sm_, .ref mb, .int bl_, .int ta_, .int tl_, .int tk_, .int vl_, .ref mx, .ref mv])), (nw, .inl (cn_, 350, .inl fn)), (mw, .inl (cw_, 21, .inr (.inl gw__24)))] := hD
          refine lv_aload_n hx hb dX12_likely_34 rfl (lv_at hl 0 rfl) ?_
          refine va_get (D := (dC, dI)) (ci := 12) (v := .long h_allWeights_21) (C := RX12) (T := TX12) (N := 24) hx hb hts iw_m_likely_X12 hown hK hP 1 rfl rfl 7 (by decide) (hts (.fieldLink RX12 151 "ThriceCountedModel" "allWeights" "J") (by decide +kernel)) (fun _ h9 => h9) rfl dX12_likely_35 ?_
          refine lv_lconst (v := 0) hx hb dX12_likely_38 (by decide) ?_
          refine W.lcmp hx hb dX12_likely_39 ?_
          refine lv_if_ne (tgt := 48) hx hb dX12_likely_40 (by decide) (fun c_26 => ?_) (fun c_26 => ?_)
          · refine lv_aload_n hx hb dX12_likely_48 rfl (lv_at hl 0 rfl) ?_
            refine lv_aload_n hx hb dX12_likely_49 rfl (lv_at hl 0 rfl) ?_
            refine va_get (D := (dC, dI)) (ci := 12) (v := .ref mw) (C := RX12) (T := TX12) (N := 24) hx hb hts iw_m_likely_X12 hown hK hP 1 rfl rfl 6 (by decide) (hts (.fieldLink RX12 27 "ThriceCountedModel" "weights" "[J") (by decide +kernel)) (fun _ h9 => h9) rfl dX12_likely_50 ?_
            refine lv_iload_n hx hb dX12_likely_53 rfl (lv_at hl 2 rfl) ?_
            refine lv_bipush (v := 90) hx hb dX12_likely_54 (by decide) ?_
            refine lv_isub hx hb dX12_likely_56 ?_
            refine tz_i (nI (j_15 - 90)) (pk_sub (a := j_15) (b := 90) (by omega)) ?_
            refine va_lald hx hb hK hP 3 1 rfl rfl (vp_in_nI (n := (j_15 - 90)) (N := 21) (by omega) (by decide)) dX12_likely_57 ?_
            refine lv_topl (fun x_27 _ => ?_)
            refine lv_aload_n hx hb dX12_likely_58 rfl (lv_at hl 0 rfl) ?_
            refine va_get (D := (dC, dI)) (ci := 12) (v := .long h_allWeights_21) (C := RX12) (T := TX12) (N := 24) hx hb hts iw_m_likely_X12 hown hK hP 1 rfl rfl 7 (by decide) (hts (.fieldLink RX12 151 "ThriceCountedModel" "allWeights" "J") (by decide +kernel)) (fun _ h9 => h9) rfl dX12_likely_59 ?_
            have hPc := hP.sub (ws' := [(mo, .inr (12, [.ref nw, .ref kp, .ref ik, .ref mr, .long la_, .long lb_, .ref mw, .long h_allWeights_21, .int h_trulyIs_22, .int h_canBe_23, .long ld_, .long le_, .ref mq, .ref mz, .ref my, .int sm_, .ref mb, .int bl_, .int ta_, .int tl_, .int tk_, .int vl_, .ref mx, .ref mv]))]) [1] rfl
            have hDc := hD.sub (ws' := [(mo, .inr (12, [.ref nw, .ref kp, .ref ik, .ref mr, .long la_, .long lb_, .ref mw, .long h_allWeights_21, .int h_trulyIs_22, .int h_canBe_23, .long ld_, .long le_, .ref mq, .ref mz, .ref my, .int sm_, .ref mb, .int bl_, .int ta_, .int tl_, .int tk_, .int vl_, .ref mx, .ref mv]))]) [1] (by decide) rfl
            have hKc := hK.sub (tys' := []) [] rfl
            have hFc := va_free (wc := [(mo, .inr (12, [.ref nw, .ref kp, .ref ik, .ref mr, .long la_, .long lb_, .ref mw, .long h_allWeights_21, .int h_trulyIs_22, .int h_canBe_23, .long ld_, .long le_, .ref mq, .ref mz, .ref my, .int sm_, .ref mb, .int bl_, .int ta_, .int tl_, .int tk_, .int vl_, .ref mx, .ref mv]))]) hD hS hA [1] rfl
            refine va_callv (va_runV (As := [.long x_27, .long h_allWeights_21]) (rest := []) ⟨hx, hb, hml, hown, hts⟩ (m_fraction l dC dI mo nw kp ik mr la_ lb_ mw h_allWeights_21 h_trulyIs_22 h_canBe_23 ld_ le_ mq mz my sm_ mb bl_ ta_ tl_ tk_ vl_ mx mv x_27 h_allWeights_21 H.size (tz_cmp_ne c_26)) (cwV 2 hts gX12_likely_X12_fraction rfl rfl rfl (by decide +kernel) ⟨Nat.le_of_ble_eq_true rfl, Nat.le_of_ble_eq_true rfl⟩) ⟨fun a U g mk q => by obtain ⟨q0, q1, qP, qK, qD⟩ := q; exact ⟨q0, q1, qP, va_K.moved (u := U) (U := U.calling g mk a) (Vm.Alike.refl U.vm) qK, qD⟩, va_recv hK hP (ci := 12) (q0 := 1) rfl rfl, fun U hU hW => ⟨rfl, by rw [hU], by rw [hU]; exact hPc, va_K.moved hW.alike hKc, hDc.weaken (fun _ _ _ _ => trivial)⟩⟩ rfl rfl hl.1 rfl (lv_room (Nat.le_of_ble_eq_true rfl)) dX12_likely_62 ⟨Nat.le_of_ble_eq_true rfl, Nat.le_of_ble_eq_true rfl⟩) hS (fun q _ h => hFc q h) hFc (fun u_ t H1 locs ht hvm hw_29 hB hz1 hk1 hS => ?_)
            obtain ⟨h_above_30, h_below_31, hP1, hK1, hD1⟩ := hB
            rw [ht] at hP1
            have hK1 := va_K.moved hvm.symm hK1
            obtain ⟨hP, hD⟩ := va_join (wr := [(mr, .inl (cr_, 3, .inl fr_)), (nw, .inl (cn_, 350, .inl fn)), (mw, .inl (cw_, 21, .inr (.inl gw__24)))]) (w1 := [(mo, .inr (12, [.ref nw, .ref kp, .ref ik, .ref mr, .long h_above_30, .long h_below_31, .ref mw, .long h_allWeights_21, .int h_trulyIs_22, .int h_canBe_23, .long ld_, .long le_, .ref mq, .ref mz, .ref my, .int sm_, .ref mb, .int bl_, .int ta_, .int tl_, .int tk_, .int vl_, .ref mx, .ref mv]))]) hP hD [1] [0, 2, 3] rfl rfl (by decide) (by decide) hk1 hFc hP1 hD1
            generalize H1 = H at hP hS ⊢
            have hP : va_P (dC, dI) vwCl [(mr, .inl (cr_, 3, .inl fr_)), (nw, .inl (cn_, 350, .inl fn)), (mw, .inl (cw_, 21, .inr (.inl gw__24))), (mo, .inr (12, [.ref nw, .ref kp, .ref ik, .ref mr, .long h_above_30, .long h_below_31, .ref mw, .long h_allWeights_21, .int h_trulyIs_22, .int h_canBe_23, .long ld_, .long le_, .ref mq, .ref mz, .ref my, .int sm_, .ref mb, .int bl_, .int ta_, .int tl_, .int tk_, .int vl_, .ref mx, .ref mv]))] H := hP
            have hD : va_D A [(mr, .inl (cr_, 3, .inl fr_)), (nw, .inl (cn_, 350, .inl fn)), (mw, .inl (cw_, 21, .inr (.inl gw__24))), (mo, .inr (12, [.ref nw, .ref kp, .ref ik, .ref mr, .long h_above_30, .long h_below_31, .ref mw, .long h_allWeights_21, .int h_trulyIs_22, .int h_canBe_23, .long ld_, .long le_, .ref mq, .ref mz, .ref my, .int sm_, .ref mb, .int bl_, .int ta_, .int tl_, .int tk_, .int vl_, .ref mx, .ref mv]))] := hD
            refine lv_iconst (v := 1) hx hb dX12_likely_65 (by decide) ?_
            have hP9 := hP.sub (ws' := [(mo, .inr (12, [.ref nw, .ref kp, .ref ik, .ref mr, .long h_above_30, .long h_below_31, .ref mw, .long h_allWeights_21, .int h_trulyIs_22, .int h_canBe_23, .long ld_, .long le_, .ref mq, .ref mz, .ref my, .int sm_, .ref mb, .int bl_, .int ta_, .int tl_, .int tk_, .int vl_, .ref mx, .ref mv])), (nw, .inl (cn_, 350, .inl fn)), (mw, .inl (cw_, 21, .inr (.inl gw__24))), (mr, .inl (cr_, 3, .inl fr_))]) [3, 1, 2, 0] rfl
            have hD9 := hD.sub (ws' := [(mo, .inr (12, [.ref nw, .ref kp, .ref ik, .ref mr, .long h_above_30, .long h_below_31, .ref mw, .long h_allWeights_21, .int h_trulyIs_22, .int h_canBe_23, .long ld_, .long le_, .ref mq, .ref mz, .ref my, .int sm_, .ref mb, .int bl_, .int ta_, .int tl_, .int tk_, .int vl_, .ref mx, .ref mv])), (nw, .inl (cn_, 350, .inl fn)), (mw, .inl (cw_, 21, .inr (.inl gw__24))), (mr, .inl (cr_, 3, .inl fr_))]) [3, 1, 2, 0] (by decide) rfl
            have hK9 := hK.sub (tys' := [(cn_, .int), (cw_, .long), (cr_, .int)]) [0, 1, 2] rfl
            exact W.iret (v := 1) hx hb hr (fun t ht hW => ⟨⟨1, (), rfl, trivial, h_allWeights_21, h_trulyIs_22, h_canBe_23, h_above_30, h_below_31, gw__24, fr_, by rw [ht]; exact hP9, va_K.moved hW.alike hK9, hD9⟩, hS.F ht⟩) hS.2.2 dX12_likely_66
          · refine lv_aload_n hx hb dX12_likely_43 rfl (lv_at hl 0 rfl) ?_
            have hPc := hP.sub (ws' := [(mo, .inr (12, [.ref nw, .ref kp, .ref ik, .ref mr, .long la_, .long lb_, .ref mw, .long h_allWeights_21, .int h_trulyIs_22, .int h_canBe_23, .long ld_, .long le_, .ref mq, .ref mz, .ref my, .int sm_, .ref mb, .int bl_, .int ta_, .int tl_, .int tk_, .int vl_, .ref mx, .ref mv])), (mr, .inl (cr_, 3, .inl fr_))]) [1, 0] rfl
            have hDc := hD.sub (ws' := [(mo, .inr (12, [.ref nw, .ref kp, .ref ik, .ref mr, .long la_, .long lb_, .ref mw, .long h_allWeights_21, .int h_trulyIs_22, .int h_canBe_23, .long ld_, .long le_, .ref mq, .ref mz, .ref my, .int sm_, .ref mb, .int bl_, .int ta_, .int tl_, .int tk_, .int vl_, .ref mx, .ref mv])), (mr, .inl (cr_, 3, .inl fr_))]) [1, 0] (by decide) rfl
            have hKc := hK.sub (tys' := [(cr_, .int)]) [2] rfl
            have hFc := va_free (wc := [(mo, .inr (12, [.ref nw, .ref kp, .ref ik, .ref mr, .long la_, .long lb_, .ref mw, .long h_allWeights_21, .int h_trulyIs_22, .int h_canBe_23, .long ld_, .long le_, .ref mq, .ref mz, .ref my, .int sm_, .ref mb, .int bl_, .int ta_, .int tl_, .int tk_, .int vl_, .ref mx, .ref mv])), (mr, .inl (cr_, 3, .inl fr_))]) hD hS hA [1, 0] rfl
            refine va_calli (va_runV (As := []) (rest := []) ⟨hx, hb, hml, hown, hts⟩ (m_no l dC dI mo nw kp ik mr la_ lb_ mw h_allWeights_21 h_trulyIs_22 h_canBe_23 ld_ le_ mq mz my sm_ mb bl_ ta_ tl_ tk_ vl_ mx mv cr_ fr_ H.size) (cwV 0 hts gX12_likely_X12_no rfl rfl rfl (by decide +kernel) ⟨Nat.le_of_ble_eq_true rfl, Nat.le_of_ble_eq_true rfl⟩) ⟨fun a U g mk q => by obtain ⟨q0, q1, qP, qK, qD⟩ := q; exact ⟨q0, q1, qP, va_K.moved (u := U) (U := U.calling g mk a) (Vm.Alike.refl U.vm) qK, qD⟩, va_recv hK hP (ci := 12) (q0 := 1) rfl rfl, fun U hU hW => ⟨rfl, by rw [hU], by rw [hU]; exact hPc, va_K.moved hW.alike hKc, hDc.weaken (fun _ _ _ _ => trivial)⟩⟩ rfl rfl hl.1 rfl (lv_room (Nat.le_of_ble_eq_true rfl)) dX12_likely_44 ⟨Nat.le_of_ble_eq_true rfl, Nat.le_of_ble_eq_true rfl⟩) hS (fun q _ h => hFc q h) hFc (fun r_32 u_ t H1 locs ht hvm hw_33 hB hz1 hk1 hS => ?_)
            obtain ⟨gr__34, hP1, hK1, hD1⟩ := hB
            rw [ht] at hP1
            have hK1 := va_K.moved hvm.symm hK1
            obtain ⟨hP, hD⟩ := va_join (wr := [(nw, .inl (cn_, 350, .inl fn)), (mw, .inl (cw_, 21, .inr (.inl gw__24)))]) (w1 := [(mo, .inr (12, [.ref nw, .ref kp, .ref ik, .ref mr, .long la_, .long lb_, .ref mw, .long h_allWeights_21, .int h_trulyIs_22, .int h_canBe_23, .long ld_, .long le_, .ref mq, .ref mz, .ref my, .int sm_, .ref mb, .int bl_, .int ta_, .int tl_, .int tk_, .int vl_, .ref mx, .ref mv])), (mr, .inl (cr_, 3, .inl gr__34))]) hP hD [1, 0] [2, 3] rfl rfl (by decide) (by decide) hk1 hFc hP1 hD1
            generalize H1 = H at hP hS ⊢
            have hP : va_P (dC, dI) vwCl [(nw, .inl (cn_, 350, .inl fn)), (mw, .inl (cw_, 21, .inr (.inl gw__24))), (mo, .inr (12, [.ref nw, .ref kp, .ref ik, .ref mr, .long la_, .long lb_, .ref mw, .long h_allWeights_21, .int h_trulyIs_22, .int h_canBe_23, .long ld_, .long le_, .ref mq, .ref mz, .ref my, .int sm_, .ref mb, .int bl_, .int ta_, .int tl_, .int tk_, .int vl_, .ref mx, .ref mv])), (mr, .inl (cr_, 3, .inl gr__34))] H := hP
            have hD : va_D A [(nw, .inl (cn_, 350, .inl fn)), (mw, .inl (cw_, 21, .inr (.inl gw__24))), (mo, .inr (12, [.ref nw, .ref kp, .ref ik, .ref mr, .long la_, .long lb_, .ref mw, .long h_allWeights_21, .int h_trulyIs_22, .int h_canBe_23, .long ld_, .long le_, .ref mq, .ref mz, .ref my, .int sm_, .ref mb, .int bl_, .int ta_, .int tl_, .int tk_, .int vl_, .ref mx, .ref mv])), (mr, .inl (cr_, 3, .inl gr__34))] := hD
            obtain rfl : (-3) = r_32 := hw_33.symm
            have hP9 := hP.sub (ws' := [(mo, .inr (12, [.ref nw, .ref kp, .ref ik, .ref mr, .long la_, .long lb_, .ref mw, .long h_allWeights_21, .int h_trulyIs_22, .int h_canBe_23, .long ld_, .long le_, .ref mq, .ref mz, .ref my, .int sm_, .ref mb, .int bl_, .int ta_, .int tl_, .int tk_, .int vl_, .ref mx, .ref mv])), (nw, .inl (cn_, 350, .inl fn)), (mw, .inl (cw_, 21, .inr (.inl gw__24))), (mr, .inl (cr_, 3, .inl gr__34))]) [2, 0, 1, 3] rfl
            have hD9 := hD.sub (ws' := [(mo, .inr (12, [.ref nw, .ref kp, .ref ik, .ref mr, .long la_, .long lb_, .ref mw, .long h_allWeights_21, .int h_trulyIs_22, .int h_canBe_23, .long ld_, .long le_, .ref mq, .ref mz, .ref my, .int sm_, .ref mb, .int bl_, .int ta_, .int tl_, .int tk_, .int vl_, .ref mx, .ref mv])), (nw, .inl (cn_, 350, .inl fn)), (mw, .inl (cw_, 21, .inr (.inl gw__24))), (mr, .inl (cr_, 3, .inl gr__34))]) [2, 0, 1, 3] (by decide) rfl
            have hK9 := hK.sub (tys' := [(cn_, .int), (cw_, .long), (cr_, .int)]) [0, 1, 2] rfl
            exact W.iret (v := (-3)) hx hb hr (fun t ht hW => ⟨⟨(-3), (), rfl, trivial, h_allWeights_21, h_trulyIs_22, h_canBe_23, la_, lb_, gw__24, gr__34, by rw [ht]; exact hP9, va_K.moved hW.alike hK9, hD9⟩, hS.F ht⟩) hS.2.2 dX12_likely_47
        · exact absurd c_18 (by decide)
      · obtain rfl : 0 = r_12 := (hw_13.trans (if_neg (fun z => hc_14 ((tz_in64 (by first | rfl | decide) rfl (by first | rfl | decide)).mp z)))).symm
        refine lv_if_ne (tgt := 29) hx hb dX12_likely_19 (by decide) (fun c_35 => ?_) (fun c_35 => ?_)
        · exact absurd c_35 (by decide)
        · refine lv_aload_n hx hb dX12_likely_22 rfl (lv_at hl 0 rfl) ?_
          refine lv_bipush (v := (-2)) hx hb dX12_likely_23 (by decide) ?_
          have hPc := hP.sub (ws' := [(mo, .inr (12, [.ref nw, .ref kp, .ref ik, .ref mr, .long la_, .long lb_, .ref mw, .long lc_, .int ti_, .int cb_, .long ld_, .long le_, .ref mq, .ref mz, .ref my, .int sm_, .ref mb, .int bl_, .int ta_, .int tl_, .int tk_, .int vl_, .ref mx, .ref mv])), (mr, .inl (cr_, 3, .inl fr_))]) [0, 3] rfl
          have hDc := hD.sub (ws' := [(mo, .inr (12, [.ref nw, .ref kp, .ref ik, .ref mr, .long la_, .long lb_, .ref mw, .long lc_, .int ti_, .int cb_, .long ld_, .long le_, .ref mq, .ref mz, .ref my, .int sm_, .ref mb, .int bl_, .int ta_, .int tl_, .int tk_, .int vl_, .ref mx, .ref mv])), (mr, .inl (cr_, 3, .inl fr_))]) [0, 3] (by decide) rfl
          have hKc := hK.sub (tys' := [(cr_, .int)]) [2] rfl
          have hFc := va_free (wc := [(mo, .inr (12, [.ref nw, .ref kp, .ref ik, .ref mr, .long la_, .long lb_, .ref mw, .long lc_, .int ti_, .int cb_, .long ld_, .long le_, .ref mq, .ref mz, .ref my, .int sm_, .ref mb, .int bl_, .int ta_, .int tl_, .int tk_, .int vl_, .ref mx, .ref mv])), (mr, .inl (cr_, 3, .inl fr_))]) hD hS hA [0, 3] rfl
          refine va_calli (va_runV (As := [.int (-2)]) (rest := []) ⟨hx, hb, hml, hown, hts⟩ (m_bad l dC dI mo nw kp ik mr la_ lb_ mw lc_ ti_ cb_ ld_ le_ mq mz my sm_ mb bl_ ta_ tl_ tk_ vl_ mx mv cr_ fr_ (-2) s.heap.size) (cwV 1 hts gX12_likely_X12_bad rfl rfl rfl (by decide +kernel) ⟨Nat.le_of_ble_eq_true rfl, Nat.le_of_ble_eq_true rfl⟩) ⟨fun a U g mk q => by obtain ⟨q0, q1, qP, qK, qD⟩ := q; exact ⟨q0, q1, qP, va_K.moved (u := U) (U := U.calling g mk a) (Vm.Alike.refl U.vm) qK, qD⟩, va_recv hK hP (ci := 12) (q0 := 0) rfl rfl, fun U hU hW => ⟨rfl, by rw [hU], by rw [hU]; exact hPc, va_K.moved hW.alike hKc, hDc.weaken (fun _ _ _ _ => trivial)⟩⟩ rfl rfl hl.1 rfl (lv_room (Nat.le_of_ble_eq_true rfl)) dX12_likely_25 ⟨Nat.le_of_ble_eq_true rfl, Nat.le_of_ble_eq_true rfl⟩) hS (fun q _ h => hFc q h) hFc (fun r_36 u_ t H1 locs ht hvm hw_37 hB hz1 hk1 hS => ?_)
          obtain ⟨gr__38, hP1, hK1, hD1⟩ := hB
          rw [ht] at hP1
          have hK1 := va_K.moved hvm.symm hK1
          obtain ⟨hP, hD⟩ := va_join (wr := [(nw, .inl (cn_, 350, .inl fn)), (mw, .inl (cw_, 21, .inr (.inl fw_)))]) (w1 := [(mo, .inr (12, [.ref nw, .ref kp, .ref ik, .ref mr, .long la_, .long lb_, .ref mw, .long lc_, .int ti_, .int cb_, .long ld_, .long le_, .ref mq, .ref mz, .ref my, .int sm_, .ref mb, .int bl_, .int ta_, .int tl_, .int tk_, .int vl_, .ref mx, .ref mv])), (mr, .inl (cr_, 3, .inl gr__38))]) hP hD [0, 3] [1, 2] rfl rfl (by decide) (by decide) hk1 hFc hP1 hD1
          generalize H1 = H at hP hS ⊢
          have hP : va_P (dC, dI) vwCl [(nw, .inl (cn_, 350, .inl fn)), (mw, .inl (cw_, 21, .inr (.inl fw_))), (mo, .inr (12, [.ref nw, .ref kp, .ref ik, .ref mr, .long la_, .long lb_, .ref mw, .long lc_, .int ti_, .int cb_, .long ld_, .long le_, .ref mq, .ref mz, .ref my, .int sm_, .ref mb, .int bl_, .int ta_, .int tl_, .int tk_, .int vl_, .ref mx, .ref mv])), (mr, .inl (cr_, 3, .inl gr__38))] H := hP
          have hD : va_D A [(nw, .inl (cn_, 350, .inl fn)), (mw, .inl (cw_, 21, .inr (.inl fw_))), (mo, .inr (12, [.ref nw, .ref kp, .ref ik, .ref mr, .long la_, .long lb_, .ref mw, .long lc_, .int ti_, .int cb_, .long ld_, .long le_, .ref mq, .ref mz, .ref my, .int sm_, .ref mb, .int bl_, .int ta_, .int tl_, .int tk_, .int vl_, .ref mx, .ref mv])), (mr, .inl (cr_, 3, .inl gr__38))] := hD
          obtain rfl : (-2) = r_36 := hw_37.symm
          have hP9 := hP.sub (ws' := [(mo, .inr (12, [.ref nw, .ref kp, .ref ik, .ref mr, .long la_, .long lb_, .ref mw, .long lc_, .int ti_, .int cb_, .long ld_, .long le_, .ref mq, .ref mz, .ref my, .int sm_, .ref mb, .int bl_, .int ta_, .int tl_, .int tk_, .int vl_, .ref mx, .ref mv])), (nw, .inl (cn_, 350, .inl fn)), (mw, .inl (cw_, 21, .inr (.inl fw_))), (mr, .inl (cr_, 3, .inl gr__38))]) [2, 0, 1, 3] rfl
          have hD9 := hD.sub (ws' := [(mo, .inr (12, [.ref nw, .ref kp, .ref ik, .ref mr, .long la_, .long lb_, .ref mw, .long lc_, .int ti_, .int cb_, .long ld_, .long le_, .ref mq, .ref mz, .ref my, .int sm_, .ref mb, .int bl_, .int ta_, .int tl_, .int tk_, .int vl_, .ref mx, .ref mv])), (nw, .inl (cn_, 350, .inl fn)), (mw, .inl (cw_, 21, .inr (.inl fw_))), (mr, .inl (cr_, 3, .inl gr__38))]) [2, 0, 1, 3] (by decide) rfl
          have hK9 := hK.sub (tys' := [(cn_, .int), (cw_, .long), (cr_, .int)]) [0, 1, 2] rfl
          exact W.iret (v := (-2)) hx hb hr (fun t ht hW => ⟨⟨(-2), (), rfl, trivial, lc_, ti_, cb_, la_, lb_, fw_, gr__38, by rw [ht]; exact hP9, va_K.moved hW.alike hK9, hD9⟩, hS.F ht⟩) hS.2.2 dX12_likely_28
  · obtain rfl : 0 = r_3 := (hw_4.trans (if_neg hc_5)).symm
    refine lv_if_eq (tgt := 22) hx hb dX12_likely_5 (by decide) (fun c_39 => ?_) (fun c_39 => ?_)
    · refine lv_aload_n hx hb dX12_likely_22 rfl (lv_at hl 0 rfl) ?_
      refine lv_bipush (v := (-2)) hx hb dX12_likely_23 (by decide) ?_
      have hPc := hP.sub (ws' := [(mo, .inr (12, [.ref nw, .ref kp, .ref ik, .ref mr, .long la_, .long lb_, .ref mw, .long lc_, .int ti_, .int cb_, .long ld_, .long le_, .ref mq, .ref mz, .ref my, .int sm_, .ref mb, .int bl_, .int ta_, .int tl_, .int tk_, .int vl_, .ref mx, .ref mv])), (mr, .inl (cr_, 3, .inl fr_))]) [0, 3] rfl
      have hDc := hD.sub (ws' := [(mo, .inr (12, [.ref nw, .ref kp, .ref ik, .ref mr, .long la_, .long lb_, .ref mw, .long lc_, .int ti_, .int cb_, .long ld_, .long le_, .ref mq, .ref mz, .ref my, .int sm_, .ref mb, .int bl_, .int ta_, .int tl_, .int tk_, .int vl_, .ref mx, .ref mv])), (mr, .inl (cr_, 3, .inl fr_))]) [0, 3] (by decide) rfl
      have hKc := hK.sub (tys' := [(cr_, .int)]) [2] rfl
      have hFc := va_free (wc := [(mo, .inr (12, [.ref nw, .ref kp, .ref ik, .ref mr, .long la_, .long lb_, .ref mw, .long lc_, .int ti_, .int cb_, .long ld_, .long le_, .ref mq, .ref mz, .ref my, .int sm_, .ref mb, .int bl_, .int ta_, .int tl_, .int tk_, .int vl_, .ref mx, .ref mv])), (mr, .inl (cr_, 3, .inl fr_))]) hD hS hA [0, 3] rfl
      refine va_calli (va_runV (As := [.int (-2)]) (rest := []) ⟨hx, hb, hml, hown, hts⟩ (m_bad l dC dI mo nw kp ik mr la_ lb_ mw lc_ ti_ cb_ ld_ le_ mq mz my sm_ mb bl_ ta_ tl_ tk_ vl_ mx mv cr_ fr_ (-2) s.heap.size) (cwV 1 hts gX12_likely_X12_bad rfl rfl rfl (by decide +kernel) ⟨Nat.le_of_ble_eq_true rfl, Nat.le_of_ble_eq_true rfl⟩) ⟨fun a U g mk q => by obtain ⟨q0, q1, qP, qK, qD⟩ := q; exact ⟨q0, q1, qP, va_K.moved (u := U) (U := U.calling g mk a) (Vm.Alike.refl U.vm) qK, qD⟩, va_recv hK hP (ci := 12) (q0 := 0) rfl rfl, fun U hU hW => ⟨rfl, by rw [hU], by rw [hU]; exact hPc, va_K.moved hW.alike hKc, hDc.weaken (fun _ _ _ _ => trivial)⟩⟩ rfl rfl hl.1 rfl (lv_room (Nat.le_of_ble_eq_true rfl)) dX12_likely_25 ⟨Nat.le_of_ble_eq_true rfl, Nat.le_of_ble_eq_true rfl⟩) hS (fun q _ h => hFc q h) hFc (fun r_40 u_ t H1 locs ht hvm hw_41 hB hz1 hk1 hS => ?_)
      obtain ⟨gr__42, hP1, hK1, hD1⟩ := hB
      rw [ht] at hP1
      have hK1 := va_K.moved hvm.symm hK1
      obtain ⟨hP, hD⟩ := va_join (wr := [(nw, .inl (cn_, 350, .inl fn)), (mw, .inl (cw_, 21, .inr (.inl fw_)))]) (w1 := [(mo, .inr (12, [.ref nw, .ref kp, .ref ik, .ref mr, .long la_, .long lb_, .ref mw, .long lc_, .int ti_, .int cb_, .long ld_, .long le_, .ref mq, .ref mz, .ref my, .int sm_, .ref mb, .int bl_, .int ta_, .int tl_, .int tk_, .int vl_, .ref mx, .ref mv])), (mr, .inl (cr_, 3, .inl gr__42))]) hP hD [0, 3] [1, 2] rfl rfl (by decide) (by decide) hk1 hFc hP1 hD1
      generalize H1 = H at hP hS ⊢
      have hP : va_P (dC, dI) vwCl [(nw, .inl (cn_, 350, .inl fn)), (mw, .inl (cw_, 21, .inr (.inl fw_))), (mo, .inr (12, [.ref nw, .ref kp, .ref ik, .ref mr, .long la_, .long lb_, .ref mw, .long lc_, .int ti_, .int cb_, .long ld_, .long le_, .ref mq, .ref mz, .ref my, .int sm_, .ref mb, .int bl_, .int ta_, .int tl_, .int tk_, .int vl_, .ref mx, .ref mv])), (mr, .inl (cr_, 3, .inl gr__42))] H := hP
      have hD : va_D A [(nw, .inl (cn_, 350, .inl fn)), (mw, .inl (cw_, 21, .inr (.inl fw_))), (mo, .inr (12, [.ref nw, .ref kp, .ref ik, .ref mr, .long la_, .long lb_, .ref mw, .long lc_, .int ti_, .int cb_, .long ld_, .long le_, .ref mq, .ref mz, .ref my, .int sm_, .ref mb, .int bl_, .int ta_, .int tl_, .int tk_, .int vl_, .ref mx, .ref mv])), (mr, .inl (cr_, 3, .inl gr__42))] := hD
      obtain rfl : (-2) = r_40 := hw_41.symm
      have hP9 := hP.sub (ws' := [(mo, .inr (12, [.ref nw, .ref kp, .ref ik, .ref mr, .long la_, .long lb_, .ref mw, .long lc_, .int ti_, .int cb_, .long ld_, .long le_, .ref mq, .ref mz, .ref my, .int sm_, .ref mb, .int bl_, .int ta_, .int tl_, .int tk_, .int vl_, .ref mx, .ref mv])), (nw, .inl (cn_, 350, .inl fn)), (mw, .inl (cw_, 21, .inr (.inl fw_))), (mr, .inl (cr_, 3, .inl gr__42))]) [2, 0, 1, 3] rfl
      have hD9 := hD.sub (ws' := [(mo, .inr (12, [.ref nw, .ref kp, .ref ik, .ref mr, .long la_, .long lb_, .ref mw, .long lc_, .int ti_, .int cb_, .long ld_, .long le_, .ref mq, .ref mz, .ref my, .int sm_, .ref mb, .int bl_, .int ta_, .int tl_, .int tk_, .int vl_, .ref mx, .ref mv])), (nw, .inl (cn_, 350, .inl fn)), (mw, .inl (cw_, 21, .inr (.inl fw_))), (mr, .inl (cr_, 3, .inl gr__42))]) [2, 0, 1, 3] (by decide) rfl
      have hK9 := hK.sub (tys' := [(cn_, .int), (cw_, .long), (cr_, .int)]) [0, 1, 2] rfl
      exact W.iret (v := (-2)) hx hb hr (fun t ht hW => ⟨⟨(-2), (), rfl, trivial, lc_, ti_, cb_, la_, lb_, fw_, gr__42, by rw [ht]; exact hP9, va_K.moved hW.alike hK9, hD9⟩, hS.F ht⟩) hS.2.2 dX12_likely_28
    · exact absurd c_39 (by decide)
set_option maxRecDepth 20000 in
theorem ggX12_truly_X12_isBundle : GoodIn wsX12_truly wsX12_isBundle := goodIn_r _ [7, 8, 9, 10, 6, 11, 49, 50, 51, 52, 53, 54, 55, 56, 57, 58, 59, 60, 61, 62, 63, 64, 65, 66, 67, 68, 69, 70, 71, 72] (by decide +kernel) (by decide +kernel)
set_option maxRecDepth 20000 in
theorem gX12_truly_X12_isBundle : GoodIn wsX12_truly (wsV RX12 81 RX12 yX12_isBundle wsX12_isBundle) := goodIn_app (goodIn_of _ (by decide +kernel)) ggX12_truly_X12_isBundle
set_option maxRecDepth 20000 in
theorem ggX12_truly_X12_in : GoodIn wsX12_truly wsX12_in := goodIn_r _ [11] (by decide +kernel) (by decide +kernel)
set_option maxRecDepth 20000 in
theorem gX12_truly_X12_in : GoodIn wsX12_truly (va_wsS RX12 49 yX12_in wsX12_in) := goodIn_app (goodIn_of _ (by decide +kernel)) ggX12_truly_X12_in
set_option maxRecDepth 20000 in
theorem ggX12_truly_X12_weigh : GoodIn wsX12_truly wsX12_weigh := goodIn_r _ [20, 21, 1, 2, 22, 23, 24, 25, 6, 26, 8, 27, 28, 29, 30, 9, 10, 11, 31, 32, 33, 34, 35, 36, 37, 38, 39, 40, 41, 42, 43, 44, 45, 46, 47, 48, 49, 50, 51, 52, 53, 54, 55, 56, 57, 58, 59, 60, 61, 62, 63, 64, 65, 66, 67, 68, 69, 70, 71, 72] (by decide +kernel) (by decide +kernel)
set_option maxRecDepth 20000 in
theorem gX12_truly_X12_weigh : GoodIn wsX12_truly (wsV RX12 165 RX12 yX12_weigh wsX12_weigh) := goodIn_app (goodIn_of _ (by decide +kernel)) ggX12_truly_X12_weigh
set_option maxRecDepth 20000 in
theorem ggX12_truly_X12_bad : GoodIn wsX12_truly wsX12_bad := goodIn_r _ [15, 16, 49, 50, 51, 52, 53, 54, 55, 56, 57, 58, 59, 60, 61, 62, 63, 64, 65, 66, 67, 68, 69, 70, 71, 72] (by decide +kernel) (by decide +kernel)
set_option maxRecDepth 20000 in
theorem gX12_truly_X12_bad : GoodIn wsX12_truly (wsV RX12 61 RX12 yX12_bad wsX12_bad) := goodIn_app (goodIn_of _ (by decide +kernel)) ggX12_truly_X12_bad
theorem dX12_truly_0 : decode cX12_truly 0 = .ok (.aload_n 0, 1) := by decide +kernel
theorem dX12_truly_1 : decode cX12_truly 1 = .ok (.iload_n 1, 1) := by decide +kernel
theorem dX12_truly_2 : decode cX12_truly 2 = .ok (.invokevirtual 81, 3) := by decide +kernel
theorem dX12_truly_5 : decode cX12_truly 5 = .ok (.ifCond .eq 13, 3) := by decide +kernel
theorem dX12_truly_8 : decode cX12_truly 8 = .ok (.iload_n 2, 1) := by decide +kernel
theorem dX12_truly_9 : decode cX12_truly 9 = .ok (.i2l, 1) := by decide +kernel
theorem dX12_truly_10 : decode cX12_truly 10 = .ok (.lconst 0, 1) := by decide +kernel
theorem dX12_truly_11 : decode cX12_truly 11 = .ok (.lconst 1, 1) := by decide +kernel
theorem dX12_truly_12 : decode cX12_truly 12 = .ok (.invokestatic 49, 3) := by decide +kernel
theorem dX12_truly_15 : decode cX12_truly 15 = .ok (.ifCond .ne 10, 3) := by decide +kernel
theorem dX12_truly_25 : decode cX12_truly 25 = .ok (.aload_n 0, 1) := by decide +kernel
theorem dX12_truly_26 : decode cX12_truly 26 = .ok (.iload_n 1, 1) := by decide +kernel
theorem dX12_truly_27 : decode cX12_truly 27 = .ok (.invokevirtual 165, 3) := by decide +kernel
theorem dX12_truly_30 : decode cX12_truly 30 = .ok (.iload_n 2, 1) := by decide +kernel
theorem dX12_truly_31 : decode cX12_truly 31 = .ok (.ifCond .ne 10, 3) := by decide +kernel
theorem dX12_truly_41 : decode cX12_truly 41 = .ok (.aload_n 0, 1) := by decide +kernel
theorem dX12_truly_42 : decode cX12_truly 42 = .ok (.getfield 158, 3) := by decide +kernel
theorem dX12_truly_45 : decode cX12_truly 45 = .ok (.ireturn, 1) := by decide +kernel
theorem dX12_truly_34 : decode cX12_truly 34 = .ok (.aload_n 0, 1) := by decide +kernel
theorem dX12_truly_35 : decode cX12_truly 35 = .ok (.getfield 154, 3) := by decide +kernel
theorem dX12_truly_38 : decode cX12_truly 38 = .ok (.goto 7, 3) := by decide +kernel
theorem dX12_truly_18 : decode cX12_truly 18 = .ok (.aload_n 0, 1) := by decide +kernel
theorem dX12_truly_19 : decode cX12_truly 19 = .ok (.bipush (-2), 2) := by decide +kernel
theorem dX12_truly_21 : decode cX12_truly 21 = .ok (.invokevirtual 61, 3) := by decide +kernel
theorem dX12_truly_24 : decode cX12_truly 24 = .ok (.ireturn, 1) := by decide +kernel
set_option maxRecDepth 20000 in
theorem iw_m_truly_X12 : ∀ w ∈ wsX120, w ∈ wsX12_truly := by decide +kernel
set_option maxHeartbeats 4000000 in
set_option maxRecDepth 100000 in
theorem m_truly (l : Launch) (dC : Nat → ClassId) (dI : Nat → Nat → Nat) (mo : Nat) (nw : Nat) (kp : Nat) (ik : Nat) (mr : Nat) (la_ : Int64) (lb_ : Int64) (mw : Nat) (lc_ : Int64) (ti_ : Int32) (cb_ : Int32) (ld_ : Int64) (le_ : Int64) (mq : Nat) (mz : Nat) (my : Nat) (sm_ : Int32) (mb : Nat) (bl_ : Int32) (ta_ : Int32) (tl_ : Int32) (tk_ : Int32) (vl_ : Int32) (mx : Nat) (mv : Nat) (cn_ : ClassId) (fn : Nat → Int32) (cw_ : ClassId) (fw_ : Nat → Int64) (cr_ : ClassId) (fr_ : Nat → Int32) (na : Int32) (nb : Int32) (sz : Nat) (hOn : tz_OK 350 fn) : Met l yX12_truly wsX12_truly ({ frames := 5, cells := 0, slots := 0, locals := 121 }) (va_Pc [.ref mo, .int na, .int nb] (fun U => U.heap.size = sz ∧ va_P (dC, dI) vwCl [(mo, .inr (12, [.ref nw, .ref kp, .ref ik, .ref mr, .long la_, .long lb_, .ref mw, .long lc_, .int ti_, .int cb_, .long ld_, .long le_, .ref mq, .ref mz, .ref my, .int sm_, .ref mb, .int bl_, .int ta_, .int tl_, .int tk_, .int vl_, .ref mx, .ref mv])), (nw, .inl (cn_, 350, .inl fn)), (mw, .inl (cw_, 21, .inr (.inl fw_))), (mr, .inl (cr_, 3, .inl fr_))] U.heap ∧ va_K (dC, dI) vwCl [(cn_, .int), (cw_, .long), (cr_, .int)] U ∧ va_D (fun _ => True) [(mo, .inr (12, [.ref nw, .ref kp, .ref ik, .ref mr, .long la_, .long lb_, .ref mw, .long lc_, .int ti_, .int cb_, .long ld_, .long le_, .ref mq, .ref mz, .ref my, .int sm_, .ref mb, .int bl_, .int ta_, .int tl_, .int tk_, .int vl_, .ref mx, .ref mv])), (nw, .inl (cn_, 350, .inl fn)), (mw, .inl (cw_, 21, .inr (.inl fw_))), (mr, .inl (cr_, 3, .inl fr_))])) (va_Qi (fun (r : Int32) (_ : Unit) => True) (fun _ t => ∃ (h_allWeights : Int64) (h_trulyIs : Int32) (h_canBe : Int32) (gw_ : Nat → Int64) (gr_ : Nat → Int32), va_P (dC, dI) vwCl [(mo, .inr (12, [.ref nw, .ref kp, .ref ik, .ref mr, .long la_, .long lb_, .ref mw, .long h_allWeights, .int h_trulyIs, .int h_canBe, .long ld_, .long le_, .ref mq, .ref mz, .ref my, .int sm_, .ref mb, .int bl_, .int ta_, .int tl_, .int tk_, .int vl_, .ref mx, .ref mv])), (nw, .inl (cn_, 350, .inl fn)), (mw, .inl (cw_, 21, .inr (.inl gw_))), (mr, .inl (cr_, 3, .inl gr_))] t.heap ∧ va_K (dC, dI) vwCl [(cn_, .int), (cw_, .long), (cr_, .int)] t ∧ va_D (va_A [(mo, .inr (12, [.ref nw, .ref kp, .ref ik, .ref mr, .long la_, .long lb_, .ref mw, .long lc_, .int ti_, .int cb_, .long ld_, .long le_, .ref mq, .ref mz, .ref my, .int sm_, .ref mb, .int bl_, .int ta_, .int tl_, .int tk_, .int vl_, .ref mx, .ref mv])), (nw, .inl (cn_, 350, .inl fn)), (mw, .inl (cw_, 21, .inr (.inl fw_))), (mr, .inl (cr_, 3, .inl fr_))] sz) [(mo, .inr (12, [.ref nw, .ref kp, .ref ik, .ref mr, .long la_, .long lb_, .ref mw, .long h_allWeights, .int h_trulyIs, .int h_canBe, .long ld_, .long le_, .ref mq, .ref mz, .ref my, .int sm_, .ref mb, .int bl_, .int ta_, .int tl_, .int tk_, .int vl_, .ref mx, .ref mv])), (nw, .inl (cn_, 350, .inl fn)), (mw, .inl (cw_, 21, .inr (.inl gw_))), (mr, .inl (cr_, 3, .inl gr_))]) (va_A [(mo, .inr (12, [.ref nw, .ref kp, .ref ik, .ref mr, .long la_, .long lb_, .ref mw, .long lc_, .int ti_, .int cb_, .long ld_, .long le_, .ref mq, .ref mz, .ref my, .int sm_, .ref mb, .int bl_, .int ta_, .int tl_, .int tk_, .int vl_, .ref mx, .ref mv])), (nw, .inl (cn_, 350, .inl fn)), (mw, .inl (cw_, 21, .inr (.inl fw_))), (mr, .inl (cr_, 3, .inl fr_))] sz)) 0 0 (va_A [(mo, .inr (12, [.ref nw, .ref kp, .ref ik, .ref mr, .long la_, .long lb_, .ref mw, .long lc_, .int ti_, .int cb_, .long ld_, .long le_, .ref mq, .ref mz, .ref my, .int sm_, .ref mb, .int bl_, .int ta_, .int tl_, .int tk_, .int vl_, .ref mx, .ref mv])), (nw, .inl (cn_, 350, .inl fn)), (mw, .inl (cw_, 21, .inr (.inl fw_))), (mr, .inl (cr_, 3, .inl fr_))] sz) := by
  refine Met.ofW (cc := cX12_truly) (maxL := 3) (ret := (some .int)) (by decide) rfl ?_
  intro p e s m args below meth c s₁ B hml hv
  obtain ⟨rfl, hsz, hP, hK, hD0⟩ := hv
  have hx := B.exec
  have hb := B.bytes
  have hr := B.returns
  have hts := atoms_spec (ws := wsX12_truly) B.pre
  have hown : s.vm.findClass RX12 = some m.cls := findClass_of_methodNamed B.named
  have hlocks := B.notSynchronized
  subst hsz
  have hD := hD0.self (sz := s.heap.size)
  generalize hAe : va_A [(mo, .inr (12, [.ref nw, .ref kp, .ref ik, .ref mr, .long la_, .long lb_, .ref mw, .long lc_, .int ti_, .int cb_, .long ld_, .long le_, .ref mq, .ref mz, .ref my, .int sm_, .ref mb, .int bl_, .int ta_, .int tl_, .int tk_, .int vl_, .ref mx, .ref mv])), (nw, .inl (cn_, 350, .inl fn)), (mw, .inl (cw_, 21, .inr (.inl fw_))), (mr, .inl (cr_, 3, .inl fr_))] s.heap.size = A at hD ⊢
  have hA : ∀ q : Nat, s.heap.size ≤ q → A q := fun q h => by rw [← hAe]; exact Or.inr h
  have hS : va_S A s.heap s.heap [] := va_S.rf
  have hP : va_P (dC, dI) vwCl [(mo, .inr (12, [.ref nw, .ref kp, .ref ik, .ref mr, .long la_, .long lb_, .ref mw, .long lc_, .int ti_, .int cb_, .long ld_, .long le_, .ref mq, .ref mz, .ref my, .int sm_, .ref mb, .int bl_, .int ta_, .int tl_, .int tk_, .int vl_, .ref mx, .ref mv])), (nw, .inl (cn_, 350, .inl fn)), (mw, .inl (cw_, 21, .inr (.inl fw_))), (mr, .inl (cr_, 3, .inl fr_))] s.heap := hP
  have hl := lv_entry ([.ref mo, .int na, .int nb]) (n := 3) (Nat.le_of_ble_eq_true rfl)
  rw [lg_entry_eq]
  generalize (lg_sl ([.ref mo, .int na, .int nb]) ++ List.replicate (3 - (lg_sl ([.ref mo, .int na, .int nb])).length) Slot.unset).toArray = ls at hl ⊢
  have hl : lv_has ls 3 [(0, .ref mo), (1, .int na), (2, .int nb)] := hl
  refine lv_aload_n hx hb dX12_truly_0 rfl (lv_at hl 0 rfl) ?_
  refine lv_iload_n hx hb dX12_truly_1 rfl (lv_at hl 1 rfl) ?_
  have hPc_1 := hP.sub (ws' := [(mo, .inr (12, [.ref nw, .ref kp, .ref ik, .ref mr, .long la_, .long lb_, .ref mw, .long lc_, .int ti_, .int cb_, .long ld_, .long le_, .ref mq, .ref mz, .ref my, .int sm_, .ref mb, .int bl_, .int ta_, .int tl_, .int tk_, .int vl_, .ref mx, .ref mv])), (nw, .inl (cn_, 350, .inl fn))]) [0, 1] rfl
  have hKc_2 := hK.sub (tys' := [(cn_, .int)]) [0] rfl
  refine vp_callSi (va_Run.run (va_runV (As := [.int na]) (rest := []) ⟨hx, hb, hml, hown, hts⟩ (m_isBundle l dC dI mo nw kp ik mr la_ lb_ mw lc_ ti_ cb_ ld_ le_ mq mz my sm_ mb bl_ ta_ tl_ tk_ vl_ mx mv cn_ fn na hOn) (cwV 1 hts gX12_truly_X12_isBundle rfl rfl rfl (by decide +kernel) ⟨Nat.le_of_ble_eq_true rfl, Nat.le_of_ble_eq_true rfl⟩) ⟨fun a U g mk q => by obtain ⟨q0, qP, qK⟩ := q; exact ⟨q0, qP, va_K.moved (u := U) (U := U.calling g mk a) (Vm.Alike.refl U.vm) qK⟩, va_recv hK hP (ci := 12) (q0 := 0) rfl rfl, fun U hU hW => ⟨rfl, by rw [hU]; exact hPc_1, va_K.moved hW.alike hKc_2⟩⟩ rfl rfl hl.1 rfl (lv_room (Nat.le_of_ble_eq_true rfl)) dX12_truly_2 ⟨Nat.le_of_ble_eq_true rfl, Nat.le_of_ble_eq_true rfl⟩)) (fun r_3 hw_4 => ?_)
  by_cases hc_5 : 0 ≤ na ∧ na < (fn 1)
  · obtain rfl : 1 = r_3 := (hw_4.trans (if_pos hc_5)).symm
    obtain ⟨j_7, hj_8, ej_9⟩ := hOn.nat (K := 1) (n := 5) (by omega) (show tz_b 1 = (0, 5) from by decide)
    obtain ⟨j_6, hj_10, rfl⟩ := tz_idx2 (J := j_7) hc_5 ej_9 (by omega)
    refine lv_if_eq (tgt := 18) hx hb dX12_truly_5 (by decide) (fun c_11 => ?_) (fun c_11 => ?_)
    · exact absurd c_11 (by decide)
    · refine lv_iload_n hx hb dX12_truly_8 rfl (lv_at hl 2 rfl) ?_
      refine lv_i2l (v := nb.toInt64) hx hb dX12_truly_9 rfl ?_
      refine lv_lconst (v := 0) hx hb dX12_truly_10 (by decide) ?_
      refine lv_lconst (v := 1) hx hb dX12_truly_11 (by decide) ?_
      refine vp_callSi (va_Run.run (va_runS (As := [.long nb.toInt64, .long 0, .long 1]) (rest := []) ⟨hx, hb, hml, hown, hts⟩ (m_in l dC dI nb.toInt64 0 1) (va_cwS 3 hts gX12_truly_X12_in rfl rfl rfl (by decide +kernel) ⟨Nat.le_of_ble_eq_true rfl, Nat.le_of_ble_eq_true rfl⟩) ⟨fun a U g mk q => ⟨q.1, trivial⟩, fun U hU hW => ⟨rfl, trivial⟩⟩ rfl rfl hl.1 rfl (lv_room (Nat.le_of_ble_eq_true rfl)) dX12_truly_12 ⟨Nat.le_of_ble_eq_true rfl, Nat.le_of_ble_eq_true rfl⟩)) (fun r_12 hw_13 => ?_)
      by_cases hc_14 : 0 ≤ nb ∧ nb ≤ 1
      · obtain rfl : 1 = r_12 := (hw_13.trans (if_pos ((tz_in64 (by first | rfl | decide) rfl (by first | rfl | decide)).mpr hc_14))).symm
        obtain ⟨j_15, hj_16, hj_17, rfl⟩ := tz_pickL (l := 0) (n := 1) hc_14 (by decide) (by decide)
        refine lv_if_ne (tgt := 25) hx hb dX12_truly_15 (by decide) (fun c_18 => ?_) (fun c_18 => ?_)
        · refine lv_aload_n hx hb dX12_truly_25 rfl (lv_at hl 0 rfl) ?_
          refine lv_iload_n hx hb dX12_truly_26 rfl (lv_at hl 1 rfl) ?_
          have hPc := hP.sub (ws' := [(mo, .inr (12, [.ref nw, .ref kp, .ref ik, .ref mr, .long la_, .long lb_, .ref mw, .long lc_, .int ti_, .int cb_, .long ld_, .long le_, .ref mq, .ref mz, .ref my, .int sm_, .ref mb, .int bl_, .int ta_, .int tl_, .int tk_, .int vl_, .ref mx, .ref mv])), (nw, .inl (cn_, 350, .inl fn)), (mw, .inl (cw_, 21, .inr (.inl fw_)))]) [0, 1, 2] rfl
          have hDc := hD.sub (ws' := [(mo, .inr (12, [.ref nw, .ref kp, .ref ik, .ref mr, .long la_, .long lb_, .ref mw, .long lc_, .int ti_, .int cb_, .long ld_, .long le_, .ref mq, .ref mz, .ref my, .int sm_, .ref mb, .int bl_, .int ta_, .int tl_, .int tk_, .int vl_, .ref mx, .ref mv])), (nw, .inl (cn_, 350, .inl fn)), (mw, .inl (cw_, 21, .inr (.inl fw_)))]) [0, 1, 2] (by decide) rfl
          have hKc := hK.sub (tys' := [(cn_, .int), (cw_, .long)]) [0, 1] rfl
          have hFc := va_free (wc := [(mo, .inr (12, [.ref nw, .ref kp, .ref ik, .ref mr, .long la_, .long lb_, .ref mw, .long lc_, .int ti_, .int cb_, .long ld_, .long le_, .ref mq, .ref mz, .ref my, .int sm_, .ref mb, .int bl_, .int ta_, .int tl_, .int tk_, .int vl_, .ref mx, .ref mv])), (nw, .inl (cn_, 350, .inl fn)), (mw, .inl (cw_, 21, .inr (.inl fw_)))]) hD hS hA [0, 1, 2] rfl
          refine va_callv (va_runV (As := [.int (nI j_6)]) (rest := []) ⟨hx, hb, hml, hown, hts⟩ (m_weigh l dC dI mo nw kp ik mr la_ lb_ mw lc_ ti_ cb_ ld_ le_ mq mz my sm_ mb bl_ ta_ tl_ tk_ vl_ mx mv cn_ fn cw_ fw_ j_6 s.heap.size hOn (by omega)) (cwV 1 hts gX12_truly_X12_weigh rfl rfl rfl (by decide +kernel) ⟨Nat.le_of_ble_eq_true rfl, Nat.le_of_ble_eq_true rfl⟩) ⟨fun a U g mk q => by obtain ⟨q0, q1, qP, qK, qD⟩ := q; exact ⟨q0, q1, qP, va_K.moved (u := U) (U := U.calling g mk a) (Vm.Alike.refl U.vm) qK, qD⟩, va_recv hK hP (ci := 12) (q0 := 0) rfl rfl, fun U hU hW => ⟨rfl, by rw [hU], by rw [hU]; exact hPc, va_K.moved hW.alike hKc, hDc.weaken (fun _ _ _ _ => trivial)⟩⟩ rfl rfl hl.1 rfl (lv_room (Nat.le_of_ble_eq_true rfl)) dX12_truly_27 ⟨Nat.le_of_ble_eq_true rfl, Nat.le_of_ble_eq_true rfl⟩) hS (fun q _ h => hFc q h) hFc (fun u_ t H1 locs ht hvm hw_20 hB hz1 hk1 hS => ?_)
          obtain ⟨h_allWeights_21, h_trulyIs_22, h_canBe_23, gw__24, hf_25, hP1, hK1, hD1⟩ := hB
          rw [ht] at hP1
          have hK1 := va_K.moved hvm.symm hK1
          obtain ⟨hP, hD⟩ := va_join (wr := [(mr, .inl (cr_, 3, .inl fr_))]) (w1 := [(mo, .inr (12, [.ref nw, .ref kp, .ref ik, .ref mr, .long la_, .long lb_, .ref mw, .long h_allWeights_21, .int h_trulyIs_22, .int h_canBe_23, .long ld_, .long le_, .ref mq, .ref mz, .ref my, .int sm_, .ref mb, .int bl_, .int ta_, .int tl_, .int tk_, .int vl_, .ref mx, .ref mv])), (nw, .inl (cn_, 350, .inl fn)), (mw, .inl (cw_, 21, .inr (.inl gw__24)))]) hP hD [0, 1, 2] [3] rfl rfl (by decide) (by decide) hk1 hFc hP1 hD1
          generalize H1 = H at hP hS ⊢
          have hP : va_P (dC, dI) vwCl [(mr, .inl (cr_, 3, .inl fr_)), (mo, .inr (12, [.ref nw, .ref kp, .ref ik, .ref mr, .long la_, .long lb_, .ref mw, .long h_allWeights_21, .int h_trulyIs_22, .int h_canBe_23, .long ld_, .long le_, .ref mq, .ref mz, .ref my, .int sm_, .ref mb, .int bl_, .int ta_, .int tl_, .int tk_, .int vl_, .ref mx, .ref mv])), (nw, .inl (cn_, 350, .inl fn)), (mw, .inl (cw_, 21, .inr (.inl gw__24)))] H := hP
          have hD : va_D A [(mr, .inl (cr_, 3, .inl fr_)), (mo, .inr (12, [.ref nw, .ref kp, .ref ik, .ref mr, .long la_, .long lb_, .ref mw, .long h_allWeights_21, .int h_trulyIs_22, .int h_canBe_23, .long ld_, .long le_, .ref mq, .ref mz, .ref my, .int sm_, .ref mb, .int bl_, .int ta_, .int tl_, .int tk_, .int vl_, .ref mx, .ref mv])), (nw, .inl (cn_, 350, .inl fn)), (mw, .inl (cw_, 21, .inr (.inl gw__24)))] := hD
          refine lv_iload_n hx hb dX12_truly_30 rfl (lv_at hl 2 rfl) ?_
          refine lv_if_ne (tgt := 41) hx hb dX12_truly_31 (by decide) (fun c_26 => ?_) (fun c_26 => ?_)
          · have hn_27 : ¬ j_15 = 0 := fun q => c_26 ((nI_eq (a := j_15) (b := 0) (by omega) (by omega)).mpr q)
            refine lv_aload_n hx hb dX12_truly_41 rfl (lv_at hl 0 rfl) ?_
            refine va_get (D := (dC, dI)) (ci := 12) (v := .int h_canBe_23) (C := RX12) (T := TX12) (N := 24) hx hb hts iw_m_truly_X12 hown hK hP 1 rfl rfl 9 (by decide) (hts (.fieldLink RX12 158 "ThriceCountedModel" "canBe" "I") (by decide +kernel)) (fun _ h9 => h9) rfl dX12_truly_42 ?_
            have hP9 := hP.sub (ws' := [(mo, .inr (12, [.ref nw, .ref kp, .ref ik, .ref mr, .long la_, .long lb_, .ref mw, .long h_allWeights_21, .int h_trulyIs_22, .int h_canBe_23, .long ld_, .long le_, .ref mq, .ref mz, .ref my, .int sm_, .ref mb, .int bl_, .int ta_, .int tl_, .int tk_, .int vl_, .ref mx, .ref mv])), (nw, .inl (cn_, 350, .inl fn)), (mw, .inl (cw_, 21, .inr (.inl gw__24))), (mr, .inl (cr_, 3, .inl fr_))]) [1, 2, 3, 0] rfl
            have hD9 := hD.sub (ws' := [(mo, .inr (12, [.ref nw, .ref kp, .ref ik, .ref mr, .long la_, .long lb_, .ref mw, .long h_allWeights_21, .int h_trulyIs_22, .int h_canBe_23, .long ld_, .long le_, .ref mq, .ref mz, .ref my, .int sm_, .ref mb, .int bl_, .int ta_, .int tl_, .int tk_, .int vl_, .ref mx, .ref mv])), (nw, .inl (cn_, 350, .inl fn)), (mw, .inl (cw_, 21, .inr (.inl gw__24))), (mr, .inl (cr_, 3, .inl fr_))]) [1, 2, 3, 0] (by decide) rfl
            have hK9 := hK.sub (tys' := [(cn_, .int), (cw_, .long), (cr_, .int)]) [0, 1, 2] rfl
            exact W.iret (v := h_canBe_23) hx hb hr (fun t ht hW => ⟨⟨h_canBe_23, (), rfl, trivial, h_allWeights_21, h_trulyIs_22, h_canBe_23, gw__24, fr_, by rw [ht]; exact hP9, va_K.moved hW.alike hK9, hD9⟩, hS.F ht⟩) hS.2.2 dX12_truly_45
          · have hn_28 : j_15 = 0 := (nI_eq (a := j_15) (b := 0) (by omega) (by omega)).mp c_26
            refine lv_aload_n hx hb dX12_truly_34 rfl (lv_at hl 0 rfl) ?_
            refine va_get (D := (dC, dI)) (ci := 12) (v := .int h_trulyIs_22) (C := RX12) (T := TX12) (N := 24) hx hb hts iw_m_truly_X12 hown hK hP 1 rfl rfl 8 (by decide) (hts (.fieldLink RX12 154 "ThriceCountedModel" "trulyIs" "I") (by decide +kernel)) (fun _ h9 => h9) rfl dX12_truly_35 ?_
            refine lv_goto (tgt := 45) hx hb dX12_truly_38 (by decide) ?_
            have hP9 := hP.sub (ws' := [(mo, .inr (12, [.ref nw, .ref kp, .ref ik, .ref mr, .long la_, .long lb_, .ref mw, .long h_allWeights_21, .int h_trulyIs_22, .int h_canBe_23, .long ld_, .long le_, .ref mq, .ref mz, .ref my, .int sm_, .ref mb, .int bl_, .int ta_, .int tl_, .int tk_, .int vl_, .ref mx, .ref mv])), (nw, .inl (cn_, 350, .inl fn)), (mw, .inl (cw_, 21, .inr (.inl gw__24))), (mr, .inl (cr_, 3, .inl fr_))]) [1, 2, 3, 0] rfl
            have hD9 := hD.sub (ws' := [(mo, .inr (12, [.ref nw, .ref kp, .ref ik, .ref mr, .long la_, .long lb_, .ref mw, .long h_allWeights_21, .int h_trulyIs_22, .int h_canBe_23, .long ld_, .long le_, .ref mq, .ref mz, .ref my, .int sm_, .ref mb, .int bl_, .int ta_, .int tl_, .int tk_, .int vl_, .ref mx, .ref mv])), (nw, .inl (cn_, 350, .inl fn)), (mw, .inl (cw_, 21, .inr (.inl gw__24))), (mr, .inl (cr_, 3, .inl fr_))]) [1, 2, 3, 0] (by decide) rfl
            have hK9 := hK.sub (tys' := [(cn_, .int), (cw_, .long), (cr_, .int)]) [0, 1, 2] rfl
            exact W.iret (v := h_trulyIs_22) hx hb hr (fun t ht hW => ⟨⟨h_trulyIs_22, (), rfl, trivial, h_allWeights_21, h_trulyIs_22, h_canBe_23, gw__24, fr_, by rw [ht]; exact hP9, va_K.moved hW.alike hK9, hD9⟩, hS.F ht⟩) hS.2.2 dX12_truly_45
        · exact absurd c_18 (by decide)
      · obtain rfl : 0 = r_12 := (hw_13.trans (if_neg (fun z => hc_14 ((tz_in64 (by first | rfl | decide) rfl (by first | rfl | decide)).mp z)))).symm
        refine lv_if_ne (tgt := 25) hx hb dX12_truly_15 (by decide) (fun c_29 => ?_) (fun c_29 => ?_)
        · exact absurd c_29 (by decide)
        · refine lv_aload_n hx hb dX12_truly_18 rfl (lv_at hl 0 rfl) ?_
          refine lv_bipush (v := (-2)) hx hb dX12_truly_19 (by decide) ?_
          have hPc := hP.sub (ws' := [(mo, .inr (12, [.ref nw, .ref kp, .ref ik, .ref mr, .long la_, .long lb_, .ref mw, .long lc_, .int ti_, .int cb_, .long ld_, .long le_, .ref mq, .ref mz, .ref my, .int sm_, .ref mb, .int bl_, .int ta_, .int tl_, .int tk_, .int vl_, .ref mx, .ref mv])), (mr, .inl (cr_, 3, .inl fr_))]) [0, 3] rfl
          have hDc := hD.sub (ws' := [(mo, .inr (12, [.ref nw, .ref kp, .ref ik, .ref mr, .long la_, .long lb_, .ref mw, .long lc_, .int ti_, .int cb_, .long ld_, .long le_, .ref mq, .ref mz, .ref my, .int sm_, .ref mb, .int bl_, .int ta_, .int tl_, .int tk_, .int vl_, .ref mx, .ref mv])), (mr, .inl (cr_, 3, .inl fr_))]) [0, 3] (by decide) rfl
          have hKc := hK.sub (tys' := [(cr_, .int)]) [2] rfl
          have hFc := va_free (wc := [(mo, .inr (12, [.ref nw, .ref kp, .ref ik, .ref mr, .long la_, .long lb_, .ref mw, .long lc_, .int ti_, .int cb_, .long ld_, .long le_, .ref mq, .ref mz, .ref my, .int sm_, .ref mb, .int bl_, .int ta_, .int tl_, .int tk_, .int vl_, .ref mx, .ref mv])), (mr, .inl (cr_, 3, .inl fr_))]) hD hS hA [0, 3] rfl
          refine va_calli (va_runV (As := [.int (-2)]) (rest := []) ⟨hx, hb, hml, hown, hts⟩ (m_bad l dC dI mo nw kp ik mr la_ lb_ mw lc_ ti_ cb_ ld_ le_ mq mz my sm_ mb bl_ ta_ tl_ tk_ vl_ mx mv cr_ fr_ (-2) s.heap.size) (cwV 1 hts gX12_truly_X12_bad rfl rfl rfl (by decide +kernel) ⟨Nat.le_of_ble_eq_true rfl, Nat.le_of_ble_eq_true rfl⟩) ⟨fun a U g mk q => by obtain ⟨q0, q1, qP, qK, qD⟩ := q; exact ⟨q0, q1, qP, va_K.moved (u := U) (U := U.calling g mk a) (Vm.Alike.refl U.vm) qK, qD⟩, va_recv hK hP (ci := 12) (q0 := 0) rfl rfl, fun U hU hW => ⟨rfl, by rw [hU], by rw [hU]; exact hPc, va_K.moved hW.alike hKc, hDc.weaken (fun _ _ _ _ => trivial)⟩⟩ rfl rfl hl.1 rfl (lv_room (Nat.le_of_ble_eq_true rfl)) dX12_truly_21 ⟨Nat.le_of_ble_eq_true rfl, Nat.le_of_ble_eq_true rfl⟩) hS (fun q _ h => hFc q h) hFc (fun r_30 u_ t H1 locs ht hvm hw_31 hB hz1 hk1 hS => ?_)
          obtain ⟨gr__32, hP1, hK1, hD1⟩ := hB
          rw [ht] at hP1
          have hK1 := va_K.moved hvm.symm hK1
          obtain ⟨hP, hD⟩ := va_join (wr := [(nw, .inl (cn_, 350, .inl fn)), (mw, .inl (cw_, 21, .inr (.inl fw_)))]) (w1 := [(mo, .inr (12, [.ref nw, .ref kp, .ref ik, .ref mr, .long la_, .long lb_, .ref mw, .long lc_, .int ti_, .int cb_, .long ld_, .long le_, .ref mq, .ref mz, .ref my, .int sm_, .ref mb, .int bl_, .int ta_, .int tl_, .int tk_, .int vl_, .ref mx, .ref mv])), (mr, .inl (cr_, 3, .inl gr__32))]) hP hD [0, 3] [1, 2] rfl rfl (by decide) (by decide) hk1 hFc hP1 hD1
          generalize H1 = H at hP hS ⊢
          have hP : va_P (dC, dI) vwCl [(nw, .inl (cn_, 350, .inl fn)), (mw, .inl (cw_, 21, .inr (.inl fw_))), (mo, .inr (12, [.ref nw, .ref kp, .ref ik, .ref mr, .long la_, .long lb_, .ref mw, .long lc_, .int ti_, .int cb_, .long ld_, .long le_, .ref mq, .ref mz, .ref my, .int sm_, .ref mb, .int bl_, .int ta_, .int tl_, .int tk_, .int vl_, .ref mx, .ref mv])), (mr, .inl (cr_, 3, .inl gr__32))] H := hP
          have hD : va_D A [(nw, .inl (cn_, 350, .inl fn)), (mw, .inl (cw_, 21, .inr (.inl fw_))), (mo, .inr (12, [.ref nw, .ref kp, .ref ik, .ref mr, .long la_, .long lb_, .ref mw, .long lc_, .int ti_, .int cb_, .long ld_, .long le_, .ref mq, .ref mz, .ref my, .int sm_, .ref mb, .int bl_, .int ta_, .int tl_, .int tk_, .int vl_, .ref mx, .ref mv])), (mr, .inl (cr_, 3, .inl gr__32))] := hD
          obtain rfl : (-2) = r_30 := hw_31.symm
          have hP9 := hP.sub (ws' := [(mo, .inr (12, [.ref nw, .ref kp, .ref ik, .ref mr, .long la_, .long lb_, .ref mw, .long lc_, .int ti_, .int cb_, .long ld_, .long le_, .ref mq, .ref mz, .ref my, .int sm_, .ref mb, .int bl_, .int ta_, .int tl_, .int tk_, .int vl_, .ref mx, .ref mv])), (nw, .inl (cn_, 350, .inl fn)), (mw, .inl (cw_, 21, .inr (.inl fw_))), (mr, .inl (cr_, 3, .inl gr__32))]) [2, 0, 1, 3] rfl
          have hD9 := hD.sub (ws' := [(mo, .inr (12, [.ref nw, .ref kp, .ref ik, .ref mr, .long la_, .long lb_, .ref mw, .long lc_, .int ti_, .int cb_, .long ld_, .long le_, .ref mq, .ref mz, .ref my, .int sm_, .ref mb, .int bl_, .int ta_, .int tl_, .int tk_, .int vl_, .ref mx, .ref mv])), (nw, .inl (cn_, 350, .inl fn)), (mw, .inl (cw_, 21, .inr (.inl fw_))), (mr, .inl (cr_, 3, .inl gr__32))]) [2, 0, 1, 3] (by decide) rfl
          have hK9 := hK.sub (tys' := [(cn_, .int), (cw_, .long), (cr_, .int)]) [0, 1, 2] rfl
          exact W.iret (v := (-2)) hx hb hr (fun t ht hW => ⟨⟨(-2), (), rfl, trivial, lc_, ti_, cb_, fw_, gr__32, by rw [ht]; exact hP9, va_K.moved hW.alike hK9, hD9⟩, hS.F ht⟩) hS.2.2 dX12_truly_24
  · obtain rfl : 0 = r_3 := (hw_4.trans (if_neg hc_5)).symm
    refine lv_if_eq (tgt := 18) hx hb dX12_truly_5 (by decide) (fun c_33 => ?_) (fun c_33 => ?_)
    · refine lv_aload_n hx hb dX12_truly_18 rfl (lv_at hl 0 rfl) ?_
      refine lv_bipush (v := (-2)) hx hb dX12_truly_19 (by decide) ?_
      have hPc := hP.sub (ws' := [(mo, .inr (12, [.ref nw, .ref kp, .ref ik, .ref mr, .long la_, .long lb_, .ref mw, .long lc_, .int ti_, .int cb_, .long ld_, .long le_, .ref mq, .ref mz, .ref my, .int sm_, .ref mb, .int bl_, .int ta_, .int tl_, .int tk_, .int vl_, .ref mx, .ref mv])), (mr, .inl (cr_, 3, .inl fr_))]) [0, 3] rfl
      have hDc := hD.sub (ws' := [(mo, .inr (12, [.ref nw, .ref kp, .ref ik, .ref mr, .long la_, .long lb_, .ref mw, .long lc_, .int ti_, .int cb_, .long ld_, .long le_, .ref mq, .ref mz, .ref my, .int sm_, .ref mb, .int bl_, .int ta_, .int tl_, .int tk_, .int vl_, .ref mx, .ref mv])), (mr, .inl (cr_, 3, .inl fr_))]) [0, 3] (by decide) rfl
      have hKc := hK.sub (tys' := [(cr_, .int)]) [2] rfl
      have hFc := va_free (wc := [(mo, .inr (12, [.ref nw, .ref kp, .ref ik, .ref mr, .long la_, .long lb_, .ref mw, .long lc_, .int ti_, .int cb_, .long ld_, .long le_, .ref mq, .ref mz, .ref my, .int sm_, .ref mb, .int bl_, .int ta_, .int tl_, .int tk_, .int vl_, .ref mx, .ref mv])), (mr, .inl (cr_, 3, .inl fr_))]) hD hS hA [0, 3] rfl
      refine va_calli (va_runV (As := [.int (-2)]) (rest := []) ⟨hx, hb, hml, hown, hts⟩ (m_bad l dC dI mo nw kp ik mr la_ lb_ mw lc_ ti_ cb_ ld_ le_ mq mz my sm_ mb bl_ ta_ tl_ tk_ vl_ mx mv cr_ fr_ (-2) s.heap.size) (cwV 1 hts gX12_truly_X12_bad rfl rfl rfl (by decide +kernel) ⟨Nat.le_of_ble_eq_true rfl, Nat.le_of_ble_eq_true rfl⟩) ⟨fun a U g mk q => by obtain ⟨q0, q1, qP, qK, qD⟩ := q; exact ⟨q0, q1, qP, va_K.moved (u := U) (U := U.calling g mk a) (Vm.Alike.refl U.vm) qK, qD⟩, va_recv hK hP (ci := 12) (q0 := 0) rfl rfl, fun U hU hW => ⟨rfl, by rw [hU], by rw [hU]; exact hPc, va_K.moved hW.alike hKc, hDc.weaken (fun _ _ _ _ => trivial)⟩⟩ rfl rfl hl.1 rfl (lv_room (Nat.le_of_ble_eq_true rfl)) dX12_truly_21 ⟨Nat.le_of_ble_eq_true rfl, Nat.le_of_ble_eq_true rfl⟩) hS (fun q _ h => hFc q h) hFc (fun r_34 u_ t H1 locs ht hvm hw_35 hB hz1 hk1 hS => ?_)
      obtain ⟨gr__36, hP1, hK1, hD1⟩ := hB
      rw [ht] at hP1
      have hK1 := va_K.moved hvm.symm hK1
      obtain ⟨hP, hD⟩ := va_join (wr := [(nw, .inl (cn_, 350, .inl fn)), (mw, .inl (cw_, 21, .inr (.inl fw_)))]) (w1 := [(mo, .inr (12, [.ref nw, .ref kp, .ref ik, .ref mr, .long la_, .long lb_, .ref mw, .long lc_, .int ti_, .int cb_, .long ld_, .long le_, .ref mq, .ref mz, .ref my, .int sm_, .ref mb, .int bl_, .int ta_, .int tl_, .int tk_, .int vl_, .ref mx, .ref mv])), (mr, .inl (cr_, 3, .inl gr__36))]) hP hD [0, 3] [1, 2] rfl rfl (by decide) (by decide) hk1 hFc hP1 hD1
      generalize H1 = H at hP hS ⊢
      have hP : va_P (dC, dI) vwCl [(nw, .inl (cn_, 350, .inl fn)), (mw, .inl (cw_, 21, .inr (.inl fw_))), (mo, .inr (12, [.ref nw, .ref kp, .ref ik, .ref mr, .long la_, .long lb_, .ref mw, .long lc_, .int ti_, .int cb_, .long ld_, .long le_, .ref mq, .ref mz, .ref my, .int sm_, .ref mb, .int bl_, .int ta_, .int tl_, .int tk_, .int vl_, .ref mx, .ref mv])), (mr, .inl (cr_, 3, .inl gr__36))] H := hP
      have hD : va_D A [(nw, .inl (cn_, 350, .inl fn)), (mw, .inl (cw_, 21, .inr (.inl fw_))), (mo, .inr (12, [.ref nw, .ref kp, .ref ik, .ref mr, .long la_, .long lb_, .ref mw, .long lc_, .int ti_, .int cb_, .long ld_, .long le_, .ref mq, .ref mz, .ref my, .int sm_, .ref mb, .int bl_, .int ta_, .int tl_, .int tk_, .int vl_, .ref mx, .ref mv])), (mr, .inl (cr_, 3, .inl gr__36))] := hD
      obtain rfl : (-2) = r_34 := hw_35.symm
      have hP9 := hP.sub (ws' := [(mo, .inr (12, [.ref nw, .ref kp, .ref ik, .ref mr, .long la_, .long lb_, .ref mw, .long lc_, .int ti_, .int cb_, .long ld_, .long le_, .ref mq, .ref mz, .ref my, .int sm_, .ref mb, .int bl_, .int ta_, .int tl_, .int tk_, .int vl_, .ref mx, .ref mv])), (nw, .inl (cn_, 350, .inl fn)), (mw, .inl (cw_, 21, .inr (.inl fw_))), (mr, .inl (cr_, 3, .inl gr__36))]) [2, 0, 1, 3] rfl
      have hD9 := hD.sub (ws' := [(mo, .inr (12, [.ref nw, .ref kp, .ref ik, .ref mr, .long la_, .long lb_, .ref mw, .long lc_, .int ti_, .int cb_, .long ld_, .long le_, .ref mq, .ref mz, .ref my, .int sm_, .ref mb, .int bl_, .int ta_, .int tl_, .int tk_, .int vl_, .ref mx, .ref mv])), (nw, .inl (cn_, 350, .inl fn)), (mw, .inl (cw_, 21, .inr (.inl fw_))), (mr, .inl (cr_, 3, .inl gr__36))]) [2, 0, 1, 3] (by decide) rfl
      have hK9 := hK.sub (tys' := [(cn_, .int), (cw_, .long), (cr_, .int)]) [0, 1, 2] rfl
      exact W.iret (v := (-2)) hx hb hr (fun t ht hW => ⟨⟨(-2), (), rfl, trivial, lc_, ti_, cb_, fw_, gr__36, by rw [ht]; exact hP9, va_K.moved hW.alike hK9, hD9⟩, hS.F ht⟩) hS.2.2 dX12_truly_24
    · exact absurd c_33 (by decide)
set_option maxRecDepth 20000 in
theorem ggX12_wrong_X12_isCount : GoodIn wsX12_wrong wsX12_isCount := goodIn_r _ [9, 10, 11, 12, 8, 13, 61, 62, 63, 64, 65, 66, 67, 68, 69, 70, 71, 72, 73, 74, 75, 76, 77, 78, 79, 80, 81, 82, 83, 84] (by decide +kernel) (by decide +kernel)
set_option maxRecDepth 20000 in
theorem gX12_wrong_X12_isCount : GoodIn wsX12_wrong (wsV RX12 110 RX12 yX12_isCount wsX12_isCount) := goodIn_app (goodIn_of _ (by decide +kernel)) ggX12_wrong_X12_isCount
set_option maxRecDepth 20000 in
theorem ggX12_wrong_X12_countHas : GoodIn wsX12_wrong wsX12_countHas := goodIn_r _ [22, 10, 61, 62, 63, 64, 65, 66, 67, 68, 69, 70, 71, 72, 73, 74, 75, 76, 77, 78, 79, 80, 81, 82, 83, 84] (by decide +kernel) (by decide +kernel)
set_option maxRecDepth 20000 in
theorem gX12_wrong_X12_countHas : GoodIn wsX12_wrong (wsV RX12 143 RX12 yX12_countHas wsX12_countHas) := goodIn_app (goodIn_of _ (by decide +kernel)) ggX12_wrong_X12_countHas
set_option maxRecDepth 20000 in
theorem ggX12_wrong_X12_weigh : GoodIn wsX12_wrong wsX12_weigh := goodIn_r _ [26, 1, 27, 28, 4, 29, 30, 31, 8, 32, 10, 33, 34, 35, 36, 11, 12, 13, 19, 20, 21, 22, 37, 38, 39, 40, 41, 42, 43, 44, 45, 46, 47, 48, 49, 50, 61, 62, 63, 64, 65, 66, 67, 68, 69, 70, 71, 72, 73, 74, 75, 76, 77, 78, 79, 80, 81, 82, 83, 84] (by decide +kernel) (by decide +kernel)
set_option maxRecDepth 20000 in
theorem gX12_wrong_X12_weigh : GoodIn wsX12_wrong (wsV RX12 165 RX12 yX12_weigh wsX12_weigh) := goodIn_app (goodIn_of _ (by decide +kernel)) ggX12_wrong_X12_weigh
set_option maxRecDepth 20000 in
theorem ggX12_wrong_X12_in : GoodIn wsX12_wrong wsX12_in := goodIn_r _ [13] (by decide +kernel) (by decide +kernel)
set_option maxRecDepth 20000 in
theorem gX12_wrong_X12_in : GoodIn wsX12_wrong (va_wsS RX12 49 yX12_in wsX12_in) := goodIn_app (goodIn_of _ (by decide +kernel)) ggX12_wrong_X12_in
set_option maxRecDepth 20000 in
theorem ggX12_wrong_X12_fraction : GoodIn wsX12_wrong wsX12_fraction := goodIn_r _ [58, 59, 60, 61, 62, 63, 64, 65, 66, 67, 68, 69, 70, 71, 72, 73, 74, 75, 76, 77, 78, 79, 80, 81, 82, 83, 84] (by decide +kernel) (by decide +kernel)
set_option maxRecDepth 20000 in
theorem gX12_wrong_X12_fraction : GoodIn wsX12_wrong (wsV RX12 169 RX12 yX12_fraction wsX12_fraction) := goodIn_app (goodIn_of _ (by decide +kernel)) ggX12_wrong_X12_fraction
set_option maxRecDepth 20000 in
theorem ggX12_wrong_X12_no : GoodIn wsX12_wrong wsX12_no := goodIn_r _ [54, 18, 61, 62, 63, 64, 65, 66, 67, 68, 69, 70, 71, 72, 73, 74, 75, 76, 77, 78, 79, 80, 81, 82, 83, 84] (by decide +kernel) (by decide +kernel)
set_option maxRecDepth 20000 in
theorem gX12_wrong_X12_no : GoodIn wsX12_wrong (wsV RX12 113 RX12 yX12_no wsX12_no) := goodIn_app (goodIn_of _ (by decide +kernel)) ggX12_wrong_X12_no
set_option maxRecDepth 20000 in
theorem ggX12_wrong_X12_bad : GoodIn wsX12_wrong wsX12_bad := goodIn_r _ [17, 18, 61, 62, 63, 64, 65, 66, 67, 68, 69, 70, 71, 72, 73, 74, 75, 76, 77, 78, 79, 80, 81, 82, 83, 84] (by decide +kernel) (by decide +kernel)
set_option maxRecDepth 20000 in
theorem gX12_wrong_X12_bad : GoodIn wsX12_wrong (wsV RX12 61 RX12 yX12_bad wsX12_bad) := goodIn_app (goodIn_of _ (by decide +kernel)) ggX12_wrong_X12_bad
theorem dX12_wrong_0 : decode cX12_wrong 0 = .ok (.aload_n 0, 1) := by decide +kernel
theorem dX12_wrong_1 : decode cX12_wrong 1 = .ok (.iload_n 1, 1) := by decide +kernel
theorem dX12_wrong_2 : decode cX12_wrong 2 = .ok (.invokevirtual 110, 3) := by decide +kernel
theorem dX12_wrong_5 : decode cX12_wrong 5 = .ok (.ifCond .ne 10, 3) := by decide +kernel
theorem dX12_wrong_15 : decode cX12_wrong 15 = .ok (.aload_n 0, 1) := by decide +kernel
theorem dX12_wrong_16 : decode cX12_wrong 16 = .ok (.aload_n 0, 1) := by decide +kernel
theorem dX12_wrong_17 : decode cX12_wrong 17 = .ok (.iload_n 1, 1) := by decide +kernel
theorem dX12_wrong_18 : decode cX12_wrong 18 = .ok (.iconst 0, 1) := by decide +kernel
theorem dX12_wrong_19 : decode cX12_wrong 19 = .ok (.invokevirtual 143, 3) := by decide +kernel
theorem dX12_wrong_22 : decode cX12_wrong 22 = .ok (.invokevirtual 165, 3) := by decide +kernel
theorem dX12_wrong_25 : decode cX12_wrong 25 = .ok (.aload_n 0, 1) := by decide +kernel
theorem dX12_wrong_26 : decode cX12_wrong 26 = .ok (.getfield 151, 3) := by decide +kernel
theorem dX12_wrong_29 : decode cX12_wrong 29 = .ok (.lconst 0, 1) := by decide +kernel
theorem dX12_wrong_30 : decode cX12_wrong 30 = .ok (.lcmp, 1) := by decide +kernel
theorem dX12_wrong_31 : decode cX12_wrong 31 = .ok (.ifCond .ne 8, 3) := by decide +kernel
theorem dX12_wrong_39 : decode cX12_wrong 39 = .ok (.aload_n 0, 1) := by decide +kernel
theorem dX12_wrong_40 : decode cX12_wrong 40 = .ok (.iload_n 1, 1) := by decide +kernel
theorem dX12_wrong_41 : decode cX12_wrong 41 = .ok (.iconst 3, 1) := by decide +kernel
theorem dX12_wrong_42 : decode cX12_wrong 42 = .ok (.invokevirtual 143, 3) := by decide +kernel
theorem dX12_wrong_45 : decode cX12_wrong 45 = .ok (.istore_n 2, 1) := by decide +kernel
theorem dX12_wrong_46 : decode cX12_wrong 46 = .ok (.iload_n 2, 1) := by decide +kernel
theorem dX12_wrong_47 : decode cX12_wrong 47 = .ok (.i2l, 1) := by decide +kernel
theorem dX12_wrong_48 : decode cX12_wrong 48 = .ok (.ldc2_w 73, 3) := by decide +kernel
theorem dX12_wrong_51 : decode cX12_wrong 51 = .ok (.ldc2_w 75, 3) := by decide +kernel
theorem dX12_wrong_54 : decode cX12_wrong 54 = .ok (.invokestatic 49, 3) := by decide +kernel
theorem dX12_wrong_57 : decode cX12_wrong 57 = .ok (.ifCond .eq 15, 3) := by decide +kernel
theorem dX12_wrong_60 : decode cX12_wrong 60 = .ok (.aload_n 0, 1) := by decide +kernel
theorem dX12_wrong_61 : decode cX12_wrong 61 = .ok (.getfield 27, 3) := by decide +kernel
theorem dX12_wrong_64 : decode cX12_wrong 64 = .ok (.iload_n 2, 1) := by decide +kernel
theorem dX12_wrong_65 : decode cX12_wrong 65 = .ok (.bipush 90, 2) := by decide +kernel
theorem dX12_wrong_67 : decode cX12_wrong 67 = .ok (.isub, 1) := by decide +kernel
theorem dX12_wrong_68 : decode cX12_wrong 68 = .ok (.laload, 1) := by decide +kernel
theorem dX12_wrong_69 : decode cX12_wrong 69 = .ok (.goto 4, 3) := by decide +kernel
theorem dX12_wrong_73 : decode cX12_wrong 73 = .ok (.lstore_n 3, 1) := by decide +kernel
theorem dX12_wrong_74 : decode cX12_wrong 74 = .ok (.aload_n 0, 1) := by decide +kernel
theorem dX12_wrong_75 : decode cX12_wrong 75 = .ok (.aload_n 0, 1) := by decide +kernel
theorem dX12_wrong_76 : decode cX12_wrong 76 = .ok (.getfield 151, 3) := by decide +kernel
theorem dX12_wrong_79 : decode cX12_wrong 79 = .ok (.lload_n 3, 1) := by decide +kernel
theorem dX12_wrong_80 : decode cX12_wrong 80 = .ok (.lsub, 1) := by decide +kernel
theorem dX12_wrong_81 : decode cX12_wrong 81 = .ok (.aload_n 0, 1) := by decide +kernel
theorem dX12_wrong_82 : decode cX12_wrong 82 = .ok (.getfield 151, 3) := by decide +kernel
theorem dX12_wrong_85 : decode cX12_wrong 85 = .ok (.invokevirtual 169, 3) := by decide +kernel
theorem dX12_wrong_88 : decode cX12_wrong 88 = .ok (.iconst 1, 1) := by decide +kernel
theorem dX12_wrong_89 : decode cX12_wrong 89 = .ok (.ireturn, 1) := by decide +kernel
theorem dX12_wrong_72 : decode cX12_wrong 72 = .ok (.lconst 0, 1) := by decide +kernel
theorem dX12_wrong_34 : decode cX12_wrong 34 = .ok (.aload_n 0, 1) := by decide +kernel
theorem dX12_wrong_35 : decode cX12_wrong 35 = .ok (.invokevirtual 113, 3) := by decide +kernel
theorem dX12_wrong_38 : decode cX12_wrong 38 = .ok (.ireturn, 1) := by decide +kernel
theorem dX12_wrong_8 : decode cX12_wrong 8 = .ok (.aload_n 0, 1) := by decide +kernel
theorem dX12_wrong_9 : decode cX12_wrong 9 = .ok (.bipush (-2), 2) := by decide +kernel
theorem dX12_wrong_11 : decode cX12_wrong 11 = .ok (.invokevirtual 61, 3) := by decide +kernel
theorem dX12_wrong_14 : decode cX12_wrong 14 = .ok (.ireturn, 1) := by decide +kernel
set_option maxRecDepth 20000 in
theorem iw_m_wrong_X12 : ∀ w ∈ wsX120, w ∈ wsX12_wrong := by decide +kernel
set_option maxHeartbeats 4000000 in
set_option maxRecDepth 100000 in
theorem m_wrong (l : Launch) (dC : Nat → ClassId) (dI : Nat → Nat → Nat) (mo : Nat) (nw : Nat) (kp : Nat) (ik : Nat) (mr : Nat) (la_ : Int64) (lb_ : Int64) (mw : Nat) (lc_ : Int64) (ti_ : Int32) (cb_ : Int32) (ld_ : Int64) (le_ : Int64) (mq : Nat) (mz : Nat) (my : Nat) (sm_ : Int32) (mb : Nat) (bl_ : Int32) (ta_ : Int32) (tl_ : Int32) (tk_ : Int32) (vl_ : Int32) (mx : Nat) (mv : Nat) (cn_ : ClassId) (fn : Nat → Int32) (cw_ : ClassId) (fw_ : Nat → Int64) (cr_ : ClassId) (fr_ : Nat → Int32) (na : Int32) (sz : Nat) (hOn : tz_OK 350 fn) : Met l yX12_wrong wsX12_wrong ({ frames := 5, cells := 0, slots := 0, locals := 121 }) (va_Pc [.ref mo, .int na] (fun U => U.heap.size = sz ∧ va_P (dC, dI) vwCl [(mo, .inr (12, [.ref nw, .ref kp, .ref ik, .ref mr, .long la_, .long lb_, .ref mw, .long lc_, .int ti_, .int cb_, .long ld_, .long le_, .ref mq, .ref mz, .ref my, .int sm_, .ref mb, .int bl_, .int ta_, .int tl_, .int tk_, .int vl_, .ref mx, .ref mv])), (nw, .inl (cn_, 350, .inl fn)), (mw, .inl (cw_, 21, .inr (.inl fw_))), (mr, .inl (cr_, 3, .inl fr_))] U.heap ∧ va_K (dC, dI) vwCl [(cn_, .int), (cw_, .long), (cr_, .int)] U ∧ va_D (fun _ => True) [(mo, .inr (12, [.ref nw, .ref kp, .ref ik, .ref mr, .long la_, .long lb_, .ref mw, .long lc_, .int ti_, .int cb_, .long ld_, .long le_, .ref mq, .ref mz, .ref my, .int sm_, .ref mb, .int bl_, .int ta_, .int tl_, .int tk_, .int vl_, .ref mx, .ref mv])), (nw, .inl (cn_, 350, .inl fn)), (mw, .inl (cw_, 21, .inr (.inl fw_))), (mr, .inl (cr_, 3, .inl fr_))])) (va_Qi (fun (r : Int32) (_ : Unit) => True) (fun _ t => ∃ (h_allWeights : Int64) (h_trulyIs : Int32) (h_canBe : Int32) (h_above : Int64) (h_below : Int64) (gw_ : Nat → Int64) (gr_ : Nat → Int32), va_P (dC, dI) vwCl [(mo, .inr (12, [.ref nw, .ref kp, .ref ik, .ref mr, .long h_above, .long h_below, .ref mw, .long h_allWeights, .int h_trulyIs, .int h_canBe, .long ld_, .long le_, .ref mq, .ref mz, .ref my, .int sm_, .ref mb, .int bl_, .int ta_, .int tl_, .int tk_, .int vl_, .ref mx, .ref mv])), (nw, .inl (cn_, 350, .inl fn)), (mw, .inl (cw_, 21, .inr (.inl gw_))), (mr, .inl (cr_, 3, .inl gr_))] t.heap ∧ va_K (dC, dI) vwCl [(cn_, .int), (cw_, .long), (cr_, .int)] t ∧ va_D (va_A [(mo, .inr (12, [.ref nw, .ref kp, .ref ik, .ref mr, .long la_, .long lb_, .ref mw, .long lc_, .int ti_, .int cb_, .long ld_, .long le_, .ref mq, .ref mz, .ref my, .int sm_, .ref mb, .int bl_, .int ta_, .int tl_, .int tk_, .int vl_, .ref mx, .ref mv])), (nw, .inl (cn_, 350, .inl fn)), (mw, .inl (cw_, 21, .inr (.inl fw_))), (mr, .inl (cr_, 3, .inl fr_))] sz) [(mo, .inr (12, [.ref nw, .ref kp, .ref ik, .ref mr, .long h_above, .long h_below, .ref mw, .long h_allWeights, .int h_trulyIs, .int h_canBe, .long ld_, .long le_, .ref mq, .ref mz, .ref my, .int sm_, .ref mb, .int bl_, .int ta_, .int tl_, .int tk_, .int vl_, .ref mx, .ref mv])), (nw, .inl (cn_, 350, .inl fn)), (mw, .inl (cw_, 21, .inr (.inl gw_))), (mr, .inl (cr_, 3, .inl gr_))]) (va_A [(mo, .inr (12, [.ref nw, .ref kp, .ref ik, .ref mr, .long la_, .long lb_, .ref mw, .long lc_, .int ti_, .int cb_, .long ld_, .long le_, .ref mq, .ref mz, .ref my, .int sm_, .ref mb, .int bl_, .int ta_, .int tl_, .int tk_, .int vl_, .ref mx, .ref mv])), (nw, .inl (cn_, 350, .inl fn)), (mw, .inl (cw_, 21, .inr (.inl fw_))), (mr, .inl (cr_, 3, .inl fr_))] sz)) 0 0 (va_A [(mo, .inr (12, [.ref nw, .ref kp, .ref ik, .ref mr, .long la_, .long lb_, .ref mw, .long lc_, .int ti_, .int cb_, .long ld_, .long le_, .ref mq, .ref mz, .ref my, .int sm_, .ref mb, .int bl_, .int ta_, .int tl_, .int tk_, .int vl_, .ref mx, .ref mv])), (nw, .inl (cn_, 350, .inl fn)), (mw, .inl (cw_, 21, .inr (.inl fw_))), (mr, .inl (cr_, 3, .inl fr_))] sz) := by
  refine Met.ofW (cc := cX12_wrong) (maxL := 5) (ret := (some .int)) (by decide) rfl ?_
  intro p e s m args below meth c s₁ B hml hv
  obtain ⟨rfl, hsz, hP, hK, hD0⟩ := hv
  have hx := B.exec
  have hb := B.bytes
  have hr := B.returns
  have hts := atoms_spec (ws := wsX12_wrong) B.pre
  have hown : s.vm.findClass RX12 = some m.cls := findClass_of_methodNamed B.named
  have hlocks := B.notSynchronized
  subst hsz
  have hD := hD0.self (sz := s.heap.size)
  generalize hAe : va_A [(mo, .inr (12, [.ref nw, .ref kp, .ref ik, .ref mr, .long la_, .long lb_, .ref mw, .long lc_, .int ti_, .int cb_, .long ld_, .long le_, .ref mq, .ref mz, .ref my, .int sm_, .ref mb, .int bl_, .int ta_, .int tl_, .int tk_, .int vl_, .ref mx, .ref mv])), (nw, .inl (cn_, 350, .inl fn)), (mw, .inl (cw_, 21, .inr (.inl fw_))), (mr, .inl (cr_, 3, .inl fr_))] s.heap.size = A at hD ⊢
  have hA : ∀ q : Nat, s.heap.size ≤ q → A q := fun q h => by rw [← hAe]; exact Or.inr h
  have hS : va_S A s.heap s.heap [] := va_S.rf
  have hP : va_P (dC, dI) vwCl [(mo, .inr (12, [.ref nw, .ref kp, .ref ik, .ref mr, .long la_, .long lb_, .ref mw, .long lc_, .int ti_, .int cb_, .long ld_, .long le_, .ref mq, .ref mz, .ref my, .int sm_, .ref mb, .int bl_, .int ta_, .int tl_, .int tk_, .int vl_, .ref mx, .ref mv])), (nw, .inl (cn_, 350, .inl fn)), (mw, .inl (cw_, 21, .inr (.inl fw_))), (mr, .inl (cr_, 3, .inl fr_))] s.heap := hP
  have hl := lv_entry ([.ref mo, .int na]) (n := 5) (Nat.le_of_ble_eq_true rfl)
  rw [lg_entry_eq]
  generalize (lg_sl ([.ref mo, .int na]) ++ List.replicate (5 - (lg_sl ([.ref mo, .int na])).length) Slot.unset).toArray = ls at hl ⊢
  have hl : lv_has ls 5 [(0, .ref mo), (1, .int na)] := hl
  refine lv_aload_n hx hb dX12_wrong_0 rfl (lv_at hl 0 rfl) ?_
  refine lv_iload_n hx hb dX12_wrong_1 rfl (lv_at hl 1 rfl) ?_
  have hPc_1 := hP.sub (ws' := [(mo, .inr (12, [.ref nw, .ref kp, .ref ik, .ref mr, .long la_, .long lb_, .ref mw, .long lc_, .int ti_, .int cb_, .long ld_, .long le_, .ref mq, .ref mz, .ref my, .int sm_, .ref mb, .int bl_, .int ta_, .int tl_, .int tk_, .int vl_, .ref mx, .ref mv])), (nw, .inl (cn_, 350, .inl fn))]) [0, 1] rfl
  have hKc_2 := hK.sub (tys' := [(cn_, .int)]) [0] rfl
  refine vp_callSi (va_Run.run (va_runV (As := [.int na]) (rest := []) ⟨hx, hb, hml, hown, hts⟩ (m_isCount l dC dI mo nw kp ik mr la_ lb_ mw lc_ ti_ cb_ ld_ le_ mq mz my sm_ mb bl_ ta_ tl_ tk_ vl_ mx mv cn_ fn na hOn) (cwV 1 hts gX12_wrong_X12_isCount rfl rfl rfl (by decide +kernel) ⟨Nat.le_of_ble_eq_true rfl, Nat.le_of_ble_eq_true rfl⟩) ⟨fun a U g mk q => by obtain ⟨q0, qP, qK⟩ := q; exact ⟨q0, qP, va_K.moved (u := U) (U := U.calling g mk a) (Vm.Alike.refl U.vm) qK⟩, va_recv hK hP (ci := 12) (q0 := 0) rfl rfl, fun U hU hW => ⟨rfl, by rw [hU]; exact hPc_1, va_K.moved hW.alike hKc_2⟩⟩ rfl rfl hl.1 rfl (lv_room (Nat.le_of_ble_eq_true rfl)) dX12_wrong_2 ⟨Nat.le_of_ble_eq_true rfl, Nat.le_of_ble_eq_true rfl⟩)) (fun r_3 hw_4 => ?_)
  by_cases hc_5 : 0 ≤ na ∧ na < (fn 2)
  · obtain rfl : 1 = r_3 := (hw_4.trans (if_pos hc_5)).symm
    obtain ⟨j_7, hj_8, ej_9⟩ := hOn.nat (K := 2) (n := 8) (by omega) (show tz_b 2 = (0, 8) from by decide)
    obtain ⟨j_6, hj_10, rfl⟩ := tz_idx2 (J := j_7) hc_5 ej_9 (by omega)
    refine lv_if_ne (tgt := 15) hx hb dX12_wrong_5 (by decide) (fun c_11 => ?_) (fun c_11 => ?_)
    · refine lv_aload_n hx hb dX12_wrong_15 rfl (lv_at hl 0 rfl) ?_
      refine lv_aload_n hx hb dX12_wrong_16 rfl (lv_at hl 0 rfl) ?_
      refine lv_iload_n hx hb dX12_wrong_17 rfl (lv_at hl 1 rfl) ?_
      refine lv_iconst (v := 0) hx hb dX12_wrong_18 (by decide) ?_
      have hPc_12 := hP.sub (ws' := [(mo, .inr (12, [.ref nw, .ref kp, .ref ik, .ref mr, .long la_, .long lb_, .ref mw, .long lc_, .int ti_, .int cb_, .long ld_, .long le_, .ref mq, .ref mz, .ref my, .int sm_, .ref mb, .int bl_, .int ta_, .int tl_, .int tk_, .int vl_, .ref mx, .ref mv])), (nw, .inl (cn_, 350, .inl fn))]) [0, 1] rfl
      have hKc_13 := hK.sub (tys' := [(cn_, .int)]) [0] rfl
      refine vp_callSi (va_Run.run (va_runV (As := [.int (nI j_6), .int 0]) (rest := [.ref mo]) ⟨hx, hb, hml, hown, hts⟩ (m_countHas0 l dC dI mo nw kp ik mr la_ lb_ mw lc_ ti_ cb_ ld_ le_ mq mz my sm_ mb bl_ ta_ tl_ tk_ vl_ mx mv cn_ fn j_6 hOn (by omega)) (cwV 2 hts gX12_wrong_X12_countHas rfl rfl rfl (by decide +kernel) ⟨Nat.le_of_ble_eq_true rfl, Nat.le_of_ble_eq_true rfl⟩) ⟨fun a U g mk q => by obtain ⟨q0, qP, qK⟩ := q; exact ⟨q0, qP, va_K.moved (u := U) (U := U.calling g mk a) (Vm.Alike.refl U.vm) qK⟩, va_recv hK hP (ci := 12) (q0 := 0) rfl rfl, fun U hU hW => ⟨rfl, by rw [hU]; exact hPc_12, va_K.moved hW.alike hKc_13⟩⟩ rfl rfl hl.1 rfl (lv_room (Nat.le_of_ble_eq_true rfl)) dX12_wrong_19 ⟨Nat.le_of_ble_eq_true rfl, Nat.le_of_ble_eq_true rfl⟩)) (fun r_14 hw_15 => ?_)
      obtain ⟨j_16, hj_17, rfl⟩ := hw_15
      have hPc := hP.sub (ws' := [(mo, .inr (12, [.ref nw, .ref kp, .ref ik, .ref mr, .long la_, .long lb_, .ref mw, .long lc_, .int ti_, .int cb_, .long ld_, .long le_, .ref mq, .ref mz, .ref my, .int sm_, .ref mb, .int bl_, .int ta_, .int tl_, .int tk_, .int vl_, .ref mx, .ref mv])), (nw, .inl (cn_, 350, .inl fn)), (mw, .inl (cw_, 21, .inr (.inl fw_)))]) [0, 1, 2] rfl
      have hDc := hD.sub (ws' := [(mo, .inr (12, [.ref nw, .ref kp, .ref ik, .ref mr, .long la_, .long lb_, .ref mw, .long lc_, .int ti_, .int cb_, .long ld_, .long le_, .ref mq, .ref mz, .ref my, .int sm_, .ref mb, .int bl_, .int ta_, .int tl_, .int tk_, .int vl_, .ref mx, .ref mv])), (nw, .inl (cn_, 350, .inl fn)), (mw, .inl (cw_, 21, .inr (.inl fw_)))]) [0, 1, 2] (by decide) rfl
      have hKc := hK.sub (tys' := [(cn_, .int), (cw_, .long)]) [0, 1] rfl
      have hFc := va_free (wc := [(mo, .inr (12, [.ref nw, .ref kp, .ref ik, .ref mr, .long la_, .long lb_, .ref mw, .long lc_, .int ti_, .int cb_, .long ld_, .long le_, .ref mq, .ref mz, .ref my, .int sm_, .ref mb, .int bl_, .int ta_, .int tl_, .int tk_, .int vl_, .ref mx, .ref mv])), (nw, .inl (cn_, 350, .inl fn)), (mw, .inl (cw_, 21, .inr (.inl fw_)))]) hD hS hA [0, 1, 2] rfl
      refine va_callv (va_runV (As := [.int (nI j_16)]) (rest := []) ⟨hx, hb, hml, hown, hts⟩ (m_weigh l dC dI mo nw kp ik mr la_ lb_ mw lc_ ti_ cb_ ld_ le_ mq mz my sm_ mb bl_ ta_ tl_ tk_ vl_ mx mv cn_ fn cw_ fw_ j_16 s.heap.size hOn (by omega)) (cwV 1 hts gX12_wrong_X12_weigh rfl rfl rfl (by decide +kernel) ⟨Nat.le_of_ble_eq_true rfl, Nat.le_of_ble_eq_true rfl⟩) ⟨fun a U g mk q => by obtain ⟨q0, q1, qP, qK, qD⟩ := q; exact ⟨q0, q1, qP, va_K.moved (u := U) (U := U.calling g mk a) (Vm.Alike.refl U.vm) qK, qD⟩, va_recv hK hP (ci := 12) (q0 := 0) rfl rfl, fun U hU hW => ⟨rfl, by rw [hU], by rw [hU]; exact hPc, va_K.moved hW.alike hKc, hDc.weaken (fun _ _ _ _ => trivial)⟩⟩ rfl rfl hl.1 rfl (lv_room (Nat.le_of_ble_eq_true rfl)) dX12_wrong_22 ⟨Nat.le_of_ble_eq_true rfl, Nat.le_of_ble_eq_true rfl⟩) hS (fun q _ h => hFc q h) hFc (fun u_ t H1 locs ht hvm hw_19 hB hz1 hk1 hS => ?_)
      obtain ⟨h_allWeights_20, h_trulyIs_21, h_canBe_22, gw__23, hf_24, hP1, hK1, hD1⟩ := hB
      rw [ht] at hP1
      have hK1 := va_K.moved hvm.symm hK1
      obtain ⟨hP, hD⟩ := va_join (wr := [(mr, .inl (cr_, 3, .inl fr_))]) (w1 := [(mo, .inr (12, [.ref nw, .ref kp, .ref ik, .ref mr, .long la_, .long lb_, .ref mw, .long h_allWeights_20, .int h_trulyIs_21, .int h_canBe_22, .long ld_, .long le_, .ref mq, .ref mz, .ref my, .int sm_, .ref mb, .int bl_, .int ta_, .int tl_, .int tk_, .int vl_, .ref mx, .ref mv])), (nw, .inl (cn_, 350, .inl fn)), (mw, .inl (cw_, 21, .inr (.inl gw__23)))]) hP hD [0, 1, 2] [3] rfl rfl (by decide) (by decide) hk1 hFc hP1 hD1
      generalize H1 = H at hP hS ⊢
      have hP : va_P (dC, dI) vwCl [(mr, .inl (cr_, 3, .inl fr_)), (mo, .inr (12, [.ref nw, .ref kp, .ref ik, .ref mr, .long la_, .long lb_, .ref mw, .long h_allWeights_20, .int h_trulyIs_21, .int h_canBe_22, .long ld_, .long le_, .ref mq, .ref mz, .ref my, .int sm_, .ref mb, .int bl_, .int ta_, .int tl_, .int tk_, .int vl_, .ref mx, .ref mv])), (nw, .inl (cn_, 350, .inl fn)), (mw, .inl (cw_, 21, .inr (.inl gw__23)))] H := hP
      have hD : va_D A [(mr, .inl (cr_, 3, .inl fr_)), (mo, .inr (12, [.ref nw, .ref kp, .ref ik, .ref mr, .long la_, .long lb_, .ref mw, .long h_allWeights_20, .int h_trulyIs_21, .int h_canBe_22, .long ld_, .long le_, .ref mq, .ref mz, .ref my, .int sm_, .ref mb, .int bl_, .int ta_, .int tl_, .int tk_, .int vl_, .ref mx, .ref mv])), (nw, .inl (cn_, 350, .inl fn)), (mw, .inl (cw_, 21, .inr (.inl gw__23)))] := hD
      refine lv_aload_n hx hb dX12_wrong_25 rfl (lv_at hl 0 rfl) ?_
      refine va_get (D := (dC, dI)) (ci := 12) (v := .long h_allWeights_20) (C := RX12) (T := TX12) (N := 24) hx hb hts iw_m_wrong_X12 hown hK hP 1 rfl rfl 7 (by decide) (hts (.fieldLink RX12 151 "ThriceCountedModel" "allWeights" "J") (by decide +kernel)) (fun _ h9 => h9) rfl dX12_wrong_26 ?_
      refine lv_lconst (v := 0) hx hb dX12_wrong_29 (by decide) ?_
      refine W.lcmp hx hb dX12_wrong_30 ?_
      refine lv_if_ne (tgt := 39) hx hb dX12_wrong_31 (by decide) (fun c_25 => ?_) (fun c_25 => ?_)
      · refine lv_aload_n hx hb dX12_wrong_39 rfl (lv_at hl 0 rfl) ?_
        refine lv_iload_n hx hb dX12_wrong_40 rfl (lv_at hl 1 rfl) ?_
        refine lv_iconst (v := 3) hx hb dX12_wrong_41 (by decide) ?_
        have hPc_26 := hP.sub (ws' := [(mo, .inr (12, [.ref nw, .ref kp, .ref ik, .ref mr, .long la_, .long lb_, .ref mw, .long h_allWeights_20, .int h_trulyIs_21, .int h_canBe_22, .long ld_, .long le_, .ref mq, .ref mz, .ref my, .int sm_, .ref mb, .int bl_, .int ta_, .int tl_, .int tk_, .int vl_, .ref mx, .ref mv])), (nw, .inl (cn_, 350, .inl fn))]) [1, 2] rfl
        have hKc_27 := hK.sub (tys' := [(cn_, .int)]) [0] rfl
        refine vp_callSi (va_Run.run (va_runV (As := [.int (nI j_6), .int 3]) (rest := []) ⟨hx, hb, hml, hown, hts⟩ (m_countHas3 l dC dI mo nw kp ik mr la_ lb_ mw h_allWeights_20 h_trulyIs_21 h_canBe_22 ld_ le_ mq mz my sm_ mb bl_ ta_ tl_ tk_ vl_ mx mv cn_ fn j_6 hOn (by omega)) (cwV 2 hts gX12_wrong_X12_countHas rfl rfl rfl (by decide +kernel) ⟨Nat.le_of_ble_eq_true rfl, Nat.le_of_ble_eq_true rfl⟩) ⟨fun a U g mk q => by obtain ⟨q0, qP, qK⟩ := q; exact ⟨q0, qP, va_K.moved (u := U) (U := U.calling g mk a) (Vm.Alike.refl U.vm) qK⟩, va_recv hK hP (ci := 12) (q0 := 1) rfl rfl, fun U hU hW => ⟨rfl, by rw [hU]; exact hPc_26, va_K.moved hW.alike hKc_27⟩⟩ rfl rfl hl.1 rfl (lv_room (Nat.le_of_ble_eq_true rfl)) dX12_wrong_42 ⟨Nat.le_of_ble_eq_true rfl, Nat.le_of_ble_eq_true rfl⟩)) (fun r_28 hw_29 => ?_)
        refine lv_istore_n (lv' := [(2, .int r_28), (0, .ref mo), (1, .int (nI j_6))]) hx hb dX12_wrong_45 rfl hl (by decide) rfl (fun ls hl => ?_)
        refine lv_iload_n hx hb dX12_wrong_46 rfl (lv_at hl 0 rfl) ?_
        refine lv_i2l (v := r_28.toInt64) hx hb dX12_wrong_47 rfl ?_
        refine lv_ldc2 hx hb hown (hts (.constantLong RX12 73 (90)) (by decide +kernel)) dX12_wrong_48 ?_
        refine lv_ldc2 hx hb hown (hts (.constantLong RX12 75 (110)) (by decide +kernel)) dX12_wrong_51 ?_
        refine vp_callSi (va_Run.run (va_runS (As := [.long r_28.toInt64, .long 90, .long 110]) (rest := []) ⟨hx, hb, hml, hown, hts⟩ (m_in l dC dI r_28.toInt64 90 110) (va_cwS 3 hts gX12_wrong_X12_in rfl rfl rfl (by decide +kernel) ⟨Nat.le_of_ble_eq_true rfl, Nat.le_of_ble_eq_true rfl⟩) ⟨fun a U g mk q => ⟨q.1, trivial⟩, fun U hU hW => ⟨rfl, trivial⟩⟩ rfl rfl hl.1 rfl (lv_room (Nat.le_of_ble_eq_true rfl)) dX12_wrong_54 ⟨Nat.le_of_ble_eq_true rfl, Nat.le_of_ble_eq_true rfl⟩)) (fun r_30 hw_31 => ?_)
        by_cases hc_32 : 90 ≤ r_28 ∧ r_28 ≤ 110
        · obtain rfl : 1 = r_30 := (hw_31.trans (if_pos ((tz_in64 (by first | rfl | decide) rfl (by first | rfl | decide)).mpr hc_32))).symm
          obtain ⟨j_33, hj_34, hj_35, rfl⟩ := tz_pickL (l := 90) (n := 110) hc_32 (by decide) (by decide)
          refine lv_if_eq (tgt := 72) hx hb dX12_wrong_57 (by decide) (fun c_36 => ?_) (fun c_36 => ?_)
          · exact absurd c_36 (by decide)
          · refine lv_aload_n hx hb dX12_wrong_60 rfl (lv_at hl 1 rfl) ?_
            refine va_get (D := (dC, dI)) (ci := 12) (v := .ref mw) (C := RX12) (T := TX12) (N := 24) hx hb hts iw_m_wrong_X12 hown hK hP 1 rfl rfl 6 (by decide) (hts (.fieldLink RX12 27 "ThriceCountedModel" "weights" "[J") (by decide +kernel)) (fun _ h9 => h9) rfl dX12_wrong_61 ?_
            refine lv_iload_n hx hb dX12_wrong_64 rfl (lv_at hl 0 rfl) ?_
            refine lv_bipush (v := 90) hx hb dX12_wrong_65 (by decide) ?_
            refine lv_isub hx hb dX12_wrong_67 ?_
            refine tz_i (nI (j_33 - 90)) (pk_sub (a := j_33) (b := 90) (by omega)) ?_
            refine va_lald hx hb hK hP 3 1 rfl rfl (vp_in_nI (n := (j_33 - 90)) (N := 21) (by omega) (by decide)) dX12_wrong_68 ?_
            refine lv_topl (fun x_37 _ => ?_)
            refine lv_goto (tgt := 73) hx hb dX12_wrong_69 (by decide) ?_
            refine lv_lstore_n (lv' := [(3, .long x_37), (2, .int (nI j_33)), (0, .ref mo), (1, .int (nI j_6))]) hx hb dX12_wrong_73 rfl hl (by decide) rfl (fun ls hl => ?_)
            refine lv_aload_n hx hb dX12_wrong_74 rfl (lv_at hl 2 rfl) ?_
            refine lv_aload_n hx hb dX12_wrong_75 rfl (lv_at hl 2 rfl) ?_
            refine va_get (D := (dC, dI)) (ci := 12) (v := .long h_allWeights_20) (C := RX12) (T := TX12) (N := 24) hx hb hts iw_m_wrong_X12 hown hK hP 1 rfl rfl 7 (by decide) (hts (.fieldLink RX12 151 "ThriceCountedModel" "allWeights" "J") (by decide +kernel)) (fun _ h9 => h9) rfl dX12_wrong_76 ?_
            refine lv_lload_n hx hb dX12_wrong_79 rfl (lv_at hl 0 rfl) ?_
            refine lv_lsub hx hb dX12_wrong_80 ?_
            refine lv_topl (fun x_38 _ => ?_)
            refine lv_aload_n hx hb dX12_wrong_81 rfl (lv_at hl 2 rfl) ?_
            refine va_get (D := (dC, dI)) (ci := 12) (v := .long h_allWeights_20) (C := RX12) (T := TX12) (N := 24) hx hb hts iw_m_wrong_X12 hown hK hP 1 rfl rfl 7 (by decide) (hts (.fieldLink RX12 151 "ThriceCountedModel" "allWeights" "J") (by decide +kernel)) (fun _ h9 => h9) rfl dX12_wrong_82 ?_
            have hPc := hP.sub (ws' := [(mo, .inr (12, [.ref nw, .ref kp, .ref ik, .ref mr, .long la_, .long lb_, .ref mw, .long h_allWeights_20, .int h_trulyIs_21, .int h_canBe_22, .long ld_, .long le_, .ref mq, .ref mz, .ref my, .int sm_, .ref mb, .int bl_, .int ta_, .int tl_, .int tk_, .int vl_, .ref mx, .ref mv]))]) [1] rfl
            have hDc := hD.sub (ws' := [(mo, .inr (12, [.ref nw, .ref kp, .ref ik, .ref mr, .long la_, .long lb_, .ref mw, .long h_allWeights_20, .int h_trulyIs_21, .int h_canBe_22, .long ld_, .long le_, .ref mq, .ref mz, .ref my, .int sm_, .ref mb, .int bl_, .int ta_, .int tl_, .int tk_, .int vl_, .ref mx, .ref mv]))]) [1] (by decide) rfl
            have hKc := hK.sub (tys' := []) [] rfl
            have hFc := va_free (wc := [(mo, .inr (12, [.ref nw, .ref kp, .ref ik, .ref mr, .long la_, .long lb_, .ref mw, .long h_allWeights_20, .int h_trulyIs_21, .int h_canBe_22, .long ld_, .long le_, .ref mq, .ref mz, .ref my, .int sm_, .ref mb, .int bl_, .int ta_, .int tl_, .int tk_, .int vl_, .ref mx, .ref mv]))]) hD hS hA [1] rfl
            refine va_callv (va_runV (As := [.long x_38, .long h_allWeights_20]) (rest := []) ⟨hx, hb, hml, hown, hts⟩ (m_fraction l dC dI mo nw kp ik mr la_ lb_ mw h_allWeights_20 h_trulyIs_21 h_canBe_22 ld_ le_ mq mz my sm_ mb bl_ ta_ tl_ tk_ vl_ mx mv x_38 h_allWeights_20 H.size (tz_cmp_ne c_25)) (cwV 2 hts gX12_wrong_X12_fraction rfl rfl rfl (by decide +kernel) ⟨Nat.le_of_ble_eq_true rfl, Nat.le_of_ble_eq_true rfl⟩) ⟨fun a U g mk q => by obtain ⟨q0, q1, qP, qK, qD⟩ := q; exact ⟨q0, q1, qP, va_K.moved (u := U) (U := U.calling g mk a) (Vm.Alike.refl U.vm) qK, qD⟩, va_recv hK hP (ci := 12) (q0 := 1) rfl rfl, fun U hU hW => ⟨rfl, by rw [hU], by rw [hU]; exact hPc, va_K.moved hW.alike hKc, hDc.weaken (fun _ _ _ _ => trivial)⟩⟩ rfl rfl hl.1 rfl (lv_room (Nat.le_of_ble_eq_true rfl)) dX12_wrong_85 ⟨Nat.le_of_ble_eq_true rfl, Nat.le_of_ble_eq_true rfl⟩) hS (fun q _ h => hFc q h) hFc (fun u_ t H1 locs ht hvm hw_40 hB hz1 hk1 hS => ?_)
            obtain ⟨h_above_41, h_below_42, hP1, hK1, hD1⟩ := hB
            rw [ht] at hP1
            have hK1 := va_K.moved hvm.symm hK1
            obtain ⟨hP, hD⟩ := va_join (wr := [(mr, .inl (cr_, 3, .inl fr_)), (nw, .inl (cn_, 350, .inl fn)), (mw, .inl (cw_, 21, .inr (.inl gw__23)))]) (w1 := [(mo, .inr (12, [.ref nw, .ref kp, .ref ik, .ref mr, .long h_above_41, .long h_below_42, .ref mw, .long h_allWeights_20, .int h_trulyIs_21, .int h_canBe_22, .long ld_, .long le_, .ref mq, .ref mz, .ref my, .int sm_, .ref mb, .int bl_, .int ta_, .int tl_, .int tk_, .int vl_, .ref mx, .ref mv]))]) hP hD [1] [0, 2, 3] rfl rfl (by decide) (by decide) hk1 hFc hP1 hD1
            generalize H1 = H at hP hS ⊢
            have hP : va_P (dC, dI) vwCl [(mr, .inl (cr_, 3, .inl fr_)), (nw, .inl (cn_, 350, .inl fn)), (mw, .inl (cw_, 21, .inr (.inl gw__23))), (mo, .inr (12, [.ref nw, .ref kp, .ref ik, .ref mr, .long h_above_41, .long h_below_42, .ref mw, .long h_allWeights_20, .int h_trulyIs_21, .int h_canBe_22, .long ld_, .long le_, .ref mq, .ref mz, .ref my, .int sm_, .ref mb, .int bl_, .int ta_, .int tl_, .int tk_, .int vl_, .ref mx, .ref mv]))] H := hP
            have hD : va_D A [(mr, .inl (cr_, 3, .inl fr_)), (nw, .inl (cn_, 350, .inl fn)), (mw, .inl (cw_, 21, .inr (.inl gw__23))), (mo, .inr (12, [.ref nw, .ref kp, .ref ik, .ref mr, .long h_above_41, .long h_below_42, .ref mw, .long h_allWeights_20, .int h_trulyIs_21, .int h_canBe_22, .long ld_, .long le_, .ref mq, .ref mz, .ref my, .int sm_, .ref mb, .int bl_, .int ta_, .int tl_, .int tk_, .int vl_, .ref mx, .ref mv]))] := hD
            refine lv_iconst (v := 1) hx hb dX12_wrong_88 (by decide) ?_
            have hP9 := hP.sub (ws' := [(mo, .inr (12, [.ref nw, .ref kp, .ref ik, .ref mr, .long h_above_41, .long h_below_42, .ref mw, .long h_allWeights_20, .int h_trulyIs_21, .int h_canBe_22, .long ld_, .long le_, .ref mq, .ref mz, .ref my, .int sm_, .ref mb, .int bl_, .int ta_, .int tl_, .int tk_, .int vl_, .ref mx, .ref mv])), (nw, .inl (cn_, 350, .inl fn)), (mw, .inl (cw_, 21, .inr (.inl gw__23))), (mr, .inl (cr_, 3, .inl fr_))]) [3, 1, 2, 0] rfl
            have hD9 := hD.sub (ws' := [(mo, .inr (12, [.ref nw, .ref kp, .ref ik, .ref mr, .long h_above_41, .long h_below_42, .ref mw, .long h_allWeights_20, .int h_trulyIs_21, .int h_canBe_22, .long ld_, .long le_, .ref mq, .ref mz, .ref my, .int sm_, .ref mb, .int bl_, .int ta_, .int tl_, .int tk_, .int vl_, .ref mx, .ref mv])), (nw, .inl (cn_, 350, .inl fn)), (mw, .inl (cw_, 21, .inr (.inl gw__23))), (mr, .inl (cr_, 3, .inl fr_))]) [3, 1, 2, 0] (by decide) rfl
            have hK9 := hK.sub (tys' := [(cn_, .int), (cw_, .long), (cr_, .int)]) [0, 1, 2] rfl
            exact W.iret (v := 1) hx hb hr (fun t ht hW => ⟨⟨1, (), rfl, trivial, h_allWeights_20, h_trulyIs_21, h_canBe_22, h_above_41, h_below_42, gw__23, fr_, by rw [ht]; exact hP9, va_K.moved hW.alike hK9, hD9⟩, hS.F ht⟩) hS.2.2 dX12_wrong_89
        · obtain rfl : 0 = r_30 := (hw_31.trans (if_neg (fun z => hc_32 ((tz_in64 (by first | rfl | decide) rfl (by first | rfl | decide)).mp z)))).symm
          refine lv_if_eq (tgt := 72) hx hb dX12_wrong_57 (by decide) (fun c_43 => ?_) (fun c_43 => ?_)
          · refine lv_lconst (v := 0) hx hb dX12_wrong_72 (by decide) ?_
            refine lv_lstore_n (lv' := [(3, .long 0), (2, .int r_28), (0, .ref mo), (1, .int (nI j_6))]) hx hb dX12_wrong_73 rfl hl (by decide) rfl (fun ls hl => ?_)
            refine lv_aload_n hx hb dX12_wrong_74 rfl (lv_at hl 2 rfl) ?_
            refine lv_aload_n hx hb dX12_wrong_75 rfl (lv_at hl 2 rfl) ?_
            refine va_get (D := (dC, dI)) (ci := 12) (v := .long h_allWeights_20) (C := RX12) (T := TX12) (N := 24) hx hb hts iw_m_wrong_X12 hown hK hP 1 rfl rfl 7 (by decide) (hts (.fieldLink RX12 151 "ThriceCountedModel" "allWeights" "J") (by decide +kernel)) (fun _ h9 => h9) rfl dX12_wrong_76 ?_
            refine lv_lload_n hx hb dX12_wrong_79 rfl (lv_at hl 0 rfl) ?_
            refine lv_lsub hx hb dX12_wrong_80 ?_
            refine lv_topl (fun x_44 _ => ?_)
            refine lv_aload_n hx hb dX12_wrong_81 rfl (lv_at hl 2 rfl) ?_
            refine va_get (D := (dC, dI)) (ci := 12) (v := .long h_allWeights_20) (C := RX12) (T := TX12) (N := 24) hx hb hts iw_m_wrong_X12 hown hK hP 1 rfl rfl 7 (by decide) (hts (.fieldLink RX12 151 "ThriceCountedModel" "allWeights" "J") (by decide +kernel)) (fun _ h9 => h9) rfl dX12_wrong_82 ?_
            have hPc := hP.sub (ws' := [(mo, .inr (12, [.ref nw, .ref kp, .ref ik, .ref mr, .long la_, .long lb_, .ref mw, .long h_allWeights_20, .int h_trulyIs_21, .int h_canBe_22, .long ld_, .long le_, .ref mq, .ref mz, .ref my, .int sm_, .ref mb, .int bl_, .int ta_, .int tl_, .int tk_, .int vl_, .ref mx, .ref mv]))]) [1] rfl
            have hDc := hD.sub (ws' := [(mo, .inr (12, [.ref nw, .ref kp, .ref ik, .ref mr, .long la_, .long lb_, .ref mw, .long h_allWeights_20, .int h_trulyIs_21, .int h_canBe_22, .long ld_, .long le_, .ref mq, .ref mz, .ref my, .int sm_, .ref mb, .int bl_, .int ta_, .int tl_, .int tk_, .int vl_, .ref mx, .ref mv]))]) [1] (by decide) rfl
            have hKc := hK.sub (tys' := []) [] rfl
            have hFc := va_free (wc := [(mo, .inr (12, [.ref nw, .ref kp, .ref ik, .ref mr, .long la_, .long lb_, .ref mw, .long h_allWeights_20, .int h_trulyIs_21, .int h_canBe_22, .long ld_, .long le_, .ref mq, .ref mz, .ref my, .int sm_, .ref mb, .int bl_, .int ta_, .int tl_, .int tk_, .int vl_, .ref mx, .ref mv]))]) hD hS hA [1] rfl
            refine va_callv (va_runV (As := [.long x_44, .long h_allWeights_20]) (rest := []) ⟨hx, hb, hml, hown, hts⟩ (m_fraction l dC dI mo nw kp ik mr la_ lb_ mw h_allWeights_20 h_trulyIs_21 h_canBe_22 ld_ le_ mq mz my sm_ mb bl_ ta_ tl_ tk_ vl_ mx mv x_44 h_allWeights_20 H.size (tz_cmp_ne c_25)) (cwV 2 hts gX12_wrong_X12_fraction rfl rfl rfl (by decide +kernel) ⟨Nat.le_of_ble_eq_true rfl, Nat.le_of_ble_eq_true rfl⟩) ⟨fun a U g mk q => by obtain ⟨q0, q1, qP, qK, qD⟩ := q; exact ⟨q0, q1, qP, va_K.moved (u := U) (U := U.calling g mk a) (Vm.Alike.refl U.vm) qK, qD⟩, va_recv hK hP (ci := 12) (q0 := 1) rfl rfl, fun U hU hW => ⟨rfl, by rw [hU], by rw [hU]; exact hPc, va_K.moved hW.alike hKc, hDc.weaken (fun _ _ _ _ => trivial)⟩⟩ rfl rfl hl.1 rfl (lv_room (Nat.le_of_ble_eq_true rfl)) dX12_wrong_85 ⟨Nat.le_of_ble_eq_true rfl, Nat.le_of_ble_eq_true rfl⟩) hS (fun q _ h => hFc q h) hFc (fun u_ t H1 locs ht hvm hw_46 hB hz1 hk1 hS => ?_)
            obtain ⟨h_above_47, h_below_48, hP1, hK1, hD1⟩ := hB
            rw [ht] at hP1
            have hK1 := va_K.moved hvm.symm hK1
            obtain ⟨hP, hD⟩ := va_join (wr := [(mr, .inl (cr_, 3, .inl fr_)), (nw, .inl (cn_, 350, .inl fn)), (mw, .inl (cw_, 21, .inr (.inl gw__23)))]) (w1 := [(mo, .inr (12, [.ref nw, .ref kp, .ref ik, .ref mr, .long h_above_47, .long h_below_48, .ref mw, .long h_allWeights_20, .int h_trulyIs_21, .int h_canBe_22, .long ld_, .long le_, .ref mq, .ref mz, .ref my, .int sm_, .ref mb, .int bl_, .int ta_, .int tl_, .int tk_, .int vl_, .ref mx, .ref mv]))]) hP hD [1] [0, 2, 3] rfl rfl (by decide) (by decide) hk1 hFc hP1 hD1
            generalize H1 = H at hP hS ⊢
            have hP : va_P (dC, dI) vwCl [(mr, .inl (cr_, 3, .inl fr_)), (nw, .inl (cn_, 350, .inl fn)), (mw, .inl (cw_, 21, .inr (.inl gw__23))), (mo, .inr (12, [.ref nw, .ref kp, .ref ik, .ref mr, .long h_above_47, .long h_below_48, .ref mw, .long h_allWeights_20, .int h_trulyIs_21, .int h_canBe_22, .long ld_, .long le_, .ref mq, .ref mz, .ref my, .int sm_, .ref mb, .int bl_, .int ta_, .int tl_, .int tk_, .int vl_, .ref mx, .ref mv]))] H := hP
            have hD : va_D A [(mr, .inl (cr_, 3, .inl fr_)), (nw, .inl (cn_, 350, .inl fn)), (mw, .inl (cw_, 21, .inr (.inl gw__23))), (mo, .inr (12, [.ref nw, .ref kp, .ref ik, .ref mr, .long h_above_47, .long h_below_48, .ref mw, .long h_allWeights_20, .int h_trulyIs_21, .int h_canBe_22, .long ld_, .long le_, .ref mq, .ref mz, .ref my, .int sm_, .ref mb, .int bl_, .int ta_, .int tl_, .int tk_, .int vl_, .ref mx, .ref mv]))] := hD
            refine lv_iconst (v := 1) hx hb dX12_wrong_88 (by decide) ?_
            have hP9 := hP.sub (ws' := [(mo, .inr (12, [.ref nw, .ref kp, .ref ik, .ref mr, .long h_above_47, .long h_below_48, .ref mw, .long h_allWeights_20, .int h_trulyIs_21, .int h_canBe_22, .long ld_, .long le_, .ref mq, .ref mz, .ref my, .int sm_, .ref mb, .int bl_, .int ta_, .int tl_, .int tk_, .int vl_, .ref mx, .ref mv])), (nw, .inl (cn_, 350, .inl fn)), (mw, .inl (cw_, 21, .inr (.inl gw__23))), (mr, .inl (cr_, 3, .inl fr_))]) [3, 1, 2, 0] rfl
            have hD9 := hD.sub (ws' := [(mo, .inr (12, [.ref nw, .ref kp, .ref ik, .ref mr, .long h_above_47, .long h_below_48, .ref mw, .long h_allWeights_20, .int h_trulyIs_21, .int h_canBe_22, .long ld_, .long le_, .ref mq, .ref mz, .ref my, .int sm_, .ref mb, .int bl_, .int ta_, .int tl_, .int tk_, .int vl_, .ref mx, .ref mv])), (nw, .inl (cn_, 350, .inl fn)), (mw, .inl (cw_, 21, .inr (.inl gw__23))), (mr, .inl (cr_, 3, .inl fr_))]) [3, 1, 2, 0] (by decide) rfl
            have hK9 := hK.sub (tys' := [(cn_, .int), (cw_, .long), (cr_, .int)]) [0, 1, 2] rfl
            exact W.iret (v := 1) hx hb hr (fun t ht hW => ⟨⟨1, (), rfl, trivial, h_allWeights_20, h_trulyIs_21, h_canBe_22, h_above_47, h_below_48, gw__23, fr_, by rw [ht]; exact hP9, va_K.moved hW.alike hK9, hD9⟩, hS.F ht⟩) hS.2.2 dX12_wrong_89
          · exact absurd c_43 (by decide)
      · refine lv_aload_n hx hb dX12_wrong_34 rfl (lv_at hl 0 rfl) ?_
        have hPc := hP.sub (ws' := [(mo, .inr (12, [.ref nw, .ref kp, .ref ik, .ref mr, .long la_, .long lb_, .ref mw, .long h_allWeights_20, .int h_trulyIs_21, .int h_canBe_22, .long ld_, .long le_, .ref mq, .ref mz, .ref my, .int sm_, .ref mb, .int bl_, .int ta_, .int tl_, .int tk_, .int vl_, .ref mx, .ref mv])), (mr, .inl (cr_, 3, .inl fr_))]) [1, 0] rfl
        have hDc := hD.sub (ws' := [(mo, .inr (12, [.ref nw, .ref kp, .ref ik, .ref mr, .long la_, .long lb_, .ref mw, .long h_allWeights_20, .int h_trulyIs_21, .int h_canBe_22, .long ld_, .long le_, .ref mq, .ref mz, .ref my, .int sm_, .ref mb, .int bl_, .int ta_, .int tl_, .int tk_, .int vl_, .ref mx, .ref mv])), (mr, .inl (cr_, 3, .inl fr_))]) [1, 0] (by decide) rfl
        have hKc := hK.sub (tys' := [(cr_, .int)]) [2] rfl
        have hFc := va_free (wc := [(mo, .inr (12, [.ref nw, .ref kp, .ref ik, .ref mr, .long la_, .long lb_, .ref mw, .long h_allWeights_20, .int h_trulyIs_21, .int h_canBe_22, .long ld_, .long le_, .ref mq, .ref mz, .ref my, .int sm_, .ref mb, .int bl_, .int ta_, .int tl_, .int tk_, .int vl_, .ref mx, .ref mv])), (mr, .inl (cr_, 3, .inl fr_))]) hD hS hA [1, 0] rfl
        refine va_calli (va_runV (As := []) (rest := []) ⟨hx, hb, hml, hown, hts⟩ (m_no l dC dI mo nw kp ik mr la_ lb_ mw h_allWeights_20 h_trulyIs_21 h_canBe_22 ld_ le_ mq mz my sm_ mb bl_ ta_ tl_ tk_ vl_ mx mv cr_ fr_ H.size) (cwV 0 hts gX12_wrong_X12_no rfl rfl rfl (by decide +kernel) ⟨Nat.le_of_ble_eq_true rfl, Nat.le_of_ble_eq_true rfl⟩) ⟨fun a U g mk q => by obtain ⟨q0, q1, qP, qK, qD⟩ := q; exact ⟨q0, q1, qP, va_K.moved (u := U) (U := U.calling g mk a) (Vm.Alike.refl U.vm) qK, qD⟩, va_recv hK hP (ci := 12) (q0 := 1) rfl rfl, fun U hU hW => ⟨rfl, by rw [hU], by rw [hU]; exact hPc, va_K.moved hW.alike hKc, hDc.weaken (fun _ _ _ _ => trivial)⟩⟩ rfl rfl hl.1 rfl (lv_room (Nat.le_of_ble_eq_true rfl)) dX12_wrong_35 ⟨Nat.le_of_ble_eq_true rfl, Nat.le_of_ble_eq_true rfl⟩) hS (fun q _ h => hFc q h) hFc (fun r_49 u_ t H1 locs ht hvm hw_50 hB hz1 hk1 hS => ?_)
        obtain ⟨gr__51, hP1, hK1, hD1⟩ := hB
        rw [ht] at hP1
        have hK1 := va_K.moved hvm.symm hK1
        obtain ⟨hP, hD⟩ := va_join (wr := [(nw, .inl (cn_, 350, .inl fn)), (mw, .inl (cw_, 21, .inr (.inl gw__23)))]) (w1 := [(mo, .inr (12, [.ref nw, .ref kp, .ref ik, .ref mr, .long la_, .long lb_, .ref mw, .long h_allWeights_20, .int h_trulyIs_21, .int h_canBe_22, .long ld_, .long le_, .ref mq, .ref mz, .ref my, .int sm_, .ref mb, .int bl_, .int ta_, .int tl_, .int tk_, .int vl_, .ref mx, .ref mv])), (mr, .inl (cr_, 3, .inl gr__51))]) hP hD [1, 0] [2, 3] rfl rfl (by decide) (by decide) hk1 hFc hP1 hD1
        generalize H1 = H at hP hS ⊢
        have hP : va_P (dC, dI) vwCl [(nw, .inl (cn_, 350, .inl fn)), (mw, .inl (cw_, 21, .inr (.inl gw__23))), (mo, .inr (12, [.ref nw, .ref kp, .ref ik, .ref mr, .long la_, .long lb_, .ref mw, .long h_allWeights_20, .int h_trulyIs_21, .int h_canBe_22, .long ld_, .long le_, .ref mq, .ref mz, .ref my, .int sm_, .ref mb, .int bl_, .int ta_, .int tl_, .int tk_, .int vl_, .ref mx, .ref mv])), (mr, .inl (cr_, 3, .inl gr__51))] H := hP
        have hD : va_D A [(nw, .inl (cn_, 350, .inl fn)), (mw, .inl (cw_, 21, .inr (.inl gw__23))), (mo, .inr (12, [.ref nw, .ref kp, .ref ik, .ref mr, .long la_, .long lb_, .ref mw, .long h_allWeights_20, .int h_trulyIs_21, .int h_canBe_22, .long ld_, .long le_, .ref mq, .ref mz, .ref my, .int sm_, .ref mb, .int bl_, .int ta_, .int tl_, .int tk_, .int vl_, .ref mx, .ref mv])), (mr, .inl (cr_, 3, .inl gr__51))] := hD
        obtain rfl : (-3) = r_49 := hw_50.symm
        have hP9 := hP.sub (ws' := [(mo, .inr (12, [.ref nw, .ref kp, .ref ik, .ref mr, .long la_, .long lb_, .ref mw, .long h_allWeights_20, .int h_trulyIs_21, .int h_canBe_22, .long ld_, .long le_, .ref mq, .ref mz, .ref my, .int sm_, .ref mb, .int bl_, .int ta_, .int tl_, .int tk_, .int vl_, .ref mx, .ref mv])), (nw, .inl (cn_, 350, .inl fn)), (mw, .inl (cw_, 21, .inr (.inl gw__23))), (mr, .inl (cr_, 3, .inl gr__51))]) [2, 0, 1, 3] rfl
        have hD9 := hD.sub (ws' := [(mo, .inr (12, [.ref nw, .ref kp, .ref ik, .ref mr, .long la_, .long lb_, .ref mw, .long h_allWeights_20, .int h_trulyIs_21, .int h_canBe_22, .long ld_, .long le_, .ref mq, .ref mz, .ref my, .int sm_, .ref mb, .int bl_, .int ta_, .int tl_, .int tk_, .int vl_, .ref mx, .ref mv])), (nw, .inl (cn_, 350, .inl fn)), (mw, .inl (cw_, 21, .inr (.inl gw__23))), (mr, .inl (cr_, 3, .inl gr__51))]) [2, 0, 1, 3] (by decide) rfl
        have hK9 := hK.sub (tys' := [(cn_, .int), (cw_, .long), (cr_, .int)]) [0, 1, 2] rfl
        exact W.iret (v := (-3)) hx hb hr (fun t ht hW => ⟨⟨(-3), (), rfl, trivial, h_allWeights_20, h_trulyIs_21, h_canBe_22, la_, lb_, gw__23, gr__51, by rw [ht]; exact hP9, va_K.moved hW.alike hK9, hD9⟩, hS.F ht⟩) hS.2.2 dX12_wrong_38
    · exact absurd c_11 (by decide)
  · obtain rfl : 0 = r_3 := (hw_4.trans (if_neg hc_5)).symm
    refine lv_if_ne (tgt := 15) hx hb dX12_wrong_5 (by decide) (fun c_52 => ?_) (fun c_52 => ?_)
    · exact absurd c_52 (by decide)
    · refine lv_aload_n hx hb dX12_wrong_8 rfl (lv_at hl 0 rfl) ?_
      refine lv_bipush (v := (-2)) hx hb dX12_wrong_9 (by decide) ?_
      have hPc := hP.sub (ws' := [(mo, .inr (12, [.ref nw, .ref kp, .ref ik, .ref mr, .long la_, .long lb_, .ref mw, .long lc_, .int ti_, .int cb_, .long ld_, .long le_, .ref mq, .ref mz, .ref my, .int sm_, .ref mb, .int bl_, .int ta_, .int tl_, .int tk_, .int vl_, .ref mx, .ref mv])), (mr, .inl (cr_, 3, .inl fr_))]) [0, 3] rfl
      have hDc := hD.sub (ws' := [(mo, .inr (12, [.ref nw, .ref kp, .ref ik, .ref mr, .long la_, .long lb_, .ref mw, .long lc_, .int ti_, .int cb_, .long ld_, .long le_, .ref mq, .ref mz, .ref my, .int sm_, .ref mb, .int bl_, .int ta_, .int tl_, .int tk_, .int vl_, .ref mx, .ref mv])), (mr, .inl (cr_, 3, .inl fr_))]) [0, 3] (by decide) rfl
      have hKc := hK.sub (tys' := [(cr_, .int)]) [2] rfl
      have hFc := va_free (wc := [(mo, .inr (12, [.ref nw, .ref kp, .ref ik, .ref mr, .long la_, .long lb_, .ref mw, .long lc_, .int ti_, .int cb_, .long ld_, .long le_, .ref mq, .ref mz, .ref my, .int sm_, .ref mb, .int bl_, .int ta_, .int tl_, .int tk_, .int vl_, .ref mx, .ref mv])), (mr, .inl (cr_, 3, .inl fr_))]) hD hS hA [0, 3] rfl
      refine va_calli (va_runV (As := [.int (-2)]) (rest := []) ⟨hx, hb, hml, hown, hts⟩ (m_bad l dC dI mo nw kp ik mr la_ lb_ mw lc_ ti_ cb_ ld_ le_ mq mz my sm_ mb bl_ ta_ tl_ tk_ vl_ mx mv cr_ fr_ (-2) s.heap.size) (cwV 1 hts gX12_wrong_X12_bad rfl rfl rfl (by decide +kernel) ⟨Nat.le_of_ble_eq_true rfl, Nat.le_of_ble_eq_true rfl⟩) ⟨fun a U g mk q => by obtain ⟨q0, q1, qP, qK, qD⟩ := q; exact ⟨q0, q1, qP, va_K.moved (u := U) (U := U.calling g mk a) (Vm.Alike.refl U.vm) qK, qD⟩, va_recv hK hP (ci := 12) (q0 := 0) rfl rfl, fun U hU hW => ⟨rfl, by rw [hU], by rw [hU]; exact hPc, va_K.moved hW.alike hKc, hDc.weaken (fun _ _ _ _ => trivial)⟩⟩ rfl rfl hl.1 rfl (lv_room (Nat.le_of_ble_eq_true rfl)) dX12_wrong_11 ⟨Nat.le_of_ble_eq_true rfl, Nat.le_of_ble_eq_true rfl⟩) hS (fun q _ h => hFc q h) hFc (fun r_53 u_ t H1 locs ht hvm hw_54 hB hz1 hk1 hS => ?_)
      obtain ⟨gr__55, hP1, hK1, hD1⟩ := hB
      rw [ht] at hP1
      have hK1 := va_K.moved hvm.symm hK1
      obtain ⟨hP, hD⟩ := va_join (wr := [(nw, .inl (cn_, 350, .inl fn)), (mw, .inl (cw_, 21, .inr (.inl fw_)))]) (w1 := [(mo, .inr (12, [.ref nw, .ref kp, .ref ik, .ref mr, .long la_, .long lb_, .ref mw, .long lc_, .int ti_, .int cb_, .long ld_, .long le_, .ref mq, .ref mz, .ref my, .int sm_, .ref mb, .int bl_, .int ta_, .int tl_, .int tk_, .int vl_, .ref mx, .ref mv])), (mr, .inl (cr_, 3, .inl gr__55))]) hP hD [0, 3] [1, 2] rfl rfl (by decide) (by decide) hk1 hFc hP1 hD1
      generalize H1 = H at hP hS ⊢
      have hP : va_P (dC, dI) vwCl [(nw, .inl (cn_, 350, .inl fn)), (mw, .inl (cw_, 21, .inr (.inl fw_))), (mo, .inr (12, [.ref nw, .ref kp, .ref ik, .ref mr, .long la_, .long lb_, .ref mw, .long lc_, .int ti_, .int cb_, .long ld_, .long le_, .ref mq, .ref mz, .ref my, .int sm_, .ref mb, .int bl_, .int ta_, .int tl_, .int tk_, .int vl_, .ref mx, .ref mv])), (mr, .inl (cr_, 3, .inl gr__55))] H := hP
      have hD : va_D A [(nw, .inl (cn_, 350, .inl fn)), (mw, .inl (cw_, 21, .inr (.inl fw_))), (mo, .inr (12, [.ref nw, .ref kp, .ref ik, .ref mr, .long la_, .long lb_, .ref mw, .long lc_, .int ti_, .int cb_, .long ld_, .long le_, .ref mq, .ref mz, .ref my, .int sm_, .ref mb, .int bl_, .int ta_, .int tl_, .int tk_, .int vl_, .ref mx, .ref mv])), (mr, .inl (cr_, 3, .inl gr__55))] := hD
      obtain rfl : (-2) = r_53 := hw_54.symm
      have hP9 := hP.sub (ws' := [(mo, .inr (12, [.ref nw, .ref kp, .ref ik, .ref mr, .long la_, .long lb_, .ref mw, .long lc_, .int ti_, .int cb_, .long ld_, .long le_, .ref mq, .ref mz, .ref my, .int sm_, .ref mb, .int bl_, .int ta_, .int tl_, .int tk_, .int vl_, .ref mx, .ref mv])), (nw, .inl (cn_, 350, .inl fn)), (mw, .inl (cw_, 21, .inr (.inl fw_))), (mr, .inl (cr_, 3, .inl gr__55))]) [2, 0, 1, 3] rfl
      have hD9 := hD.sub (ws' := [(mo, .inr (12, [.ref nw, .ref kp, .ref ik, .ref mr, .long la_, .long lb_, .ref mw, .long lc_, .int ti_, .int cb_, .long ld_, .long le_, .ref mq, .ref mz, .ref my, .int sm_, .ref mb, .int bl_, .int ta_, .int tl_, .int tk_, .int vl_, .ref mx, .ref mv])), (nw, .inl (cn_, 350, .inl fn)), (mw, .inl (cw_, 21, .inr (.inl fw_))), (mr, .inl (cr_, 3, .inl gr__55))]) [2, 0, 1, 3] (by decide) rfl
      have hK9 := hK.sub (tys' := [(cn_, .int), (cw_, .long), (cr_, .int)]) [0, 1, 2] rfl
      exact W.iret (v := (-2)) hx hb hr (fun t ht hW => ⟨⟨(-2), (), rfl, trivial, lc_, ti_, cb_, la_, lb_, fw_, gr__55, by rw [ht]; exact hP9, va_K.moved hW.alike hK9, hD9⟩, hS.F ht⟩) hS.2.2 dX12_wrong_14
set_option maxRecDepth 20000 in
theorem ggX12_scoreOf_X12_countHas : GoodIn wsX12_scoreOf wsX12_countHas := goodIn_r _ [7, 1, 40, 41, 42, 43, 44, 45, 46, 47, 48, 49, 50, 51, 52, 53, 54, 55, 56, 57, 58, 59, 60, 61, 62, 63] (by decide +kernel) (by decide +kernel)
set_option maxRecDepth 20000 in
theorem gX12_scoreOf_X12_countHas : GoodIn wsX12_scoreOf (wsV RX12 143 RX12 yX12_countHas wsX12_countHas) := goodIn_app (goodIn_of _ (by decide +kernel)) ggX12_scoreOf_X12_countHas
set_option maxRecDepth 20000 in
theorem ggX12_scoreOf_X12_weigh : GoodIn wsX12_scoreOf wsX12_weigh := goodIn_r _ [11, 12, 2, 13, 14, 15, 16, 17, 6, 18, 1, 19, 20, 21, 22, 23, 24, 25, 3, 4, 5, 7, 26, 27, 28, 29, 30, 31, 32, 33, 34, 35, 36, 37, 38, 39, 40, 41, 42, 43, 44, 45, 46, 47, 48, 49, 50, 51, 52, 53, 54, 55, 56, 57, 58, 59, 60, 61, 62, 63] (by decide +kernel) (by decide +kernel)
set_option maxRecDepth 20000 in
theorem gX12_scoreOf_X12_weigh : GoodIn wsX12_scoreOf (wsV RX12 165 RX12 yX12_weigh wsX12_weigh) := goodIn_app (goodIn_of _ (by decide +kernel)) ggX12_scoreOf_X12_weigh
theorem dX12_scoreOf_0 : decode cX12_scoreOf 0 = .ok (.iconst 0, 1) := by decide +kernel
theorem dX12_scoreOf_1 : decode cX12_scoreOf 1 = .ok (.istore_n 2, 1) := by decide +kernel
theorem dX12_scoreOf_2 : decode cX12_scoreOf 2 = .ok (.iconst 0, 1) := by decide +kernel
theorem dX12_scoreOf_3 : decode cX12_scoreOf 3 = .ok (.istore_n 3, 1) := by decide +kernel
theorem dX12_scoreOf_4 : decode cX12_scoreOf 4 = .ok (.iload_n 3, 1) := by decide +kernel
theorem dX12_scoreOf_5 : decode cX12_scoreOf 5 = .ok (.aload_n 0, 1) := by decide +kernel
theorem dX12_scoreOf_6 : decode cX12_scoreOf 6 = .ok (.getfield 7, 3) := by decide +kernel
theorem dX12_scoreOf_9 : decode cX12_scoreOf 9 = .ok (.iconst 2, 1) := by decide +kernel
theorem dX12_scoreOf_10 : decode cX12_scoreOf 10 = .ok (.iaload, 1) := by decide +kernel
theorem dX12_scoreOf_11 : decode cX12_scoreOf 11 = .ok (.if_icmp .ge 50, 3) := by decide +kernel
theorem dX12_scoreOf_14 : decode cX12_scoreOf 14 = .ok (.aload_n 0, 1) := by decide +kernel
theorem dX12_scoreOf_15 : decode cX12_scoreOf 15 = .ok (.iload_n 3, 1) := by decide +kernel
theorem dX12_scoreOf_16 : decode cX12_scoreOf 16 = .ok (.iconst 2, 1) := by decide +kernel
theorem dX12_scoreOf_17 : decode cX12_scoreOf 17 = .ok (.invokevirtual 143, 3) := by decide +kernel
theorem dX12_scoreOf_20 : decode cX12_scoreOf 20 = .ok (.iload_n 1, 1) := by decide +kernel
theorem dX12_scoreOf_21 : decode cX12_scoreOf 21 = .ok (.if_icmp .ne 34, 3) := by decide +kernel
theorem dX12_scoreOf_55 : decode cX12_scoreOf 55 = .ok (.iinc 3 1, 3) := by decide +kernel
theorem dX12_scoreOf_58 : decode cX12_scoreOf 58 = .ok (.goto (-54), 3) := by decide +kernel
theorem dX12_scoreOf_24 : decode cX12_scoreOf 24 = .ok (.aload_n 0, 1) := by decide +kernel
theorem dX12_scoreOf_25 : decode cX12_scoreOf 25 = .ok (.aload_n 0, 1) := by decide +kernel
theorem dX12_scoreOf_26 : decode cX12_scoreOf 26 = .ok (.iload_n 3, 1) := by decide +kernel
theorem dX12_scoreOf_27 : decode cX12_scoreOf 27 = .ok (.iconst 0, 1) := by decide +kernel
theorem dX12_scoreOf_28 : decode cX12_scoreOf 28 = .ok (.invokevirtual 143, 3) := by decide +kernel
theorem dX12_scoreOf_31 : decode cX12_scoreOf 31 = .ok (.invokevirtual 165, 3) := by decide +kernel
theorem dX12_scoreOf_34 : decode cX12_scoreOf 34 = .ok (.iload_n 2, 1) := by decide +kernel
theorem dX12_scoreOf_35 : decode cX12_scoreOf 35 = .ok (.aload_n 0, 1) := by decide +kernel
theorem dX12_scoreOf_36 : decode cX12_scoreOf 36 = .ok (.iload_n 3, 1) := by decide +kernel
theorem dX12_scoreOf_37 : decode cX12_scoreOf 37 = .ok (.iconst 3, 1) := by decide +kernel
theorem dX12_scoreOf_38 : decode cX12_scoreOf 38 = .ok (.invokevirtual 143, 3) := by decide +kernel
theorem dX12_scoreOf_41 : decode cX12_scoreOf 41 = .ok (.aload_n 0, 1) := by decide +kernel
theorem dX12_scoreOf_42 : decode cX12_scoreOf 42 = .ok (.getfield 154, 3) := by decide +kernel
theorem dX12_scoreOf_45 : decode cX12_scoreOf 45 = .ok (.if_icmp .ne 7, 3) := by decide +kernel
theorem dX12_scoreOf_52 : decode cX12_scoreOf 52 = .ok (.iconst (-1), 1) := by decide +kernel
theorem dX12_scoreOf_53 : decode cX12_scoreOf 53 = .ok (.iadd, 1) := by decide +kernel
theorem dX12_scoreOf_54 : decode cX12_scoreOf 54 = .ok (.istore_n 2, 1) := by decide +kernel
theorem dX12_scoreOf_48 : decode cX12_scoreOf 48 = .ok (.iconst 1, 1) := by decide +kernel
theorem dX12_scoreOf_49 : decode cX12_scoreOf 49 = .ok (.goto 4, 3) := by decide +kernel
theorem dX12_scoreOf_61 : decode cX12_scoreOf 61 = .ok (.iload_n 2, 1) := by decide +kernel
theorem dX12_scoreOf_62 : decode cX12_scoreOf 62 = .ok (.ireturn, 1) := by decide +kernel
set_option maxRecDepth 20000 in
theorem iw_m_scoreOf_X12 : ∀ w ∈ wsX120, w ∈ wsX12_scoreOf := by decide +kernel
set_option maxHeartbeats 4000000 in
set_option maxRecDepth 100000 in
theorem m_scoreOf (l : Launch) (dC : Nat → ClassId) (dI : Nat → Nat → Nat) (mo : Nat) (nw : Nat) (kp : Nat) (ik : Nat) (mr : Nat) (la_ : Int64) (lb_ : Int64) (mw : Nat) (lc_ : Int64) (ti_ : Int32) (cb_ : Int32) (ld_ : Int64) (le_ : Int64) (mq : Nat) (mz : Nat) (my : Nat) (sm_ : Int32) (mb : Nat) (bl_ : Int32) (ta_ : Int32) (tl_ : Int32) (tk_ : Int32) (vl_ : Int32) (mx : Nat) (mv : Nat) (cn_ : ClassId) (fn : Nat → Int32) (cw_ : ClassId) (fw_ : Nat → Int64) (na : Int32) (sz : Nat) (hOn : tz_OK 350 fn) : Met l yX12_scoreOf wsX12_scoreOf ({ frames := 5, cells := 0, slots := 0, locals := 121 }) (va_Pc [.ref mo, .int na] (fun U => U.heap.size = sz ∧ va_P (dC, dI) vwCl [(mo, .inr (12, [.ref nw, .ref kp, .ref ik, .ref mr, .long la_, .long lb_, .ref mw, .long lc_, .int ti_, .int cb_, .long ld_, .long le_, .ref mq, .ref mz, .ref my, .int sm_, .ref mb, .int bl_, .int ta_, .int tl_, .int tk_, .int vl_, .ref mx, .ref mv])), (nw, .inl (cn_, 350, .inl fn)), (mw, .inl (cw_, 21, .inr (.inl fw_)))] U.heap ∧ va_K (dC, dI) vwCl [(cn_, .int), (cw_, .long)] U ∧ va_D (fun _ => True) [(mo, .inr (12, [.ref nw, .ref kp, .ref ik, .ref mr, .long la_, .long lb_, .ref mw, .long lc_, .int ti_, .int cb_, .long ld_, .long le_, .ref mq, .ref mz, .ref my, .int sm_, .ref mb, .int bl_, .int ta_, .int tl_, .int tk_, .int vl_, .ref mx, .ref mv])), (nw, .inl (cn_, 350, .inl fn)), (mw, .inl (cw_, 21, .inr (.inl fw_)))])) (va_Qi (fun (r : Int32) (_ : Unit) => True) (fun _ t => ∃ (h_allWeights : Int64) (h_trulyIs : Int32) (h_canBe : Int32) (gw_ : Nat → Int64), va_P (dC, dI) vwCl [(mo, .inr (12, [.ref nw, .ref kp, .ref ik, .ref mr, .long la_, .long lb_, .ref mw, .long h_allWeights, .int h_trulyIs, .int h_canBe, .long ld_, .long le_, .ref mq, .ref mz, .ref my, .int sm_, .ref mb, .int bl_, .int ta_, .int tl_, .int tk_, .int vl_, .ref mx, .ref mv])), (nw, .inl (cn_, 350, .inl fn)), (mw, .inl (cw_, 21, .inr (.inl gw_)))] t.heap ∧ va_K (dC, dI) vwCl [(cn_, .int), (cw_, .long)] t ∧ va_D (va_A [(mo, .inr (12, [.ref nw, .ref kp, .ref ik, .ref mr, .long la_, .long lb_, .ref mw, .long lc_, .int ti_, .int cb_, .long ld_, .long le_, .ref mq, .ref mz, .ref my, .int sm_, .ref mb, .int bl_, .int ta_, .int tl_, .int tk_, .int vl_, .ref mx, .ref mv])), (nw, .inl (cn_, 350, .inl fn)), (mw, .inl (cw_, 21, .inr (.inl fw_)))] sz) [(mo, .inr (12, [.ref nw, .ref kp, .ref ik, .ref mr, .long la_, .long lb_, .ref mw, .long h_allWeights, .int h_trulyIs, .int h_canBe, .long ld_, .long le_, .ref mq, .ref mz, .ref my, .int sm_, .ref mb, .int bl_, .int ta_, .int tl_, .int tk_, .int vl_, .ref mx, .ref mv])), (nw, .inl (cn_, 350, .inl fn)), (mw, .inl (cw_, 21, .inr (.inl gw_)))]) (va_A [(mo, .inr (12, [.ref nw, .ref kp, .ref ik, .ref mr, .long la_, .long lb_, .ref mw, .long lc_, .int ti_, .int cb_, .long ld_, .long le_, .ref mq, .ref mz, .ref my, .int sm_, .ref mb, .int bl_, .int ta_, .int tl_, .int tk_, .int vl_, .ref mx, .ref mv])), (nw, .inl (cn_, 350, .inl fn)), (mw, .inl (cw_, 21, .inr (.inl fw_)))] sz)) 0 0 (va_A [(mo, .inr (12, [.ref nw, .ref kp, .ref ik, .ref mr, .long la_, .long lb_, .ref mw, .long lc_, .int ti_, .int cb_, .long ld_, .long le_, .ref mq, .ref mz, .ref my, .int sm_, .ref mb, .int bl_, .int ta_, .int tl_, .int tk_, .int vl_, .ref mx, .ref mv])), (nw, .inl (cn_, 350, .inl fn)), (mw, .inl (cw_, 21, .inr (.inl fw_)))] sz) := by
  refine Met.ofW (cc := cX12_scoreOf) (maxL := 4) (ret := (some .int)) (by decide) rfl ?_
  intro p e s m args below meth c s₁ B hml hv
  obtain ⟨rfl, hsz, hP, hK, hD0⟩ := hv
  have hx := B.exec
  have hb := B.bytes
  have hr := B.returns
  have hts := atoms_spec (ws := wsX12_scoreOf) B.pre
  have hown : s.vm.findClass RX12 = some m.cls := findClass_of_methodNamed B.named
  have hlocks := B.notSynchronized
  subst hsz
  have hD := hD0.self (sz := s.heap.size)
  generalize hAe : va_A [(mo, .inr (12, [.ref nw, .ref kp, .ref ik, .ref mr, .long la_, .long lb_, .ref mw, .long lc_, .int ti_, .int cb_, .long ld_, .long le_, .ref mq, .ref mz, .ref my, .int sm_, .ref mb, .int bl_, .int ta_, .int tl_, .int tk_, .int vl_, .ref mx, .ref mv])), (nw, .inl (cn_, 350, .inl fn)), (mw, .inl (cw_, 21, .inr (.inl fw_)))] s.heap.size = A at hD ⊢
  have hA : ∀ q : Nat, s.heap.size ≤ q → A q := fun q h => by rw [← hAe]; exact Or.inr h
  have hS : va_S A s.heap s.heap [] := va_S.rf
  have hP : va_P (dC, dI) vwCl [(mo, .inr (12, [.ref nw, .ref kp, .ref ik, .ref mr, .long la_, .long lb_, .ref mw, .long lc_, .int ti_, .int cb_, .long ld_, .long le_, .ref mq, .ref mz, .ref my, .int sm_, .ref mb, .int bl_, .int ta_, .int tl_, .int tk_, .int vl_, .ref mx, .ref mv])), (nw, .inl (cn_, 350, .inl fn)), (mw, .inl (cw_, 21, .inr (.inl fw_)))] s.heap := hP
  have hl := lv_entry ([.ref mo, .int na]) (n := 4) (Nat.le_of_ble_eq_true rfl)
  rw [lg_entry_eq]
  generalize (lg_sl ([.ref mo, .int na]) ++ List.replicate (4 - (lg_sl ([.ref mo, .int na])).length) Slot.unset).toArray = ls at hl ⊢
  have hl : lv_has ls 4 [(0, .ref mo), (1, .int na)] := hl
  refine lv_iconst (v := 0) hx hb dX12_scoreOf_0 (by decide) ?_
  refine lv_istore_n (lv' := [(2, .int 0), (0, .ref mo), (1, .int na)]) hx hb dX12_scoreOf_1 rfl hl (by decide) rfl (fun ls hl => ?_)
  refine lv_iconst (v := 0) hx hb dX12_scoreOf_2 (by decide) ?_
  refine lv_istore_n (lv' := [(3, .int 0), (2, .int 0), (0, .ref mo), (1, .int na)]) hx hb dX12_scoreOf_3 rfl hl (by decide) rfl (fun ls hl => ?_)
  refine tz_while (σ := Nat × Int32 × Int64 × Int32 × Int32 × (Nat → Int64) × Heap × List Loc × Array Slot) (fun x => W p l e _ s m _ below meth c x.2.2.2.2.2.2.1 x.2.2.2.2.2.2.2.1 _ _ _ (F0 m 4 x.2.2.2.2.2.2.2.2 [])) (fun x => x.1 ≤ 8 ∧ va_P (dC, dI) vwCl [(mo, .inr (12, [.ref nw, .ref kp, .ref ik, .ref mr, .long la_, .long lb_, .ref mw, .long x.2.2.1, .int x.2.2.2.1, .int x.2.2.2.2.1, .long ld_, .long le_, .ref mq, .ref mz, .ref my, .int sm_, .ref mb, .int bl_, .int ta_, .int tl_, .int tk_, .int vl_, .ref mx, .ref mv])), (nw, .inl (cn_, 350, .inl fn)), (mw, .inl (cw_, 21, .inr (.inl x.2.2.2.2.2.1)))] x.2.2.2.2.2.2.1 ∧ va_D A [(mo, .inr (12, [.ref nw, .ref kp, .ref ik, .ref mr, .long la_, .long lb_, .ref mw, .long x.2.2.1, .int x.2.2.2.1, .int x.2.2.2.2.1, .long ld_, .long le_, .ref mq, .ref mz, .ref my, .int sm_, .ref mb, .int bl_, .int ta_, .int tl_, .int tk_, .int vl_, .ref mx, .ref mv])), (nw, .inl (cn_, 350, .inl fn)), (mw, .inl (cw_, 21, .inr (.inl x.2.2.2.2.2.1)))] ∧ va_S A s.heap x.2.2.2.2.2.2.1 x.2.2.2.2.2.2.2.1 ∧ lv_has x.2.2.2.2.2.2.2.2 4 [(3, .int (nI x.1)), (2, .int x.2.1), (0, .ref mo), (1, .int na)]) (fun x => 8 - x.1) ?_ (0, 0, lc_, ti_, cb_, fw_, s.heap, [], ls) ⟨by (try dsimp only); omega, hP, hD, hS, hl⟩
  rintro ⟨k_1, v_31, v_32, v_33, v_34, f_35, H, locs, ls⟩ ⟨hi_67_0, hP, hD, hS, hl⟩ ih_68
  dsimp only at hi_67_0 hP hD hS hl ih_68 ⊢
  refine lv_iload_n hx hb dX12_scoreOf_4 rfl (lv_at hl 0 rfl) ?_
  refine lv_aload_n hx hb dX12_scoreOf_5 rfl (lv_at hl 2 rfl) ?_
  refine va_get (D := (dC, dI)) (ci := 12) (v := .ref nw) (C := RX12) (T := TX12) (N := 24) hx hb hts iw_m_scoreOf_X12 hown hK hP 0 rfl rfl 0 (by decide) (hts (.fieldLink RX12 7 "ThriceCountedModel" "now" "[I") (by decide +kernel)) (fun _ h9 => h9) rfl dX12_scoreOf_6 ?_
  refine lv_iconst (v := 2) hx hb dX12_scoreOf_9 (by decide) ?_
  refine va_iald hx hb hK hP 1 0 rfl rfl (show ¬ ((2 : Int32) < 0 ∨ 350 ≤ (2 : Int32).toNatClampNeg) by decide) dX12_scoreOf_10 ?_
  obtain ⟨j_69, hj_70, ej_71⟩ := hOn.nat (K := 2) (n := 8) (by omega) (show tz_b 2 = (0, 8) from by decide)
  refine tz_i (nI j_69) ej_71 ?_
  refine lv_icmp_ge (tgt := 61) hx hb dX12_scoreOf_11 (by decide) (fun c_72 => ?_) (fun c_72 => ?_)
  · have hn_73 : j_69 ≤ k_1 := (nI_leI (a := j_69) (b := k_1) (by omega) (by omega)).mp c_72
    refine lv_iload_n hx hb dX12_scoreOf_61 rfl (lv_at hl 1 rfl) ?_
    have hP9 := hP.sub (ws' := [(mo, .inr (12, [.ref nw, .ref kp, .ref ik, .ref mr, .long la_, .long lb_, .ref mw, .long v_32, .int v_33, .int v_34, .long ld_, .long le_, .ref mq, .ref mz, .ref my, .int sm_, .ref mb, .int bl_, .int ta_, .int tl_, .int tk_, .int vl_, .ref mx, .ref mv])), (nw, .inl (cn_, 350, .inl fn)), (mw, .inl (cw_, 21, .inr (.inl f_35)))]) [0, 1, 2] rfl
    have hD9 := hD.sub (ws' := [(mo, .inr (12, [.ref nw, .ref kp, .ref ik, .ref mr, .long la_, .long lb_, .ref mw, .long v_32, .int v_33, .int v_34, .long ld_, .long le_, .ref mq, .ref mz, .ref my, .int sm_, .ref mb, .int bl_, .int ta_, .int tl_, .int tk_, .int vl_, .ref mx, .ref mv])), (nw, .inl (cn_, 350, .inl fn)), (mw, .inl (cw_, 21, .inr (.inl f_35)))]) [0, 1, 2] (by decide) rfl
    have hK9 := hK.sub (tys' := [(cn_, .int), (cw_, .long)]) [0, 1] rfl
    exact W.iret (v := v_31) hx hb hr (fun t ht hW => ⟨⟨v_31, (), rfl, trivial, v_32, v_33, v_34, f_35, by rw [ht]; exact hP9, va_K.moved hW.alike hK9, hD9⟩, hS.F ht⟩) hS.2.2 dX12_scoreOf_62
  · have hn_74 : ¬ j_69 ≤ k_1 := fun q => c_72 ((nI_leI (a := j_69) (b := k_1) (by omega) (by omega)).mpr q)
    refine lv_aload_n hx hb dX12_scoreOf_14 rfl (lv_at hl 2 rfl) ?_
    refine lv_iload_n hx hb dX12_scoreOf_15 rfl (lv_at hl 0 rfl) ?_
    refine lv_iconst (v := 2) hx hb dX12_scoreOf_16 (by decide) ?_
    have hPc_75 := hP.sub (ws' := [(mo, .inr (12, [.ref nw, .ref kp, .ref ik, .ref mr, .long la_, .long lb_, .ref mw, .long v_32, .int v_33, .int v_34, .long ld_, .long le_, .ref mq, .ref mz, .ref my, .int sm_, .ref mb, .int bl_, .int ta_, .int tl_, .int tk_, .int vl_, .ref mx, .ref mv])), (nw, .inl (cn_, 350, .inl fn))]) [0, 1] rfl
    have hKc_76 := hK.sub (tys' := [(cn_, .int)]) [0] rfl
    refine vp_callSi (va_Run.run (va_runV (As := [.int (nI k_1), .int 2]) (rest := []) ⟨hx, hb, hml, hown, hts⟩ (m_countHas2 l dC dI mo nw kp ik mr la_ lb_ mw v_32 v_33 v_34 ld_ le_ mq mz my sm_ mb bl_ ta_ tl_ tk_ vl_ mx mv cn_ fn k_1 hOn (by omega)) (cwV 2 hts gX12_scoreOf_X12_countHas rfl rfl rfl (by decide +kernel) ⟨Nat.le_of_ble_eq_true rfl, Nat.le_of_ble_eq_true rfl⟩) ⟨fun a U g mk q => by obtain ⟨q0, qP, qK⟩ := q; exact ⟨q0, qP, va_K.moved (u := U) (U := U.calling g mk a) (Vm.Alike.refl U.vm) qK⟩, va_recv hK hP (ci := 12) (q0 := 0) rfl rfl, fun U hU hW => ⟨rfl, by rw [hU]; exact hPc_75, va_K.moved hW.alike hKc_76⟩⟩ rfl rfl hl.1 rfl (lv_room (Nat.le_of_ble_eq_true rfl)) dX12_scoreOf_17 ⟨Nat.le_of_ble_eq_true rfl, Nat.le_of_ble_eq_true rfl⟩)) (fun r_77 hw_78 => ?_)
    refine lv_iload_n hx hb dX12_scoreOf_20 rfl (lv_at hl 3 rfl) ?_
    refine lv_icmp_ne (tgt := 55) hx hb dX12_scoreOf_21 (by decide) (fun c_79 => ?_) (fun c_79 => ?_)
    · refine lv_iinc (v := (nI (k_1 + 1))) (lv' := [(3, .int (nI (k_1 + 1))), (2, .int v_31), (0, .ref mo), (1, .int na)]) hx hb dX12_scoreOf_55 hl (k := 0) rfl (nI_add k_1 1) (by decide) rfl (fun ls hl => ?_)
      refine lv_goto (tgt := 4) hx hb dX12_scoreOf_58 (by decide) ?_
      exact ih_68 ((k_1 + 1), v_31, v_32, v_33, v_34, f_35, H, locs, ls) ⟨by dsimp only; omega, hP, hD, hS, lv_sub hl [0, 1, 2, 3] rfl⟩ (by dsimp only; omega)
    · refine lv_aload_n hx hb dX12_scoreOf_24 rfl (lv_at hl 2 rfl) ?_
      refine lv_aload_n hx hb dX12_scoreOf_25 rfl (lv_at hl 2 rfl) ?_
      refine lv_iload_n hx hb dX12_scoreOf_26 rfl (lv_at hl 0 rfl) ?_
      refine lv_iconst (v := 0) hx hb dX12_scoreOf_27 (by decide) ?_
      have hPc_80 := hP.sub (ws' := [(mo, .inr (12, [.ref nw, .ref kp, .ref ik, .ref mr, .long la_, .long lb_, .ref mw, .long v_32, .int v_33, .int v_34, .long ld_, .long le_, .ref mq, .ref mz, .ref my, .int sm_, .ref mb, .int bl_, .int ta_, .int tl_, .int tk_, .int vl_, .ref mx, .ref mv])), (nw, .inl (cn_, 350, .inl fn))]) [0, 1] rfl
      have hKc_81 := hK.sub (tys' := [(cn_, .int)]) [0] rfl
      refine vp_callSi (va_Run.run (va_runV (As := [.int (nI k_1), .int 0]) (rest := [.ref mo]) ⟨hx, hb, hml, hown, hts⟩ (m_countHas0 l dC dI mo nw kp ik mr la_ lb_ mw v_32 v_33 v_34 ld_ le_ mq mz my sm_ mb bl_ ta_ tl_ tk_ vl_ mx mv cn_ fn k_1 hOn (by omega)) (cwV 2 hts gX12_scoreOf_X12_countHas rfl rfl rfl (by decide +kernel) ⟨Nat.le_of_ble_eq_true rfl, Nat.le_of_ble_eq_true rfl⟩) ⟨fun a U g mk q => by obtain ⟨q0, qP, qK⟩ := q; exact ⟨q0, qP, va_K.moved (u := U) (U := U.calling g mk a) (Vm.Alike.refl U.vm) qK⟩, va_recv hK hP (ci := 12) (q0 := 0) rfl rfl, fun U hU hW => ⟨rfl, by rw [hU]; exact hPc_80, va_K.moved hW.alike hKc_81⟩⟩ rfl rfl hl.1 rfl (lv_room (Nat.le_of_ble_eq_true rfl)) dX12_scoreOf_28 ⟨Nat.le_of_ble_eq_true rfl, Nat.le_of_ble_eq_true rfl⟩)) (fun r_82 hw_83 => ?_)
      obtain ⟨j_84, hj_85, rfl⟩ := hw_83
      have hPc := hP.sub (ws' := [(mo, .inr (12, [.ref nw, .ref kp, .ref ik, .ref mr, .long la_, .long lb_, .ref mw, .long v_32, .int v_33, .int v_34, .long ld_, .long le_, .ref mq, .ref mz, .ref my, .int sm_, .ref mb, .int bl_, .int ta_, .int tl_, .int tk_, .int vl_, .ref mx, .ref mv])), (nw, .inl (cn_, 350, .inl fn)), (mw, .inl (cw_, 21, .inr (.inl f_35)))]) [0, 1, 2] rfl
      have hDc := hD.sub (ws' := [(mo, .inr (12, [.ref nw, .ref kp, .ref ik, .ref mr, .long la_, .long lb_, .ref mw, .long v_32, .int v_33, .int v_34, .long ld_, .long le_, .ref mq, .ref mz, .ref my, .int sm_, .ref mb, .int bl_, .int ta_, .int tl_, .int tk_, .int vl_, .ref mx, .ref mv])), (nw, .inl (cn_, 350, .inl fn)), (mw, .inl (cw_, 21, .inr (.inl f_35)))]) [0, 1, 2] (by decide) rfl
      have hKc := hK.sub (tys' := [(cn_, .int), (cw_, .long)]) [0, 1] rfl
      have hFc := va_free (wc := [(mo, .inr (12, [.ref nw, .ref kp, .ref ik, .ref mr, .long la_, .long lb_, .ref mw, .long v_32, .int v_33, .int v_34, .long ld_, .long le_, .ref mq, .ref mz, .ref my, .int sm_, .ref mb, .int bl_, .int ta_, .int tl_, .int tk_, .int vl_, .ref mx, .ref mv])), (nw, .inl (cn_, 350, .inl fn)), (mw, .inl (cw_, 21, .inr (.inl f_35)))]) hD hS hA [0, 1, 2] rfl
      refine va_callv (va_runV (As := [.int (nI j_84)]) (rest := []) ⟨hx, hb, hml, hown, hts⟩ (m_weigh l dC dI mo nw kp ik mr la_ lb_ mw v_32 v_33 v_34 ld_ le_ mq mz my sm_ mb bl_ ta_ tl_ tk_ vl_ mx mv cn_ fn cw_ f_35 j_84 H.size hOn (by omega)) (cwV 1 hts gX12_scoreOf_X12_weigh rfl rfl rfl (by decide +kernel) ⟨Nat.le_of_ble_eq_true rfl, Nat.le_of_ble_eq_true rfl⟩) ⟨fun a U g mk q => by obtain ⟨q0, q1, qP, qK, qD⟩ := q; exact ⟨q0, q1, qP, va_K.moved (u := U) (U := U.calling g mk a) (Vm.Alike.refl U.vm) qK, qD⟩, va_recv hK hP (ci := 12) (q0 := 0) rfl rfl, fun U hU hW => ⟨rfl, by rw [hU], by rw [hU]; exact hPc, va_K.moved hW.alike hKc, hDc.weaken (fun _ _ _ _ => trivial)⟩⟩ rfl rfl hl.1 rfl (lv_room (Nat.le_of_ble_eq_true rfl)) dX12_scoreOf_31 ⟨Nat.le_of_ble_eq_true rfl, Nat.le_of_ble_eq_true rfl⟩) hS (fun q _ h => hFc q h) hFc (fun u_ t H1 locs ht hvm hw_87 hB hz1 hk1 hS => ?_)
      obtain ⟨h_allWeights_88, h_trulyIs_89, h_canBe_90, gw__91, hf_92, hP1, hK1, hD1⟩ := hB
      rw [ht] at hP1
      have hK1 := va_K.moved hvm.symm hK1
      obtain ⟨hP, hD⟩ := va_join (wr := []) (w1 := [(mo, .inr (12, [.ref nw, .ref kp, .ref ik, .ref mr, .long la_, .long lb_, .ref mw, .long h_allWeights_88, .int h_trulyIs_89, .int h_canBe_90, .long ld_, .long le_, .ref mq, .ref mz, .ref my, .int sm_, .ref mb, .int bl_, .int ta_, .int tl_, .int tk_, .int vl_, .ref mx, .ref mv])), (nw, .inl (cn_, 350, .inl fn)), (mw, .inl (cw_, 21, .inr (.inl gw__91)))]) hP hD [0, 1, 2] [] rfl rfl (by decide) (by decide) hk1 hFc hP1 hD1
      generalize H1 = H at hP hS ⊢
      have hP : va_P (dC, dI) vwCl [(mo, .inr (12, [.ref nw, .ref kp, .ref ik, .ref mr, .long la_, .long lb_, .ref mw, .long h_allWeights_88, .int h_trulyIs_89, .int h_canBe_90, .long ld_, .long le_, .ref mq, .ref mz, .ref my, .int sm_, .ref mb, .int bl_, .int ta_, .int tl_, .int tk_, .int vl_, .ref mx, .ref mv])), (nw, .inl (cn_, 350, .inl fn)), (mw, .inl (cw_, 21, .inr (.inl gw__91)))] H := hP
      have hD : va_D A [(mo, .inr (12, [.ref nw, .ref kp, .ref ik, .ref mr, .long la_, .long lb_, .ref mw, .long h_allWeights_88, .int h_trulyIs_89, .int h_canBe_90, .long ld_, .long le_, .ref mq, .ref mz, .ref my, .int sm_, .ref mb, .int bl_, .int ta_, .int tl_, .int tk_, .int vl_, .ref mx, .ref mv])), (nw, .inl (cn_, 350, .inl fn)), (mw, .inl (cw_, 21, .inr (.inl gw__91)))] := hD
      refine lv_iload_n hx hb dX12_scoreOf_34 rfl (lv_at hl 1 rfl) ?_
      refine lv_aload_n hx hb dX12_scoreOf_35 rfl (lv_at hl 2 rfl) ?_
      refine lv_iload_n hx hb dX12_scoreOf_36 rfl (lv_at hl 0 rfl) ?_
      refine lv_iconst (v := 3) hx hb dX12_scoreOf_37 (by decide) ?_
      have hPc_93 := hP.sub (ws' := [(mo, .inr (12, [.ref nw, .ref kp, .ref ik, .ref mr, .long la_, .long lb_, .ref mw, .long h_allWeights_88, .int h_trulyIs_89, .int h_canBe_90, .long ld_, .long le_, .ref mq, .ref mz, .ref my, .int sm_, .ref mb, .int bl_, .int ta_, .int tl_, .int tk_, .int vl_, .ref mx, .ref mv])), (nw, .inl (cn_, 350, .inl fn))]) [0, 1] rfl
      have hKc_94 := hK.sub (tys' := [(cn_, .int)]) [0] rfl
      refine vp_callSi (va_Run.run (va_runV (As := [.int (nI k_1), .int 3]) (rest := [.int v_31]) ⟨hx, hb, hml, hown, hts⟩ (m_countHas3 l dC dI mo nw kp ik mr la_ lb_ mw h_allWeights_88 h_trulyIs_89 h_canBe_90 ld_ le_ mq mz my sm_ mb bl_ ta_ tl_ tk_ vl_ mx mv cn_ fn k_1 hOn (by omega)) (cwV 2 hts gX12_scoreOf_X12_countHas rfl rfl rfl (by decide +kernel) ⟨Nat.le_of_ble_eq_true rfl, Nat.le_of_ble_eq_true rfl⟩) ⟨fun a U g mk q => by obtain ⟨q0, qP, qK⟩ := q; exact ⟨q0, qP, va_K.moved (u := U) (U := U.calling g mk a) (Vm.Alike.refl U.vm) qK⟩, va_recv hK hP (ci := 12) (q0 := 0) rfl rfl, fun U hU hW => ⟨rfl, by rw [hU]; exact hPc_93, va_K.moved hW.alike hKc_94⟩⟩ rfl rfl hl.1 rfl (lv_room (Nat.le_of_ble_eq_true rfl)) dX12_scoreOf_38 ⟨Nat.le_of_ble_eq_true rfl, Nat.le_of_ble_eq_true rfl⟩)) (fun r_95 hw_96 => ?_)
      refine lv_aload_n hx hb dX12_scoreOf_41 rfl (lv_at hl 2 rfl) ?_
      refine va_get (D := (dC, dI)) (ci := 12) (v := .int h_trulyIs_89) (C := RX12) (T := TX12) (N := 24) hx hb hts iw_m_scoreOf_X12 hown hK hP 0 rfl rfl 8 (by decide) (hts (.fieldLink RX12 154 "ThriceCountedModel" "trulyIs" "I") (by decide +kernel)) (fun _ h9 => h9) rfl dX12_scoreOf_42 ?_
      refine lv_icmp_ne (tgt := 52) hx hb dX12_scoreOf_45 (by decide) (fun c_97 => ?_) (fun c_97 => ?_)
      · refine lv_iconst (v := (-1)) hx hb dX12_scoreOf_52 (by decide) ?_
        refine lv_iadd hx hb dX12_scoreOf_53 ?_
        refine lv_topi (fun x_98 _ => ?_)
        refine lv_istore_n (lv' := [(2, .int x_98), (3, .int (nI k_1)), (0, .ref mo), (1, .int na)]) hx hb dX12_scoreOf_54 rfl hl (by decide) rfl (fun ls hl => ?_)
        refine lv_iinc (v := (nI (k_1 + 1))) (lv' := [(3, .int (nI (k_1 + 1))), (2, .int x_98), (0, .ref mo), (1, .int na)]) hx hb dX12_scoreOf_55 hl (k := 1) rfl (nI_add k_1 1) (by decide) rfl (fun ls hl => ?_)
        refine lv_goto (tgt := 4) hx hb dX12_scoreOf_58 (by decide) ?_
        exact ih_68 ((k_1 + 1), x_98, h_allWeights_88, h_trulyIs_89, h_canBe_90, gw__91, H, locs, ls) ⟨by dsimp only; omega, hP, hD, hS, lv_sub hl [0, 1, 2, 3] rfl⟩ (by dsimp only; omega)
      · refine lv_iconst (v := 1) hx hb dX12_scoreOf_48 (by decide) ?_
        refine lv_goto (tgt := 53) hx hb dX12_scoreOf_49 (by decide) ?_
        refine lv_iadd hx hb dX12_scoreOf_53 ?_
        refine lv_topi (fun x_99 _ => ?_)
        refine lv_istore_n (lv' := [(2, .int x_99), (3, .int (nI k_1)), (0, .ref mo), (1, .int na)]) hx hb dX12_scoreOf_54 rfl hl (by decide) rfl (fun ls hl => ?_)
        refine lv_iinc (v := (nI (k_1 + 1))) (lv' := [(3, .int (nI (k_1 + 1))), (2, .int x_99), (0, .ref mo), (1, .int na)]) hx hb dX12_scoreOf_55 hl (k := 1) rfl (nI_add k_1 1) (by decide) rfl (fun ls hl => ?_)
        refine lv_goto (tgt := 4) hx hb dX12_scoreOf_58 (by decide) ?_
        exact ih_68 ((k_1 + 1), x_99, h_allWeights_88, h_trulyIs_89, h_canBe_90, gw__91, H, locs, ls) ⟨by dsimp only; omega, hP, hD, hS, lv_sub hl [0, 1, 2, 3] rfl⟩ (by dsimp only; omega)
set_option maxRecDepth 20000 in
theorem ggX12_believe_X12_scoreOf : GoodIn wsX12_believe wsX12_scoreOf := goodIn_r _ [6, 1, 7, 8, 9, 10, 5, 11, 12, 13, 14, 15, 16, 17, 18, 19, 20, 21, 22, 23, 24, 25, 26, 27, 28, 29, 30, 31, 32, 33, 34, 35, 36, 37, 38, 39, 40, 41, 42, 43, 44, 45, 46, 47, 48, 49, 50, 51, 52, 53, 54, 55, 56, 57, 58, 59, 60, 61, 62, 63, 64, 65, 66, 67] (by decide +kernel) (by decide +kernel)
set_option maxRecDepth 20000 in
theorem gX12_believe_X12_scoreOf : GoodIn wsX12_believe (wsV RX12 173 RX12 yX12_scoreOf wsX12_scoreOf) := goodIn_app (goodIn_of _ (by decide +kernel)) ggX12_believe_X12_scoreOf
theorem dX12_believe_0 : decode cX12_believe 0 = .ok (.aload_n 0, 1) := by decide +kernel
theorem dX12_believe_1 : decode cX12_believe 1 = .ok (.getfield 7, 3) := by decide +kernel
theorem dX12_believe_4 : decode cX12_believe 4 = .ok (.iconst 2, 1) := by decide +kernel
theorem dX12_believe_5 : decode cX12_believe 5 = .ok (.iaload, 1) := by decide +kernel
theorem dX12_believe_6 : decode cX12_believe 6 = .ok (.ifCond .ne 5, 3) := by decide +kernel
theorem dX12_believe_11 : decode cX12_believe 11 = .ok (.iconst 0, 1) := by decide +kernel
theorem dX12_believe_12 : decode cX12_believe 12 = .ok (.istore_n 1, 1) := by decide +kernel
theorem dX12_believe_13 : decode cX12_believe 13 = .ok (.aload_n 0, 1) := by decide +kernel
theorem dX12_believe_14 : decode cX12_believe 14 = .ok (.iconst 0, 1) := by decide +kernel
theorem dX12_believe_15 : decode cX12_believe 15 = .ok (.invokevirtual 173, 3) := by decide +kernel
theorem dX12_believe_18 : decode cX12_believe 18 = .ok (.istore_n 2, 1) := by decide +kernel
theorem dX12_believe_19 : decode cX12_believe 19 = .ok (.iconst 1, 1) := by decide +kernel
theorem dX12_believe_20 : decode cX12_believe 20 = .ok (.istore_n 3, 1) := by decide +kernel
theorem dX12_believe_21 : decode cX12_believe 21 = .ok (.iload_n 3, 1) := by decide +kernel
theorem dX12_believe_22 : decode cX12_believe 22 = .ok (.aload_n 0, 1) := by decide +kernel
theorem dX12_believe_23 : decode cX12_believe 23 = .ok (.getfield 7, 3) := by decide +kernel
theorem dX12_believe_26 : decode cX12_believe 26 = .ok (.iconst 0, 1) := by decide +kernel
theorem dX12_believe_27 : decode cX12_believe 27 = .ok (.iaload, 1) := by decide +kernel
theorem dX12_believe_28 : decode cX12_believe 28 = .ok (.if_icmp .ge 41, 3) := by decide +kernel
theorem dX12_believe_31 : decode cX12_believe 31 = .ok (.aload_n 0, 1) := by decide +kernel
theorem dX12_believe_32 : decode cX12_believe 32 = .ok (.iload_n 3, 1) := by decide +kernel
theorem dX12_believe_33 : decode cX12_believe 33 = .ok (.invokevirtual 173, 3) := by decide +kernel
theorem dX12_believe_36 : decode cX12_believe 36 = .ok (.istore 4, 2) := by decide +kernel
theorem dX12_believe_38 : decode cX12_believe 38 = .ok (.iload 4, 2) := by decide +kernel
theorem dX12_believe_40 : decode cX12_believe 40 = .ok (.iload_n 2, 1) := by decide +kernel
theorem dX12_believe_41 : decode cX12_believe 41 = .ok (.if_icmp .le 7, 3) := by decide +kernel
theorem dX12_believe_48 : decode cX12_believe 48 = .ok (.iload_n 1, 1) := by decide +kernel
theorem dX12_believe_49 : decode cX12_believe 49 = .ok (.istore_n 1, 1) := by decide +kernel
theorem dX12_believe_50 : decode cX12_believe 50 = .ok (.iload 4, 2) := by decide +kernel
theorem dX12_believe_52 : decode cX12_believe 52 = .ok (.iload_n 2, 1) := by decide +kernel
theorem dX12_believe_53 : decode cX12_believe 53 = .ok (.if_icmp .le 8, 3) := by decide +kernel
theorem dX12_believe_61 : decode cX12_believe 61 = .ok (.iload_n 2, 1) := by decide +kernel
theorem dX12_believe_62 : decode cX12_believe 62 = .ok (.istore_n 2, 1) := by decide +kernel
theorem dX12_believe_63 : decode cX12_believe 63 = .ok (.iinc 3 1, 3) := by decide +kernel
theorem dX12_believe_66 : decode cX12_believe 66 = .ok (.goto (-45), 3) := by decide +kernel
theorem dX12_believe_56 : decode cX12_believe 56 = .ok (.iload 4, 2) := by decide +kernel
theorem dX12_believe_58 : decode cX12_believe 58 = .ok (.goto 4, 3) := by decide +kernel
theorem dX12_believe_44 : decode cX12_believe 44 = .ok (.iload_n 3, 1) := by decide +kernel
theorem dX12_believe_45 : decode cX12_believe 45 = .ok (.goto 4, 3) := by decide +kernel
theorem dX12_believe_69 : decode cX12_believe 69 = .ok (.iload_n 1, 1) := by decide +kernel
theorem dX12_believe_70 : decode cX12_believe 70 = .ok (.ireturn, 1) := by decide +kernel
theorem dX12_believe_9 : decode cX12_believe 9 = .ok (.iconst (-1), 1) := by decide +kernel
theorem dX12_believe_10 : decode cX12_believe 10 = .ok (.ireturn, 1) := by decide +kernel
set_option maxRecDepth 20000 in
theorem iw_m_believe_X12 : ∀ w ∈ wsX120, w ∈ wsX12_believe := by decide +kernel
set_option maxHeartbeats 4000000 in
set_option maxRecDepth 100000 in
theorem m_believe (l : Launch) (dC : Nat → ClassId) (dI : Nat → Nat → Nat) (mo : Nat) (nw : Nat) (kp : Nat) (ik : Nat) (mr : Nat) (la_ : Int64) (lb_ : Int64) (mw : Nat) (lc_ : Int64) (ti_ : Int32) (cb_ : Int32) (ld_ : Int64) (le_ : Int64) (mq : Nat) (mz : Nat) (my : Nat) (sm_ : Int32) (mb : Nat) (bl_ : Int32) (ta_ : Int32) (tl_ : Int32) (tk_ : Int32) (vl_ : Int32) (mx : Nat) (mv : Nat) (cn_ : ClassId) (fn : Nat → Int32) (cw_ : ClassId) (fw_ : Nat → Int64) (sz : Nat) (hOn : tz_OK 350 fn) : Met l yX12_believe wsX12_believe ({ frames := 6, cells := 0, slots := 0, locals := 144 }) (va_Pc [.ref mo] (fun U => U.heap.size = sz ∧ va_P (dC, dI) vwCl [(mo, .inr (12, [.ref nw, .ref kp, .ref ik, .ref mr, .long la_, .long lb_, .ref mw, .long lc_, .int ti_, .int cb_, .long ld_, .long le_, .ref mq, .ref mz, .ref my, .int sm_, .ref mb, .int bl_, .int ta_, .int tl_, .int tk_, .int vl_, .ref mx, .ref mv])), (nw, .inl (cn_, 350, .inl fn)), (mw, .inl (cw_, 21, .inr (.inl fw_)))] U.heap ∧ va_K (dC, dI) vwCl [(cn_, .int), (cw_, .long)] U ∧ va_D (fun _ => True) [(mo, .inr (12, [.ref nw, .ref kp, .ref ik, .ref mr, .long la_, .long lb_, .ref mw, .long lc_, .int ti_, .int cb_, .long ld_, .long le_, .ref mq, .ref mz, .ref my, .int sm_, .ref mb, .int bl_, .int ta_, .int tl_, .int tk_, .int vl_, .ref mx, .ref mv])), (nw, .inl (cn_, 350, .inl fn)), (mw, .inl (cw_, 21, .inr (.inl fw_)))])) (va_Qi (fun (r : Int32) (_ : Unit) => True) (fun _ t => ∃ (h_allWeights : Int64) (h_trulyIs : Int32) (h_canBe : Int32) (gw_ : Nat → Int64), va_P (dC, dI) vwCl [(mo, .inr (12, [.ref nw, .ref kp, .ref ik, .ref mr, .long la_, .long lb_, .ref mw, .long h_allWeights, .int h_trulyIs, .int h_canBe, .long ld_, .long le_, .ref mq, .ref mz, .ref my, .int sm_, .ref mb, .int bl_, .int ta_, .int tl_, .int tk_, .int vl_, .ref mx, .ref mv])), (nw, .inl (cn_, 350, .inl fn)), (mw, .inl (cw_, 21, .inr (.inl gw_)))] t.heap ∧ va_K (dC, dI) vwCl [(cn_, .int), (cw_, .long)] t ∧ va_D (va_A [(mo, .inr (12, [.ref nw, .ref kp, .ref ik, .ref mr, .long la_, .long lb_, .ref mw, .long lc_, .int ti_, .int cb_, .long ld_, .long le_, .ref mq, .ref mz, .ref my, .int sm_, .ref mb, .int bl_, .int ta_, .int tl_, .int tk_, .int vl_, .ref mx, .ref mv])), (nw, .inl (cn_, 350, .inl fn)), (mw, .inl (cw_, 21, .inr (.inl fw_)))] sz) [(mo, .inr (12, [.ref nw, .ref kp, .ref ik, .ref mr, .long la_, .long lb_, .ref mw, .long h_allWeights, .int h_trulyIs, .int h_canBe, .long ld_, .long le_, .ref mq, .ref mz, .ref my, .int sm_, .ref mb, .int bl_, .int ta_, .int tl_, .int tk_, .int vl_, .ref mx, .ref mv])), (nw, .inl (cn_, 350, .inl fn)), (mw, .inl (cw_, 21, .inr (.inl gw_)))]) (va_A [(mo, .inr (12, [.ref nw, .ref kp, .ref ik, .ref mr, .long la_, .long lb_, .ref mw, .long lc_, .int ti_, .int cb_, .long ld_, .long le_, .ref mq, .ref mz, .ref my, .int sm_, .ref mb, .int bl_, .int ta_, .int tl_, .int tk_, .int vl_, .ref mx, .ref mv])), (nw, .inl (cn_, 350, .inl fn)), (mw, .inl (cw_, 21, .inr (.inl fw_)))] sz)) 0 0 (va_A [(mo, .inr (12, [.ref nw, .ref kp, .ref ik, .ref mr, .long la_, .long lb_, .ref mw, .long lc_, .int ti_, .int cb_, .long ld_, .long le_, .ref mq, .ref mz, .ref my, .int sm_, .ref mb, .int bl_, .int ta_, .int tl_, .int tk_, .int vl_, .ref mx, .ref mv])), (nw, .inl (cn_, 350, .inl fn)), (mw, .inl (cw_, 21, .inr (.inl fw_)))] sz) := by
  refine Met.ofW (cc := cX12_believe) (maxL := 5) (ret := (some .int)) (by decide) rfl ?_
  intro p e s m args below meth c s₁ B hml hv
  obtain ⟨rfl, hsz, hP, hK, hD0⟩ := hv
  have hx := B.exec
  have hb := B.bytes
  have hr := B.returns
  have hts := atoms_spec (ws := wsX12_believe) B.pre
  have hown : s.vm.findClass RX12 = some m.cls := findClass_of_methodNamed B.named
  have hlocks := B.notSynchronized
  subst hsz
  have hD := hD0.self (sz := s.heap.size)
  generalize hAe : va_A [(mo, .inr (12, [.ref nw, .ref kp, .ref ik, .ref mr, .long la_, .long lb_, .ref mw, .long lc_, .int ti_, .int cb_, .long ld_, .long le_, .ref mq, .ref mz, .ref my, .int sm_, .ref mb, .int bl_, .int ta_, .int tl_, .int tk_, .int vl_, .ref mx, .ref mv])), (nw, .inl (cn_, 350, .inl fn)), (mw, .inl (cw_, 21, .inr (.inl fw_)))] s.heap.size = A at hD ⊢
  have hA : ∀ q : Nat, s.heap.size ≤ q → A q := fun q h => by rw [← hAe]; exact Or.inr h
  have hS : va_S A s.heap s.heap [] := va_S.rf
  have hP : va_P (dC, dI) vwCl [(mo, .inr (12, [.ref nw, .ref kp, .ref ik, .ref mr, .long la_, .long lb_, .ref mw, .long lc_, .int ti_, .int cb_, .long ld_, .long le_, .ref mq, .ref mz, .ref my, .int sm_, .ref mb, .int bl_, .int ta_, .int tl_, .int tk_, .int vl_, .ref mx, .ref mv])), (nw, .inl (cn_, 350, .inl fn)), (mw, .inl (cw_, 21, .inr (.inl fw_)))] s.heap := hP
  have hl := lv_entry ([.ref mo]) (n := 5) (Nat.le_of_ble_eq_true rfl)
  rw [lg_entry_eq]
  generalize (lg_sl ([.ref mo]) ++ List.replicate (5 - (lg_sl ([.ref mo])).length) Slot.unset).toArray = ls at hl ⊢
  have hl : lv_has ls 5 [(0, .ref mo)] := hl
  refine lv_aload_n hx hb dX12_believe_0 rfl (lv_at hl 0 rfl) ?_
  refine va_get (D := (dC, dI)) (ci := 12) (v := .ref nw) (C := RX12) (T := TX12) (N := 24) hx hb hts iw_m_believe_X12 hown hK hP 0 rfl rfl 0 (by decide) (hts (.fieldLink RX12 7 "ThriceCountedModel" "now" "[I") (by decide +kernel)) (fun _ h9 => h9) rfl dX12_believe_1 ?_
  refine lv_iconst (v := 2) hx hb dX12_believe_4 (by decide) ?_
  refine va_iald hx hb hK hP 1 0 rfl rfl (show ¬ ((2 : Int32) < 0 ∨ 350 ≤ (2 : Int32).toNatClampNeg) by decide) dX12_believe_5 ?_
  obtain ⟨j_1, hj_2, ej_3⟩ := hOn.nat (K := 2) (n := 8) (by omega) (show tz_b 2 = (0, 8) from by decide)
  refine tz_i (nI j_1) ej_3 ?_
  refine lv_if_ne (tgt := 11) hx hb dX12_believe_6 (by decide) (fun c_4 => ?_) (fun c_4 => ?_)
  · have hn_5 : ¬ j_1 = 0 := fun q => c_4 ((nI_eq (a := j_1) (b := 0) (by omega) (by omega)).mpr q)
    refine lv_iconst (v := 0) hx hb dX12_believe_11 (by decide) ?_
    refine lv_istore_n (lv' := [(1, .int 0), (0, .ref mo)]) hx hb dX12_believe_12 rfl hl (by decide) rfl (fun ls hl => ?_)
    refine lv_aload_n hx hb dX12_believe_13 rfl (lv_at hl 1 rfl) ?_
    refine lv_iconst (v := 0) hx hb dX12_believe_14 (by decide) ?_
    have hPc := hP.sub (ws' := [(mo, .inr (12, [.ref nw, .ref kp, .ref ik, .ref mr, .long la_, .long lb_, .ref mw, .long lc_, .int ti_, .int cb_, .long ld_, .long le_, .ref mq, .ref mz, .ref my, .int sm_, .ref mb, .int bl_, .int ta_, .int tl_, .int tk_, .int vl_, .ref mx, .ref mv])), (nw, .inl (cn_, 350, .inl fn)), (mw, .inl (cw_, 21, .inr (.inl fw_)))]) [0, 1, 2] rfl
    have hDc := hD.sub (ws' := [(mo, .inr (12, [.ref nw, .ref kp, .ref ik, .ref mr, .long la_, .long lb_, .ref mw, .long lc_, .int ti_, .int cb_, .long ld_, .long le_, .ref mq, .ref mz, .ref my, .int sm_, .ref mb, .int bl_, .int ta_, .int tl_, .int tk_, .int vl_, .ref mx, .ref mv])), (nw, .inl (cn_, 350, .inl fn)), (mw, .inl (cw_, 21, .inr (.inl fw_)))]) [0, 1, 2] (by decide) rfl
    have hKc := hK.sub (tys' := [(cn_, .int), (cw_, .long)]) [0, 1] rfl
    have hFc := va_free (wc := [(mo, .inr (12, [.ref nw, .ref kp, .ref ik, .ref mr, .long la_, .long lb_, .ref mw, .long lc_, .int ti_, .int cb_, .long ld_, .long le_, .ref mq, .ref mz, .ref my, .int sm_, .ref mb, .int bl_, .int ta_, .int tl_, .int tk_, .int vl_, .ref mx, .ref mv])), (nw, .inl (cn_, 350, .inl fn)), (mw, .inl (cw_, 21, .inr (.inl fw_)))]) hD hS hA [0, 1, 2] rfl
    refine va_calli (va_runV (As := [.int 0]) (rest := []) ⟨hx, hb, hml, hown, hts⟩ (m_scoreOf l dC dI mo nw kp ik mr la_ lb_ mw lc_ ti_ cb_ ld_ le_ mq mz my sm_ mb bl_ ta_ tl_ tk_ vl_ mx mv cn_ fn cw_ fw_ 0 s.heap.size hOn) (cwV 1 hts gX12_believe_X12_scoreOf rfl rfl rfl (by decide +kernel) ⟨Nat.le_of_ble_eq_true rfl, Nat.le_of_ble_eq_true rfl⟩) ⟨fun a U g mk q => by obtain ⟨q0, q1, qP, qK, qD⟩ := q; exact ⟨q0, q1, qP, va_K.moved (u := U) (U := U.calling g mk a) (Vm.Alike.refl U.vm) qK, qD⟩, va_recv hK hP (ci := 12) (q0 := 0) rfl rfl, fun U hU hW => ⟨rfl, by rw [hU], by rw [hU]; exact hPc, va_K.moved hW.alike hKc, hDc.weaken (fun _ _ _ _ => trivial)⟩⟩ rfl rfl hl.1 rfl (lv_room (Nat.le_of_ble_eq_true rfl)) dX12_believe_15 ⟨Nat.le_of_ble_eq_true rfl, Nat.le_of_ble_eq_true rfl⟩) hS (fun q _ h => hFc q h) hFc (fun r_6 u_ t H1 locs ht hvm hw_7 hB hz1 hk1 hS => ?_)
    obtain ⟨h_allWeights_8, h_trulyIs_9, h_canBe_10, gw__11, hP1, hK1, hD1⟩ := hB
    rw [ht] at hP1
    have hK1 := va_K.moved hvm.symm hK1
    obtain ⟨hP, hD⟩ := va_join (wr := []) (w1 := [(mo, .inr (12, [.ref nw, .ref kp, .ref ik, .ref mr, .long la_, .long lb_, .ref mw, .long h_allWeights_8, .int h_trulyIs_9, .int h_canBe_10, .long ld_, .long le_, .ref mq, .ref mz, .ref my, .int sm_, .ref mb, .int bl_, .int ta_, .int tl_, .int tk_, .int vl_, .ref mx, .ref mv])), (nw, .inl (cn_, 350, .inl fn)), (mw, .inl (cw_, 21, .inr (.inl gw__11)))]) hP hD [0, 1, 2] [] rfl rfl (by decide) (by decide) hk1 hFc hP1 hD1
    generalize H1 = H at hP hS ⊢
    have hP : va_P (dC, dI) vwCl [(mo, .inr (12, [.ref nw, .ref kp, .ref ik, .ref mr, .long la_, .long lb_, .ref mw, .long h_allWeights_8, .int h_trulyIs_9, .int h_canBe_10, .long ld_, .long le_, .ref mq, .ref mz, .ref my, .int sm_, .ref mb, .int bl_, .int ta_, .int tl_, .int tk_, .int vl_, .ref mx, .ref mv])), (nw, .inl (cn_, 350, .inl fn)), (mw, .inl (cw_, 21, .inr (.inl gw__11)))] H := hP
    have hD : va_D A [(mo, .inr (12, [.ref nw, .ref kp, .ref ik, .ref mr, .long la_, .long lb_, .ref mw, .long h_allWeights_8, .int h_trulyIs_9, .int h_canBe_10, .long ld_, .long le_, .ref mq, .ref mz, .ref my, .int sm_, .ref mb, .int bl_, .int ta_, .int tl_, .int tk_, .int vl_, .ref mx, .ref mv])), (nw, .inl (cn_, 350, .inl fn)), (mw, .inl (cw_, 21, .inr (.inl gw__11)))] := hD
    refine lv_istore_n (lv' := [(2, .int r_6), (1, .int 0), (0, .ref mo)]) hx hb dX12_believe_18 rfl hl (by decide) rfl (fun ls hl => ?_)
    refine lv_iconst (v := 1) hx hb dX12_believe_19 (by decide) ?_
    refine lv_istore_n (lv' := [(3, .int 1), (2, .int r_6), (1, .int 0), (0, .ref mo)]) hx hb dX12_believe_20 rfl hl (by decide) rfl (fun ls hl => ?_)
    refine tz_while (σ := Nat × Int64 × Int32 × Int32 × (Nat → Int64) × Int32 × Int32 × Heap × List Loc × Array Slot) (fun x => W p l e _ s m _ below meth c x.2.2.2.2.2.2.2.1 x.2.2.2.2.2.2.2.2.1 _ _ _ (F0 m 21 x.2.2.2.2.2.2.2.2.2 [])) (fun x => x.1 ≤ 5 + 1 ∧ va_P (dC, dI) vwCl [(mo, .inr (12, [.ref nw, .ref kp, .ref ik, .ref mr, .long la_, .long lb_, .ref mw, .long x.2.1, .int x.2.2.1, .int x.2.2.2.1, .long ld_, .long le_, .ref mq, .ref mz, .ref my, .int sm_, .ref mb, .int bl_, .int ta_, .int tl_, .int tk_, .int vl_, .ref mx, .ref mv])), (nw, .inl (cn_, 350, .inl fn)), (mw, .inl (cw_, 21, .inr (.inl x.2.2.2.2.1)))] x.2.2.2.2.2.2.2.1 ∧ va_D A [(mo, .inr (12, [.ref nw, .ref kp, .ref ik, .ref mr, .long la_, .long lb_, .ref mw, .long x.2.1, .int x.2.2.1, .int x.2.2.2.1, .long ld_, .long le_, .ref mq, .ref mz, .ref my, .int sm_, .ref mb, .int bl_, .int ta_, .int tl_, .int tk_, .int vl_, .ref mx, .ref mv])), (nw, .inl (cn_, 350, .inl fn)), (mw, .inl (cw_, 21, .inr (.inl x.2.2.2.2.1)))] ∧ va_S A s.heap x.2.2.2.2.2.2.2.1 x.2.2.2.2.2.2.2.2.1 ∧ lv_has x.2.2.2.2.2.2.2.2.2 5 [(3, .int (nI x.1)), (2, .int x.2.2.2.2.2.1), (1, .int x.2.2.2.2.2.2.1), (0, .ref mo)]) (fun x => 5 + 1 - x.1) ?_ (1, h_allWeights_8, h_trulyIs_9, h_canBe_10, gw__11, r_6, 0, H, locs, ls) ⟨by (try dsimp only); omega, hP, hD, hS, hl⟩
    rintro ⟨k_12, v_28, v_29, v_30, f_31, v_32, v_33, H, locs, ls⟩ ⟨hi_49_0, hP, hD, hS, hl⟩ ih_50
    dsimp only at hi_49_0 hP hD hS hl ih_50 ⊢
    refine lv_iload_n hx hb dX12_believe_21 rfl (lv_at hl 0 rfl) ?_
    refine lv_aload_n hx hb dX12_believe_22 rfl (lv_at hl 3 rfl) ?_
    refine va_get (D := (dC, dI)) (ci := 12) (v := .ref nw) (C := RX12) (T := TX12) (N := 24) hx hb hts iw_m_believe_X12 hown hK hP 0 rfl rfl 0 (by decide) (hts (.fieldLink RX12 7 "ThriceCountedModel" "now" "[I") (by decide +kernel)) (fun _ h9 => h9) rfl dX12_believe_23 ?_
    refine lv_iconst (v := 0) hx hb dX12_believe_26 (by decide) ?_
    refine va_iald hx hb hK hP 1 0 rfl rfl (show ¬ ((0 : Int32) < 0 ∨ 350 ≤ (0 : Int32).toNatClampNeg) by decide) dX12_believe_27 ?_
    obtain ⟨j_51, hj_52, ej_53⟩ := hOn.nat (K := 0) (n := 5) (by omega) (show tz_b 0 = (0, 5) from by decide)
    refine tz_i (nI j_51) ej_53 ?_
    refine lv_icmp_ge (tgt := 69) hx hb dX12_believe_28 (by decide) (fun c_54 => ?_) (fun c_54 => ?_)
    · have hn_55 : j_51 ≤ k_12 := (nI_leI (a := j_51) (b := k_12) (by omega) (by omega)).mp c_54
      refine lv_iload_n hx hb dX12_believe_69 rfl (lv_at hl 2 rfl) ?_
      have hP9 := hP.sub (ws' := [(mo, .inr (12, [.ref nw, .ref kp, .ref ik, .ref mr, .long la_, .long lb_, .ref mw, .long v_28, .int v_29, .int v_30, .long ld_, .long le_, .ref mq, .ref mz, .ref my, .int sm_, .ref mb, .int bl_, .int ta_, .int tl_, .int tk_, .int vl_, .ref mx, .ref mv])), (nw, .inl (cn_, 350, .inl fn)), (mw, .inl (cw_, 21, .inr (.inl f_31)))]) [0, 1, 2] rfl
      have hD9 := hD.sub (ws' := [(mo, .inr (12, [.ref nw, .ref kp, .ref ik, .ref mr, .long la_, .long lb_, .ref mw, .long v_28, .int v_29, .int v_30, .long ld_, .long le_, .ref mq, .ref mz, .ref my, .int sm_, .ref mb, .int bl_, .int ta_, .int tl_, .int tk_, .int vl_, .ref mx, .ref mv])), (nw, .inl (cn_, 350, .inl fn)), (mw, .inl (cw_, 21, .inr (.inl f_31)))]) [0, 1, 2] (by decide) rfl
      have hK9 := hK.sub (tys' := [(cn_, .int), (cw_, .long)]) [0, 1] rfl
      exact W.iret (v := v_33) hx hb hr (fun t ht hW => ⟨⟨v_33, (), rfl, trivial, v_28, v_29, v_30, f_31, by rw [ht]; exact hP9, va_K.moved hW.alike hK9, hD9⟩, hS.F ht⟩) hS.2.2 dX12_believe_70
    · have hn_56 : ¬ j_51 ≤ k_12 := fun q => c_54 ((nI_leI (a := j_51) (b := k_12) (by omega) (by omega)).mpr q)
      refine lv_aload_n hx hb dX12_believe_31 rfl (lv_at hl 3 rfl) ?_
      refine lv_iload_n hx hb dX12_believe_32 rfl (lv_at hl 0 rfl) ?_
      have hPc := hP.sub (ws' := [(mo, .inr (12, [.ref nw, .ref kp, .ref ik, .ref mr, .long la_, .long lb_, .ref mw, .long v_28, .int v_29, .int v_30, .long ld_, .long le_, .ref mq, .ref mz, .ref my, .int sm_, .ref mb, .int bl_, .int ta_, .int tl_, .int tk_, .int vl_, .ref mx, .ref mv])), (nw, .inl (cn_, 350, .inl fn)), (mw, .inl (cw_, 21, .inr (.inl f_31)))]) [0, 1, 2] rfl
      have hDc := hD.sub (ws' := [(mo, .inr (12, [.ref nw, .ref kp, .ref ik, .ref mr, .long la_, .long lb_, .ref mw, .long v_28, .int v_29, .int v_30, .long ld_, .long le_, .ref mq, .ref mz, .ref my, .int sm_, .ref mb, .int bl_, .int ta_, .int tl_, .int tk_, .int vl_, .ref mx, .ref mv])), (nw, .inl (cn_, 350, .inl fn)), (mw, .inl (cw_, 21, .inr (.inl f_31)))]) [0, 1, 2] (by decide) rfl
      have hKc := hK.sub (tys' := [(cn_, .int), (cw_, .long)]) [0, 1] rfl
      have hFc := va_free (wc := [(mo, .inr (12, [.ref nw, .ref kp, .ref ik, .ref mr, .long la_, .long lb_, .ref mw, .long v_28, .int v_29, .int v_30, .long ld_, .long le_, .ref mq, .ref mz, .ref my, .int sm_, .ref mb, .int bl_, .int ta_, .int tl_, .int tk_, .int vl_, .ref mx, .ref mv])), (nw, .inl (cn_, 350, .inl fn)), (mw, .inl (cw_, 21, .inr (.inl f_31)))]) hD hS hA [0, 1, 2] rfl
      refine va_calli (va_runV (As := [.int (nI k_12)]) (rest := []) ⟨hx, hb, hml, hown, hts⟩ (m_scoreOf l dC dI mo nw kp ik mr la_ lb_ mw v_28 v_29 v_30 ld_ le_ mq mz my sm_ mb bl_ ta_ tl_ tk_ vl_ mx mv cn_ fn cw_ f_31 (nI k_12) H.size hOn) (cwV 1 hts gX12_believe_X12_scoreOf rfl rfl rfl (by decide +kernel) ⟨Nat.le_of_ble_eq_true rfl, Nat.le_of_ble_eq_true rfl⟩) ⟨fun a U g mk q => by obtain ⟨q0, q1, qP, qK, qD⟩ := q; exact ⟨q0, q1, qP, va_K.moved (u := U) (U := U.calling g mk a) (Vm.Alike.refl U.vm) qK, qD⟩, va_recv hK hP (ci := 12) (q0 := 0) rfl rfl, fun U hU hW => ⟨rfl, by rw [hU], by rw [hU]; exact hPc, va_K.moved hW.alike hKc, hDc.weaken (fun _ _ _ _ => trivial)⟩⟩ rfl rfl hl.1 rfl (lv_room (Nat.le_of_ble_eq_true rfl)) dX12_believe_33 ⟨Nat.le_of_ble_eq_true rfl, Nat.le_of_ble_eq_true rfl⟩) hS (fun q _ h => hFc q h) hFc (fun r_57 u_ t H1 locs ht hvm hw_58 hB hz1 hk1 hS => ?_)
      obtain ⟨h_allWeights_59, h_trulyIs_60, h_canBe_61, gw__62, hP1, hK1, hD1⟩ := hB
      rw [ht] at hP1
      have hK1 := va_K.moved hvm.symm hK1
      obtain ⟨hP, hD⟩ := va_join (wr := []) (w1 := [(mo, .inr (12, [.ref nw, .ref kp, .ref ik, .ref mr, .long la_, .long lb_, .ref mw, .long h_allWeights_59, .int h_trulyIs_60, .int h_canBe_61, .long ld_, .long le_, .ref mq, .ref mz, .ref my, .int sm_, .ref mb, .int bl_, .int ta_, .int tl_, .int tk_, .int vl_, .ref mx, .ref mv])), (nw, .inl (cn_, 350, .inl fn)), (mw, .inl (cw_, 21, .inr (.inl gw__62)))]) hP hD [0, 1, 2] [] rfl rfl (by decide) (by decide) hk1 hFc hP1 hD1
      generalize H1 = H at hP hS ⊢
      have hP : va_P (dC, dI) vwCl [(mo, .inr (12, [.ref nw, .ref kp, .ref ik, .ref mr, .long la_, .long lb_, .ref mw, .long h_allWeights_59, .int h_trulyIs_60, .int h_canBe_61, .long ld_, .long le_, .ref mq, .ref mz, .ref my, .int sm_, .ref mb, .int bl_, .int ta_, .int tl_, .int tk_, .int vl_, .ref mx, .ref mv])), (nw, .inl (cn_, 350, .inl fn)), (mw, .inl (cw_, 21, .inr (.inl gw__62)))] H := hP
      have hD : va_D A [(mo, .inr (12, [.ref nw, .ref kp, .ref ik, .ref mr, .long la_, .long lb_, .ref mw, .long h_allWeights_59, .int h_trulyIs_60, .int h_canBe_61, .long ld_, .long le_, .ref mq, .ref mz, .ref my, .int sm_, .ref mb, .int bl_, .int ta_, .int tl_, .int tk_, .int vl_, .ref mx, .ref mv])), (nw, .inl (cn_, 350, .inl fn)), (mw, .inl (cw_, 21, .inr (.inl gw__62)))] := hD
      refine lv_istore (lv' := [(4, .int r_57), (3, .int (nI k_12)), (2, .int v_32), (1, .int v_33), (0, .ref mo)]) hx hb dX12_believe_36 hl (by decide) rfl (fun ls hl => ?_)
      refine lv_iload hx hb dX12_believe_38 (lv_at hl 0 rfl) ?_
      refine lv_iload_n hx hb dX12_believe_40 rfl (lv_at hl 2 rfl) ?_
      refine lv_icmp_le (tgt := 48) hx hb dX12_believe_41 (by decide) (fun c_63 => ?_) (fun c_63 => ?_)
      · refine lv_iload_n hx hb dX12_believe_48 rfl (lv_at hl 3 rfl) ?_
        refine lv_istore_n (lv' := [(1, .int v_33), (4, .int r_57), (3, .int (nI k_12)), (2, .int v_32), (0, .ref mo)]) hx hb dX12_believe_49 rfl hl (by decide) rfl (fun ls hl => ?_)
        refine lv_iload hx hb dX12_believe_50 (lv_at hl 1 rfl) ?_
        refine lv_iload_n hx hb dX12_believe_52 rfl (lv_at hl 3 rfl) ?_
        refine lv_icmp_le (tgt := 61) hx hb dX12_believe_53 (by decide) (fun c_64 => ?_) (fun c_64 => ?_)
        · refine lv_iload_n hx hb dX12_believe_61 rfl (lv_at hl 3 rfl) ?_
          refine lv_istore_n (lv' := [(2, .int v_32), (1, .int v_33), (4, .int r_57), (3, .int (nI k_12)), (0, .ref mo)]) hx hb dX12_believe_62 rfl hl (by decide) rfl (fun ls hl => ?_)
          refine lv_iinc (v := (nI (k_12 + 1))) (lv' := [(3, .int (nI (k_12 + 1))), (2, .int v_32), (1, .int v_33), (4, .int r_57), (0, .ref mo)]) hx hb dX12_believe_63 hl (k := 3) rfl (nI_add k_12 1) (by decide) rfl (fun ls hl => ?_)
          refine lv_goto (tgt := 21) hx hb dX12_believe_66 (by decide) ?_
          exact ih_50 ((k_12 + 1), h_allWeights_59, h_trulyIs_60, h_canBe_61, gw__62, v_32, v_33, H, locs, ls) ⟨by dsimp only; omega, hP, hD, hS, lv_sub hl [0, 1, 2, 4] rfl⟩ (by dsimp only; omega)
        · refine lv_iload hx hb dX12_believe_56 (lv_at hl 1 rfl) ?_
          refine lv_goto (tgt := 62) hx hb dX12_believe_58 (by decide) ?_
          refine lv_istore_n (lv' := [(2, .int r_57), (1, .int v_33), (4, .int r_57), (3, .int (nI k_12)), (0, .ref mo)]) hx hb dX12_believe_62 rfl hl (by decide) rfl (fun ls hl => ?_)
          refine lv_iinc (v := (nI (k_12 + 1))) (lv' := [(3, .int (nI (k_12 + 1))), (2, .int r_57), (1, .int v_33), (4, .int r_57), (0, .ref mo)]) hx hb dX12_believe_63 hl (k := 3) rfl (nI_add k_12 1) (by decide) rfl (fun ls hl => ?_)
          refine lv_goto (tgt := 21) hx hb dX12_believe_66 (by decide) ?_
          exact ih_50 ((k_12 + 1), h_allWeights_59, h_trulyIs_60, h_canBe_61, gw__62, r_57, v_33, H, locs, ls) ⟨by dsimp only; omega, hP, hD, hS, lv_sub hl [0, 1, 2, 4] rfl⟩ (by dsimp only; omega)
      · refine lv_iload_n hx hb dX12_believe_44 rfl (lv_at hl 1 rfl) ?_
        refine lv_goto (tgt := 49) hx hb dX12_believe_45 (by decide) ?_
        refine lv_istore_n (lv' := [(1, .int (nI k_12)), (4, .int r_57), (3, .int (nI k_12)), (2, .int v_32), (0, .ref mo)]) hx hb dX12_believe_49 rfl hl (by decide) rfl (fun ls hl => ?_)
        refine lv_iload hx hb dX12_believe_50 (lv_at hl 1 rfl) ?_
        refine lv_iload_n hx hb dX12_believe_52 rfl (lv_at hl 3 rfl) ?_
        refine lv_icmp_le (tgt := 61) hx hb dX12_believe_53 (by decide) (fun c_65 => ?_) (fun c_65 => ?_)
        · refine lv_iload_n hx hb dX12_believe_61 rfl (lv_at hl 3 rfl) ?_
          refine lv_istore_n (lv' := [(2, .int v_32), (1, .int (nI k_12)), (4, .int r_57), (3, .int (nI k_12)), (0, .ref mo)]) hx hb dX12_believe_62 rfl hl (by decide) rfl (fun ls hl => ?_)
          refine lv_iinc (v := (nI (k_12 + 1))) (lv' := [(3, .int (nI (k_12 + 1))), (2, .int v_32), (1, .int (nI k_12)), (4, .int r_57), (0, .ref mo)]) hx hb dX12_believe_63 hl (k := 3) rfl (nI_add k_12 1) (by decide) rfl (fun ls hl => ?_)
          refine lv_goto (tgt := 21) hx hb dX12_believe_66 (by decide) ?_
          exact ih_50 ((k_12 + 1), h_allWeights_59, h_trulyIs_60, h_canBe_61, gw__62, v_32, (nI k_12), H, locs, ls) ⟨by dsimp only; omega, hP, hD, hS, lv_sub hl [0, 1, 2, 4] rfl⟩ (by dsimp only; omega)
        · refine lv_iload hx hb dX12_believe_56 (lv_at hl 1 rfl) ?_
          refine lv_goto (tgt := 62) hx hb dX12_believe_58 (by decide) ?_
          refine lv_istore_n (lv' := [(2, .int r_57), (1, .int (nI k_12)), (4, .int r_57), (3, .int (nI k_12)), (0, .ref mo)]) hx hb dX12_believe_62 rfl hl (by decide) rfl (fun ls hl => ?_)
          refine lv_iinc (v := (nI (k_12 + 1))) (lv' := [(3, .int (nI (k_12 + 1))), (2, .int r_57), (1, .int (nI k_12)), (4, .int r_57), (0, .ref mo)]) hx hb dX12_believe_63 hl (k := 3) rfl (nI_add k_12 1) (by decide) rfl (fun ls hl => ?_)
          refine lv_goto (tgt := 21) hx hb dX12_believe_66 (by decide) ?_
          exact ih_50 ((k_12 + 1), h_allWeights_59, h_trulyIs_60, h_canBe_61, gw__62, r_57, (nI k_12), H, locs, ls) ⟨by dsimp only; omega, hP, hD, hS, lv_sub hl [0, 1, 2, 4] rfl⟩ (by dsimp only; omega)
  · have hn_66 : j_1 = 0 := (nI_eq (a := j_1) (b := 0) (by omega) (by omega)).mp c_4
    refine lv_iconst (v := (-1)) hx hb dX12_believe_9 (by decide) ?_
    have hP9 := hP.sub (ws' := [(mo, .inr (12, [.ref nw, .ref kp, .ref ik, .ref mr, .long la_, .long lb_, .ref mw, .long lc_, .int ti_, .int cb_, .long ld_, .long le_, .ref mq, .ref mz, .ref my, .int sm_, .ref mb, .int bl_, .int ta_, .int tl_, .int tk_, .int vl_, .ref mx, .ref mv])), (nw, .inl (cn_, 350, .inl fn)), (mw, .inl (cw_, 21, .inr (.inl fw_)))]) [0, 1, 2] rfl
    have hD9 := hD.sub (ws' := [(mo, .inr (12, [.ref nw, .ref kp, .ref ik, .ref mr, .long la_, .long lb_, .ref mw, .long lc_, .int ti_, .int cb_, .long ld_, .long le_, .ref mq, .ref mz, .ref my, .int sm_, .ref mb, .int bl_, .int ta_, .int tl_, .int tk_, .int vl_, .ref mx, .ref mv])), (nw, .inl (cn_, 350, .inl fn)), (mw, .inl (cw_, 21, .inr (.inl fw_)))]) [0, 1, 2] (by decide) rfl
    have hK9 := hK.sub (tys' := [(cn_, .int), (cw_, .long)]) [0, 1] rfl
    exact W.iret (v := (-1)) hx hb hr (fun t ht hW => ⟨⟨(-1), (), rfl, trivial, lc_, ti_, cb_, fw_, by rw [ht]; exact hP9, va_K.moved hW.alike hK9, hD9⟩, hS.F ht⟩) hS.2.2 dX12_believe_10
set_option maxRecDepth 20000 in
theorem ggX12_open_X12_weigh : GoodIn wsX12_open wsX12_weigh := goodIn_r _ [7, 8, 2, 9, 10, 11, 12, 13, 6, 14, 1, 15, 16, 17, 18, 19, 20, 21, 22, 23, 24, 25, 26, 27, 28, 29, 30, 31, 32, 33, 34, 35, 36, 37, 38, 39, 40, 41, 42, 43, 44, 45, 46, 47, 48, 49, 50, 51, 52, 53, 54, 55, 56, 57, 58, 59, 60, 61, 62, 63] (by decide +kernel) (by decide +kernel)
set_option maxRecDepth 20000 in
theorem gX12_open_X12_weigh : GoodIn wsX12_open (wsV RX12 165 RX12 yX12_weigh wsX12_weigh) := goodIn_app (goodIn_of _ (by decide +kernel)) ggX12_open_X12_weigh
set_option maxRecDepth 20000 in
theorem ggX12_open_X12_bundleHas : GoodIn wsX12_open wsX12_bundleHas := goodIn_r _ [18, 1, 40, 41, 42, 43, 44, 45, 46, 47, 48, 49, 50, 51, 52, 53, 54, 55, 56, 57, 58, 59, 60, 61, 62, 63] (by decide +kernel) (by decide +kernel)
set_option maxRecDepth 20000 in
theorem gX12_open_X12_bundleHas : GoodIn wsX12_open (wsV RX12 88 RX12 yX12_bundleHas wsX12_bundleHas) := goodIn_app (goodIn_of _ (by decide +kernel)) ggX12_open_X12_bundleHas
theorem dX12_open_0 : decode cX12_open 0 = .ok (.iconst 0, 1) := by decide +kernel
theorem dX12_open_1 : decode cX12_open 1 = .ok (.istore_n 1, 1) := by decide +kernel
theorem dX12_open_2 : decode cX12_open 2 = .ok (.iconst 0, 1) := by decide +kernel
theorem dX12_open_3 : decode cX12_open 3 = .ok (.istore_n 2, 1) := by decide +kernel
theorem dX12_open_4 : decode cX12_open 4 = .ok (.iload_n 2, 1) := by decide +kernel
theorem dX12_open_5 : decode cX12_open 5 = .ok (.aload_n 0, 1) := by decide +kernel
theorem dX12_open_6 : decode cX12_open 6 = .ok (.getfield 7, 3) := by decide +kernel
theorem dX12_open_9 : decode cX12_open 9 = .ok (.iconst 1, 1) := by decide +kernel
theorem dX12_open_10 : decode cX12_open 10 = .ok (.iaload, 1) := by decide +kernel
theorem dX12_open_11 : decode cX12_open 11 = .ok (.if_icmp .ge 65, 3) := by decide +kernel
theorem dX12_open_14 : decode cX12_open 14 = .ok (.aload_n 0, 1) := by decide +kernel
theorem dX12_open_15 : decode cX12_open 15 = .ok (.iload_n 2, 1) := by decide +kernel
theorem dX12_open_16 : decode cX12_open 16 = .ok (.invokevirtual 165, 3) := by decide +kernel
theorem dX12_open_19 : decode cX12_open 19 = .ok (.aload_n 0, 1) := by decide +kernel
theorem dX12_open_20 : decode cX12_open 20 = .ok (.getfield 154, 3) := by decide +kernel
theorem dX12_open_23 : decode cX12_open 23 = .ok (.iconst (-1), 1) := by decide +kernel
theorem dX12_open_24 : decode cX12_open 24 = .ok (.if_icmp .eq 30, 3) := by decide +kernel
theorem dX12_open_54 : decode cX12_open 54 = .ok (.iconst 0, 1) := by decide +kernel
theorem dX12_open_55 : decode cX12_open 55 = .ok (.istore_n 3, 1) := by decide +kernel
theorem dX12_open_56 : decode cX12_open 56 = .ok (.iload_n 1, 1) := by decide +kernel
theorem dX12_open_57 : decode cX12_open 57 = .ok (.iload_n 3, 1) := by decide +kernel
theorem dX12_open_58 : decode cX12_open 58 = .ok (.ifCond .eq 9, 3) := by decide +kernel
theorem dX12_open_67 : decode cX12_open 67 = .ok (.iconst 0, 1) := by decide +kernel
theorem dX12_open_68 : decode cX12_open 68 = .ok (.ior, 1) := by decide +kernel
theorem dX12_open_69 : decode cX12_open 69 = .ok (.istore_n 1, 1) := by decide +kernel
theorem dX12_open_70 : decode cX12_open 70 = .ok (.iinc 2 1, 3) := by decide +kernel
theorem dX12_open_73 : decode cX12_open 73 = .ok (.goto (-69), 3) := by decide +kernel
theorem dX12_open_27 : decode cX12_open 27 = .ok (.aload_n 0, 1) := by decide +kernel
theorem dX12_open_28 : decode cX12_open 28 = .ok (.iload_n 2, 1) := by decide +kernel
theorem dX12_open_29 : decode cX12_open 29 = .ok (.iconst 2, 1) := by decide +kernel
theorem dX12_open_30 : decode cX12_open 30 = .ok (.invokevirtual 88, 3) := by decide +kernel
theorem dX12_open_33 : decode cX12_open 33 = .ok (.iconst (-1), 1) := by decide +kernel
theorem dX12_open_34 : decode cX12_open 34 = .ok (.if_icmp .eq 20, 3) := by decide +kernel
theorem dX12_open_37 : decode cX12_open 37 = .ok (.aload_n 0, 1) := by decide +kernel
theorem dX12_open_38 : decode cX12_open 38 = .ok (.iload_n 2, 1) := by decide +kernel
theorem dX12_open_39 : decode cX12_open 39 = .ok (.iconst 2, 1) := by decide +kernel
theorem dX12_open_40 : decode cX12_open 40 = .ok (.invokevirtual 88, 3) := by decide +kernel
theorem dX12_open_43 : decode cX12_open 43 = .ok (.aload_n 0, 1) := by decide +kernel
theorem dX12_open_44 : decode cX12_open 44 = .ok (.getfield 154, 3) := by decide +kernel
theorem dX12_open_47 : decode cX12_open 47 = .ok (.if_icmp .eq 7, 3) := by decide +kernel
theorem dX12_open_50 : decode cX12_open 50 = .ok (.iconst 1, 1) := by decide +kernel
theorem dX12_open_51 : decode cX12_open 51 = .ok (.goto 4, 3) := by decide +kernel
theorem dX12_open_61 : decode cX12_open 61 = .ok (.iconst 1, 1) := by decide +kernel
theorem dX12_open_62 : decode cX12_open 62 = .ok (.iload_n 2, 1) := by decide +kernel
theorem dX12_open_63 : decode cX12_open 63 = .ok (.ishl, 1) := by decide +kernel
theorem dX12_open_64 : decode cX12_open 64 = .ok (.goto 4, 3) := by decide +kernel
theorem dX12_open_76 : decode cX12_open 76 = .ok (.iload_n 1, 1) := by decide +kernel
theorem dX12_open_77 : decode cX12_open 77 = .ok (.ireturn, 1) := by decide +kernel
set_option maxRecDepth 20000 in
theorem iw_m_open_X12 : ∀ w ∈ wsX120, w ∈ wsX12_open := by decide +kernel
set_option maxHeartbeats 4000000 in
set_option maxRecDepth 100000 in
theorem m_open (l : Launch) (dC : Nat → ClassId) (dI : Nat → Nat → Nat) (mo : Nat) (nw : Nat) (kp : Nat) (ik : Nat) (mr : Nat) (la_ : Int64) (lb_ : Int64) (mw : Nat) (lc_ : Int64) (ti_ : Int32) (cb_ : Int32) (ld_ : Int64) (le_ : Int64) (mq : Nat) (mz : Nat) (my : Nat) (sm_ : Int32) (mb : Nat) (bl_ : Int32) (ta_ : Int32) (tl_ : Int32) (tk_ : Int32) (vl_ : Int32) (mx : Nat) (mv : Nat) (cn_ : ClassId) (fn : Nat → Int32) (cw_ : ClassId) (fw_ : Nat → Int64) (sz : Nat) (hOn : tz_OK 350 fn) : Met l yX12_open wsX12_open ({ frames := 5, cells := 0, slots := 0, locals := 121 }) (va_Pc [.ref mo] (fun U => U.heap.size = sz ∧ va_P (dC, dI) vwCl [(mo, .inr (12, [.ref nw, .ref kp, .ref ik, .ref mr, .long la_, .long lb_, .ref mw, .long lc_, .int ti_, .int cb_, .long ld_, .long le_, .ref mq, .ref mz, .ref my, .int sm_, .ref mb, .int bl_, .int ta_, .int tl_, .int tk_, .int vl_, .ref mx, .ref mv])), (nw, .inl (cn_, 350, .inl fn)), (mw, .inl (cw_, 21, .inr (.inl fw_)))] U.heap ∧ va_K (dC, dI) vwCl [(cn_, .int), (cw_, .long)] U ∧ va_D (fun _ => True) [(mo, .inr (12, [.ref nw, .ref kp, .ref ik, .ref mr, .long la_, .long lb_, .ref mw, .long lc_, .int ti_, .int cb_, .long ld_, .long le_, .ref mq, .ref mz, .ref my, .int sm_, .ref mb, .int bl_, .int ta_, .int tl_, .int tk_, .int vl_, .ref mx, .ref mv])), (nw, .inl (cn_, 350, .inl fn)), (mw, .inl (cw_, 21, .inr (.inl fw_)))])) (va_Qi (fun (r : Int32) (_ : Unit) => True) (fun _ t => ∃ (h_allWeights : Int64) (h_trulyIs : Int32) (h_canBe : Int32) (gw_ : Nat → Int64), va_P (dC, dI) vwCl [(mo, .inr (12, [.ref nw, .ref kp, .ref ik, .ref mr, .long la_, .long lb_, .ref mw, .long h_allWeights, .int h_trulyIs, .int h_canBe, .long ld_, .long le_, .ref mq, .ref mz, .ref my, .int sm_, .ref mb, .int bl_, .int ta_, .int tl_, .int tk_, .int vl_, .ref mx, .ref mv])), (nw, .inl (cn_, 350, .inl fn)), (mw, .inl (cw_, 21, .inr (.inl gw_)))] t.heap ∧ va_K (dC, dI) vwCl [(cn_, .int), (cw_, .long)] t ∧ va_D (va_A [(mo, .inr (12, [.ref nw, .ref kp, .ref ik, .ref mr, .long la_, .long lb_, .ref mw, .long lc_, .int ti_, .int cb_, .long ld_, .long le_, .ref mq, .ref mz, .ref my, .int sm_, .ref mb, .int bl_, .int ta_, .int tl_, .int tk_, .int vl_, .ref mx, .ref mv])), (nw, .inl (cn_, 350, .inl fn)), (mw, .inl (cw_, 21, .inr (.inl fw_)))] sz) [(mo, .inr (12, [.ref nw, .ref kp, .ref ik, .ref mr, .long la_, .long lb_, .ref mw, .long h_allWeights, .int h_trulyIs, .int h_canBe, .long ld_, .long le_, .ref mq, .ref mz, .ref my, .int sm_, .ref mb, .int bl_, .int ta_, .int tl_, .int tk_, .int vl_, .ref mx, .ref mv])), (nw, .inl (cn_, 350, .inl fn)), (mw, .inl (cw_, 21, .inr (.inl gw_)))]) (va_A [(mo, .inr (12, [.ref nw, .ref kp, .ref ik, .ref mr, .long la_, .long lb_, .ref mw, .long lc_, .int ti_, .int cb_, .long ld_, .long le_, .ref mq, .ref mz, .ref my, .int sm_, .ref mb, .int bl_, .int ta_, .int tl_, .int tk_, .int vl_, .ref mx, .ref mv])), (nw, .inl (cn_, 350, .inl fn)), (mw, .inl (cw_, 21, .inr (.inl fw_)))] sz)) 0 0 (va_A [(mo, .inr (12, [.ref nw, .ref kp, .ref ik, .ref mr, .long la_, .long lb_, .ref mw, .long lc_, .int ti_, .int cb_, .long ld_, .long le_, .ref mq, .ref mz, .ref my, .int sm_, .ref mb, .int bl_, .int ta_, .int tl_, .int tk_, .int vl_, .ref mx, .ref mv])), (nw, .inl (cn_, 350, .inl fn)), (mw, .inl (cw_, 21, .inr (.inl fw_)))] sz) := by
  refine Met.ofW (cc := cX12_open) (maxL := 4) (ret := (some .int)) (by decide) rfl ?_
  intro p e s m args below meth c s₁ B hml hv
  obtain ⟨rfl, hsz, hP, hK, hD0⟩ := hv
  have hx := B.exec
  have hb := B.bytes
  have hr := B.returns
  have hts := atoms_spec (ws := wsX12_open) B.pre
  have hown : s.vm.findClass RX12 = some m.cls := findClass_of_methodNamed B.named
  have hlocks := B.notSynchronized
  subst hsz
  have hD := hD0.self (sz := s.heap.size)
  generalize hAe : va_A [(mo, .inr (12, [.ref nw, .ref kp, .ref ik, .ref mr, .long la_, .long lb_, .ref mw, .long lc_, .int ti_, .int cb_, .long ld_, .long le_, .ref mq, .ref mz, .ref my, .int sm_, .ref mb, .int bl_, .int ta_, .int tl_, .int tk_, .int vl_, .ref mx, .ref mv])), (nw, .inl (cn_, 350, .inl fn)), (mw, .inl (cw_, 21, .inr (.inl fw_)))] s.heap.size = A at hD ⊢
  have hA : ∀ q : Nat, s.heap.size ≤ q → A q := fun q h => by rw [← hAe]; exact Or.inr h
  have hS : va_S A s.heap s.heap [] := va_S.rf
  have hP : va_P (dC, dI) vwCl [(mo, .inr (12, [.ref nw, .ref kp, .ref ik, .ref mr, .long la_, .long lb_, .ref mw, .long lc_, .int ti_, .int cb_, .long ld_, .long le_, .ref mq, .ref mz, .ref my, .int sm_, .ref mb, .int bl_, .int ta_, .int tl_, .int tk_, .int vl_, .ref mx, .ref mv])), (nw, .inl (cn_, 350, .inl fn)), (mw, .inl (cw_, 21, .inr (.inl fw_)))] s.heap := hP
  have hl := lv_entry ([.ref mo]) (n := 4) (Nat.le_of_ble_eq_true rfl)
  rw [lg_entry_eq]
  generalize (lg_sl ([.ref mo]) ++ List.replicate (4 - (lg_sl ([.ref mo])).length) Slot.unset).toArray = ls at hl ⊢
  have hl : lv_has ls 4 [(0, .ref mo)] := hl
  refine lv_iconst (v := 0) hx hb dX12_open_0 (by decide) ?_
  refine lv_istore_n (lv' := [(1, .int 0), (0, .ref mo)]) hx hb dX12_open_1 rfl hl (by decide) rfl (fun ls hl => ?_)
  refine lv_iconst (v := 0) hx hb dX12_open_2 (by decide) ?_
  refine lv_istore_n (lv' := [(2, .int 0), (1, .int 0), (0, .ref mo)]) hx hb dX12_open_3 rfl hl (by decide) rfl (fun ls hl => ?_)
  refine tz_while (σ := Nat × Int64 × Int32 × Int32 × (Nat → Int64) × Int32 × Heap × List Loc × Array Slot) (fun x => W p l e _ s m _ below meth c x.2.2.2.2.2.2.1 x.2.2.2.2.2.2.2.1 _ _ _ (F0 m 4 x.2.2.2.2.2.2.2.2 [])) (fun x => x.1 ≤ 5 ∧ va_P (dC, dI) vwCl [(mo, .inr (12, [.ref nw, .ref kp, .ref ik, .ref mr, .long la_, .long lb_, .ref mw, .long x.2.1, .int x.2.2.1, .int x.2.2.2.1, .long ld_, .long le_, .ref mq, .ref mz, .ref my, .int sm_, .ref mb, .int bl_, .int ta_, .int tl_, .int tk_, .int vl_, .ref mx, .ref mv])), (nw, .inl (cn_, 350, .inl fn)), (mw, .inl (cw_, 21, .inr (.inl x.2.2.2.2.1)))] x.2.2.2.2.2.2.1 ∧ va_D A [(mo, .inr (12, [.ref nw, .ref kp, .ref ik, .ref mr, .long la_, .long lb_, .ref mw, .long x.2.1, .int x.2.2.1, .int x.2.2.2.1, .long ld_, .long le_, .ref mq, .ref mz, .ref my, .int sm_, .ref mb, .int bl_, .int ta_, .int tl_, .int tk_, .int vl_, .ref mx, .ref mv])), (nw, .inl (cn_, 350, .inl fn)), (mw, .inl (cw_, 21, .inr (.inl x.2.2.2.2.1)))] ∧ va_S A s.heap x.2.2.2.2.2.2.1 x.2.2.2.2.2.2.2.1 ∧ lv_has x.2.2.2.2.2.2.2.2 4 [(2, .int (nI x.1)), (1, .int x.2.2.2.2.2.1), (0, .ref mo)]) (fun x => 5 - x.1) ?_ (0, lc_, ti_, cb_, fw_, 0, s.heap, [], ls) ⟨by (try dsimp only); omega, hP, hD, hS, hl⟩
  rintro ⟨k_1, v_32, v_33, v_34, f_35, v_36, H, locs, ls⟩ ⟨hi_70_0, hP, hD, hS, hl⟩ ih_71
  dsimp only at hi_70_0 hP hD hS hl ih_71 ⊢
  refine lv_iload_n hx hb dX12_open_4 rfl (lv_at hl 0 rfl) ?_
  refine lv_aload_n hx hb dX12_open_5 rfl (lv_at hl 2 rfl) ?_
  refine va_get (D := (dC, dI)) (ci := 12) (v := .ref nw) (C := RX12) (T := TX12) (N := 24) hx hb hts iw_m_open_X12 hown hK hP 0 rfl rfl 0 (by decide) (hts (.fieldLink RX12 7 "ThriceCountedModel" "now" "[I") (by decide +kernel)) (fun _ h9 => h9) rfl dX12_open_6 ?_
  refine lv_iconst (v := 1) hx hb dX12_open_9 (by decide) ?_
  refine va_iald hx hb hK hP 1 0 rfl rfl (show ¬ ((1 : Int32) < 0 ∨ 350 ≤ (1 : Int32).toNatClampNeg) by decide) dX12_open_10 ?_
  obtain ⟨j_72, hj_73, ej_74⟩ := hOn.nat (K := 1) (n := 5) (by omega) (show tz_b 1 = (0, 5) from by decide)
  refine tz_i (nI j_72) ej_74 ?_
  refine lv_icmp_ge (tgt := 76) hx hb dX12_open_11 (by decide) (fun c_75 => ?_) (fun c_75 => ?_)
  · have hn_76 : j_72 ≤ k_1 := (nI_leI (a := j_72) (b := k_1) (by omega) (by omega)).mp c_75
    refine lv_iload_n hx hb dX12_open_76 rfl (lv_at hl 1 rfl) ?_
    have hP9 := hP.sub (ws' := [(mo, .inr (12, [.ref nw, .ref kp, .ref ik, .ref mr, .long la_, .long lb_, .ref mw, .long v_32, .int v_33, .int v_34, .long ld_, .long le_, .ref mq, .ref mz, .ref my, .int sm_, .ref mb, .int bl_, .int ta_, .int tl_, .int tk_, .int vl_, .ref mx, .ref mv])), (nw, .inl (cn_, 350, .inl fn)), (mw, .inl (cw_, 21, .inr (.inl f_35)))]) [0, 1, 2] rfl
    have hD9 := hD.sub (ws' := [(mo, .inr (12, [.ref nw, .ref kp, .ref ik, .ref mr, .long la_, .long lb_, .ref mw, .long v_32, .int v_33, .int v_34, .long ld_, .long le_, .ref mq, .ref mz, .ref my, .int sm_, .ref mb, .int bl_, .int ta_, .int tl_, .int tk_, .int vl_, .ref mx, .ref mv])), (nw, .inl (cn_, 350, .inl fn)), (mw, .inl (cw_, 21, .inr (.inl f_35)))]) [0, 1, 2] (by decide) rfl
    have hK9 := hK.sub (tys' := [(cn_, .int), (cw_, .long)]) [0, 1] rfl
    exact W.iret (v := v_36) hx hb hr (fun t ht hW => ⟨⟨v_36, (), rfl, trivial, v_32, v_33, v_34, f_35, by rw [ht]; exact hP9, va_K.moved hW.alike hK9, hD9⟩, hS.F ht⟩) hS.2.2 dX12_open_77
  · have hn_77 : ¬ j_72 ≤ k_1 := fun q => c_75 ((nI_leI (a := j_72) (b := k_1) (by omega) (by omega)).mpr q)
    refine lv_aload_n hx hb dX12_open_14 rfl (lv_at hl 2 rfl) ?_
    refine lv_iload_n hx hb dX12_open_15 rfl (lv_at hl 0 rfl) ?_
    have hPc := hP.sub (ws' := [(mo, .inr (12, [.ref nw, .ref kp, .ref ik, .ref mr, .long la_, .long lb_, .ref mw, .long v_32, .int v_33, .int v_34, .long ld_, .long le_, .ref mq, .ref mz, .ref my, .int sm_, .ref mb, .int bl_, .int ta_, .int tl_, .int tk_, .int vl_, .ref mx, .ref mv])), (nw, .inl (cn_, 350, .inl fn)), (mw, .inl (cw_, 21, .inr (.inl f_35)))]) [0, 1, 2] rfl
    have hDc := hD.sub (ws' := [(mo, .inr (12, [.ref nw, .ref kp, .ref ik, .ref mr, .long la_, .long lb_, .ref mw, .long v_32, .int v_33, .int v_34, .long ld_, .long le_, .ref mq, .ref mz, .ref my, .int sm_, .ref mb, .int bl_, .int ta_, .int tl_, .int tk_, .int vl_, .ref mx, .ref mv])), (nw, .inl (cn_, 350, .inl fn)), (mw, .inl (cw_, 21, .inr (.inl f_35)))]) [0, 1, 2] (by decide) rfl
    have hKc := hK.sub (tys' := [(cn_, .int), (cw_, .long)]) [0, 1] rfl
    have hFc := va_free (wc := [(mo, .inr (12, [.ref nw, .ref kp, .ref ik, .ref mr, .long la_, .long lb_, .ref mw, .long v_32, .int v_33, .int v_34, .long ld_, .long le_, .ref mq, .ref mz, .ref my, .int sm_, .ref mb, .int bl_, .int ta_, .int tl_, .int tk_, .int vl_, .ref mx, .ref mv])), (nw, .inl (cn_, 350, .inl fn)), (mw, .inl (cw_, 21, .inr (.inl f_35)))]) hD hS hA [0, 1, 2] rfl
    refine va_callv (va_runV (As := [.int (nI k_1)]) (rest := []) ⟨hx, hb, hml, hown, hts⟩ (m_weigh l dC dI mo nw kp ik mr la_ lb_ mw v_32 v_33 v_34 ld_ le_ mq mz my sm_ mb bl_ ta_ tl_ tk_ vl_ mx mv cn_ fn cw_ f_35 k_1 H.size hOn (by omega)) (cwV 1 hts gX12_open_X12_weigh rfl rfl rfl (by decide +kernel) ⟨Nat.le_of_ble_eq_true rfl, Nat.le_of_ble_eq_true rfl⟩) ⟨fun a U g mk q => by obtain ⟨q0, q1, qP, qK, qD⟩ := q; exact ⟨q0, q1, qP, va_K.moved (u := U) (U := U.calling g mk a) (Vm.Alike.refl U.vm) qK, qD⟩, va_recv hK hP (ci := 12) (q0 := 0) rfl rfl, fun U hU hW => ⟨rfl, by rw [hU], by rw [hU]; exact hPc, va_K.moved hW.alike hKc, hDc.weaken (fun _ _ _ _ => trivial)⟩⟩ rfl rfl hl.1 rfl (lv_room (Nat.le_of_ble_eq_true rfl)) dX12_open_16 ⟨Nat.le_of_ble_eq_true rfl, Nat.le_of_ble_eq_true rfl⟩) hS (fun q _ h => hFc q h) hFc (fun u_ t H1 locs ht hvm hw_79 hB hz1 hk1 hS => ?_)
    obtain ⟨h_allWeights_80, h_trulyIs_81, h_canBe_82, gw__83, hf_84, hP1, hK1, hD1⟩ := hB
    rw [ht] at hP1
    have hK1 := va_K.moved hvm.symm hK1
    obtain ⟨hP, hD⟩ := va_join (wr := []) (w1 := [(mo, .inr (12, [.ref nw, .ref kp, .ref ik, .ref mr, .long la_, .long lb_, .ref mw, .long h_allWeights_80, .int h_trulyIs_81, .int h_canBe_82, .long ld_, .long le_, .ref mq, .ref mz, .ref my, .int sm_, .ref mb, .int bl_, .int ta_, .int tl_, .int tk_, .int vl_, .ref mx, .ref mv])), (nw, .inl (cn_, 350, .inl fn)), (mw, .inl (cw_, 21, .inr (.inl gw__83)))]) hP hD [0, 1, 2] [] rfl rfl (by decide) (by decide) hk1 hFc hP1 hD1
    generalize H1 = H at hP hS ⊢
    have hP : va_P (dC, dI) vwCl [(mo, .inr (12, [.ref nw, .ref kp, .ref ik, .ref mr, .long la_, .long lb_, .ref mw, .long h_allWeights_80, .int h_trulyIs_81, .int h_canBe_82, .long ld_, .long le_, .ref mq, .ref mz, .ref my, .int sm_, .ref mb, .int bl_, .int ta_, .int tl_, .int tk_, .int vl_, .ref mx, .ref mv])), (nw, .inl (cn_, 350, .inl fn)), (mw, .inl (cw_, 21, .inr (.inl gw__83)))] H := hP
    have hD : va_D A [(mo, .inr (12, [.ref nw, .ref kp, .ref ik, .ref mr, .long la_, .long lb_, .ref mw, .long h_allWeights_80, .int h_trulyIs_81, .int h_canBe_82, .long ld_, .long le_, .ref mq, .ref mz, .ref my, .int sm_, .ref mb, .int bl_, .int ta_, .int tl_, .int tk_, .int vl_, .ref mx, .ref mv])), (nw, .inl (cn_, 350, .inl fn)), (mw, .inl (cw_, 21, .inr (.inl gw__83)))] := hD
    refine lv_aload_n hx hb dX12_open_19 rfl (lv_at hl 2 rfl) ?_
    refine va_get (D := (dC, dI)) (ci := 12) (v := .int h_trulyIs_81) (C := RX12) (T := TX12) (N := 24) hx hb hts iw_m_open_X12 hown hK hP 0 rfl rfl 8 (by decide) (hts (.fieldLink RX12 154 "ThriceCountedModel" "trulyIs" "I") (by decide +kernel)) (fun _ h9 => h9) rfl dX12_open_20 ?_
    refine lv_iconst (v := (-1)) hx hb dX12_open_23 (by decide) ?_
    refine lv_icmp_eq (tgt := 54) hx hb dX12_open_24 (by decide) (fun c_85 => ?_) (fun c_85 => ?_)
    · refine lv_iconst (v := 0) hx hb dX12_open_54 (by decide) ?_
      refine lv_istore_n (lv' := [(3, .int 0), (2, .int (nI k_1)), (1, .int v_36), (0, .ref mo)]) hx hb dX12_open_55 rfl hl (by decide) rfl (fun ls hl => ?_)
      refine lv_iload_n hx hb dX12_open_56 rfl (lv_at hl 2 rfl) ?_
      refine lv_iload_n hx hb dX12_open_57 rfl (lv_at hl 0 rfl) ?_
      refine lv_if_eq (tgt := 67) hx hb dX12_open_58 (by decide) (fun c_86 => ?_) (fun c_86 => ?_)
      · refine lv_iconst (v := 0) hx hb dX12_open_67 (by decide) ?_
        refine lv_ior hx hb dX12_open_68 ?_
        refine lv_topi (fun x_87 _ => ?_)
        refine lv_istore_n (lv' := [(1, .int x_87), (3, .int 0), (2, .int (nI k_1)), (0, .ref mo)]) hx hb dX12_open_69 rfl hl (by decide) rfl (fun ls hl => ?_)
        refine lv_iinc (v := (nI (k_1 + 1))) (lv' := [(2, .int (nI (k_1 + 1))), (1, .int x_87), (3, .int 0), (0, .ref mo)]) hx hb dX12_open_70 hl (k := 2) rfl (nI_add k_1 1) (by decide) rfl (fun ls hl => ?_)
        refine lv_goto (tgt := 4) hx hb dX12_open_73 (by decide) ?_
        exact ih_71 ((k_1 + 1), h_allWeights_80, h_trulyIs_81, h_canBe_82, gw__83, x_87, H, locs, ls) ⟨by dsimp only; omega, hP, hD, hS, lv_sub hl [0, 1, 3] rfl⟩ (by dsimp only; omega)
      · exact absurd c_86 (by decide)
    · refine lv_aload_n hx hb dX12_open_27 rfl (lv_at hl 2 rfl) ?_
      refine lv_iload_n hx hb dX12_open_28 rfl (lv_at hl 0 rfl) ?_
      refine lv_iconst (v := 2) hx hb dX12_open_29 (by decide) ?_
      have hPc_88 := hP.sub (ws' := [(mo, .inr (12, [.ref nw, .ref kp, .ref ik, .ref mr, .long la_, .long lb_, .ref mw, .long h_allWeights_80, .int h_trulyIs_81, .int h_canBe_82, .long ld_, .long le_, .ref mq, .ref mz, .ref my, .int sm_, .ref mb, .int bl_, .int ta_, .int tl_, .int tk_, .int vl_, .ref mx, .ref mv])), (nw, .inl (cn_, 350, .inl fn))]) [0, 1] rfl
      have hKc_89 := hK.sub (tys' := [(cn_, .int)]) [0] rfl
      refine vp_callSi (va_Run.run (va_runV (As := [.int (nI k_1), .int 2]) (rest := []) ⟨hx, hb, hml, hown, hts⟩ (m_bundleHas2 l dC dI mo nw kp ik mr la_ lb_ mw h_allWeights_80 h_trulyIs_81 h_canBe_82 ld_ le_ mq mz my sm_ mb bl_ ta_ tl_ tk_ vl_ mx mv cn_ fn k_1 hOn (by omega)) (cwV 2 hts gX12_open_X12_bundleHas rfl rfl rfl (by decide +kernel) ⟨Nat.le_of_ble_eq_true rfl, Nat.le_of_ble_eq_true rfl⟩) ⟨fun a U g mk q => by obtain ⟨q0, qP, qK⟩ := q; exact ⟨q0, qP, va_K.moved (u := U) (U := U.calling g mk a) (Vm.Alike.refl U.vm) qK⟩, va_recv hK hP (ci := 12) (q0 := 0) rfl rfl, fun U hU hW => ⟨rfl, by rw [hU]; exact hPc_88, va_K.moved hW.alike hKc_89⟩⟩ rfl rfl hl.1 rfl (lv_room (Nat.le_of_ble_eq_true rfl)) dX12_open_30 ⟨Nat.le_of_ble_eq_true rfl, Nat.le_of_ble_eq_true rfl⟩)) (fun r_90 hw_91 => ?_)
      refine lv_iconst (v := (-1)) hx hb dX12_open_33 (by decide) ?_
      refine lv_icmp_eq (tgt := 54) hx hb dX12_open_34 (by decide) (fun c_92 => ?_) (fun c_92 => ?_)
      · refine lv_iconst (v := 0) hx hb dX12_open_54 (by decide) ?_
        refine lv_istore_n (lv' := [(3, .int 0), (2, .int (nI k_1)), (1, .int v_36), (0, .ref mo)]) hx hb dX12_open_55 rfl hl (by decide) rfl (fun ls hl => ?_)
        refine lv_iload_n hx hb dX12_open_56 rfl (lv_at hl 2 rfl) ?_
        refine lv_iload_n hx hb dX12_open_57 rfl (lv_at hl 0 rfl) ?_
        refine lv_if_eq (tgt := 67) hx hb dX12_open_58 (by decide) (fun c_93 => ?_) (fun c_93 => ?_)
        · refine lv_iconst (v := 0) hx hb dX12_open_67 (by decide) ?_
          refine lv_ior hx hb dX12_open_68 ?_
          refine lv_topi (fun x_94 _ => ?_)
          refine lv_istore_n (lv' := [(1, .int x_94), (3, .int 0), (2, .int (nI k_1)), (0, .ref mo)]) hx hb dX12_open_69 rfl hl (by decide) rfl (fun ls hl => ?_)
          refine lv_iinc (v := (nI (k_1 + 1))) (lv' := [(2, .int (nI (k_1 + 1))), (1, .int x_94), (3, .int 0), (0, .ref mo)]) hx hb dX12_open_70 hl (k := 2) rfl (nI_add k_1 1) (by decide) rfl (fun ls hl => ?_)
          refine lv_goto (tgt := 4) hx hb dX12_open_73 (by decide) ?_
          exact ih_71 ((k_1 + 1), h_allWeights_80, h_trulyIs_81, h_canBe_82, gw__83, x_94, H, locs, ls) ⟨by dsimp only; omega, hP, hD, hS, lv_sub hl [0, 1, 3] rfl⟩ (by dsimp only; omega)
        · exact absurd c_93 (by decide)
      · refine lv_aload_n hx hb dX12_open_37 rfl (lv_at hl 2 rfl) ?_
        refine lv_iload_n hx hb dX12_open_38 rfl (lv_at hl 0 rfl) ?_
        refine lv_iconst (v := 2) hx hb dX12_open_39 (by decide) ?_
        have hPc_95 := hP.sub (ws' := [(mo, .inr (12, [.ref nw, .ref kp, .ref ik, .ref mr, .long la_, .long lb_, .ref mw, .long h_allWeights_80, .int h_trulyIs_81, .int h_canBe_82, .long ld_, .long le_, .ref mq, .ref mz, .ref my, .int sm_, .ref mb, .int bl_, .int ta_, .int tl_, .int tk_, .int vl_, .ref mx, .ref mv])), (nw, .inl (cn_, 350, .inl fn))]) [0, 1] rfl
        have hKc_96 := hK.sub (tys' := [(cn_, .int)]) [0] rfl
        refine vp_callSi (va_Run.run (va_runV (As := [.int (nI k_1), .int 2]) (rest := []) ⟨hx, hb, hml, hown, hts⟩ (m_bundleHas2 l dC dI mo nw kp ik mr la_ lb_ mw h_allWeights_80 h_trulyIs_81 h_canBe_82 ld_ le_ mq mz my sm_ mb bl_ ta_ tl_ tk_ vl_ mx mv cn_ fn k_1 hOn (by omega)) (cwV 2 hts gX12_open_X12_bundleHas rfl rfl rfl (by decide +kernel) ⟨Nat.le_of_ble_eq_true rfl, Nat.le_of_ble_eq_true rfl⟩) ⟨fun a U g mk q => by obtain ⟨q0, qP, qK⟩ := q; exact ⟨q0, qP, va_K.moved (u := U) (U := U.calling g mk a) (Vm.Alike.refl U.vm) qK⟩, va_recv hK hP (ci := 12) (q0 := 0) rfl rfl, fun U hU hW => ⟨rfl, by rw [hU]; exact hPc_95, va_K.moved hW.alike hKc_96⟩⟩ rfl rfl hl.1 rfl (lv_room (Nat.le_of_ble_eq_true rfl)) dX12_open_40 ⟨Nat.le_of_ble_eq_true rfl, Nat.le_of_ble_eq_true rfl⟩)) (fun r_97 hw_98 => ?_)
        refine lv_aload_n hx hb dX12_open_43 rfl (lv_at hl 2 rfl) ?_
        refine va_get (D := (dC, dI)) (ci := 12) (v := .int h_trulyIs_81) (C := RX12) (T := TX12) (N := 24) hx hb hts iw_m_open_X12 hown hK hP 0 rfl rfl 8 (by decide) (hts (.fieldLink RX12 154 "ThriceCountedModel" "trulyIs" "I") (by decide +kernel)) (fun _ h9 => h9) rfl dX12_open_44 ?_
        refine lv_icmp_eq (tgt := 54) hx hb dX12_open_47 (by decide) (fun c_99 => ?_) (fun c_99 => ?_)
        · refine lv_iconst (v := 0) hx hb dX12_open_54 (by decide) ?_
          refine lv_istore_n (lv' := [(3, .int 0), (2, .int (nI k_1)), (1, .int v_36), (0, .ref mo)]) hx hb dX12_open_55 rfl hl (by decide) rfl (fun ls hl => ?_)
          refine lv_iload_n hx hb dX12_open_56 rfl (lv_at hl 2 rfl) ?_
          refine lv_iload_n hx hb dX12_open_57 rfl (lv_at hl 0 rfl) ?_
          refine lv_if_eq (tgt := 67) hx hb dX12_open_58 (by decide) (fun c_100 => ?_) (fun c_100 => ?_)
          · refine lv_iconst (v := 0) hx hb dX12_open_67 (by decide) ?_
            refine lv_ior hx hb dX12_open_68 ?_
            refine lv_topi (fun x_101 _ => ?_)
            refine lv_istore_n (lv' := [(1, .int x_101), (3, .int 0), (2, .int (nI k_1)), (0, .ref mo)]) hx hb dX12_open_69 rfl hl (by decide) rfl (fun ls hl => ?_)
            refine lv_iinc (v := (nI (k_1 + 1))) (lv' := [(2, .int (nI (k_1 + 1))), (1, .int x_101), (3, .int 0), (0, .ref mo)]) hx hb dX12_open_70 hl (k := 2) rfl (nI_add k_1 1) (by decide) rfl (fun ls hl => ?_)
            refine lv_goto (tgt := 4) hx hb dX12_open_73 (by decide) ?_
            exact ih_71 ((k_1 + 1), h_allWeights_80, h_trulyIs_81, h_canBe_82, gw__83, x_101, H, locs, ls) ⟨by dsimp only; omega, hP, hD, hS, lv_sub hl [0, 1, 3] rfl⟩ (by dsimp only; omega)
          · exact absurd c_100 (by decide)
        · refine lv_iconst (v := 1) hx hb dX12_open_50 (by decide) ?_
          refine lv_goto (tgt := 55) hx hb dX12_open_51 (by decide) ?_
          refine lv_istore_n (lv' := [(3, .int 1), (2, .int (nI k_1)), (1, .int v_36), (0, .ref mo)]) hx hb dX12_open_55 rfl hl (by decide) rfl (fun ls hl => ?_)
          refine lv_iload_n hx hb dX12_open_56 rfl (lv_at hl 2 rfl) ?_
          refine lv_iload_n hx hb dX12_open_57 rfl (lv_at hl 0 rfl) ?_
          refine lv_if_eq (tgt := 67) hx hb dX12_open_58 (by decide) (fun c_102 => ?_) (fun c_102 => ?_)
          · exact absurd c_102 (by decide)
          · refine lv_iconst (v := 1) hx hb dX12_open_61 (by decide) ?_
            refine lv_iload_n hx hb dX12_open_62 rfl (lv_at hl 1 rfl) ?_
            refine lv_ishl hx hb dX12_open_63 ?_
            refine lv_topi (fun x_103 _ => ?_)
            refine lv_goto (tgt := 68) hx hb dX12_open_64 (by decide) ?_
            refine lv_ior hx hb dX12_open_68 ?_
            refine lv_topi (fun x_104 _ => ?_)
            refine lv_istore_n (lv' := [(1, .int x_104), (3, .int 1), (2, .int (nI k_1)), (0, .ref mo)]) hx hb dX12_open_69 rfl hl (by decide) rfl (fun ls hl => ?_)
            refine lv_iinc (v := (nI (k_1 + 1))) (lv' := [(2, .int (nI (k_1 + 1))), (1, .int x_104), (3, .int 1), (0, .ref mo)]) hx hb dX12_open_70 hl (k := 2) rfl (nI_add k_1 1) (by decide) rfl (fun ls hl => ?_)
            refine lv_goto (tgt := 4) hx hb dX12_open_73 (by decide) ?_
            exact ih_71 ((k_1 + 1), h_allWeights_80, h_trulyIs_81, h_canBe_82, gw__83, x_104, H, locs, ls) ⟨by dsimp only; omega, hP, hD, hS, lv_sub hl [0, 1, 3] rfl⟩ (by dsimp only; omega)
set_option maxRecDepth 20000 in
theorem ggX12_sum_X12_weigh : GoodIn wsX12_sum wsX12_weigh := goodIn_r _ [7, 8, 2, 9, 10, 11, 12, 13, 6, 14, 1, 15, 16, 17, 18, 19, 20, 21, 22, 23, 24, 25, 26, 27, 28, 29, 30, 31, 32, 33, 34, 35, 36, 37, 38, 39, 40, 41, 42, 43, 44, 45, 46, 47, 48, 49, 50, 51, 52, 53, 54, 55, 56, 57, 58, 59, 60, 61, 62, 63] (by decide +kernel) (by decide +kernel)
set_option maxRecDepth 20000 in
theorem gX12_sum_X12_weigh : GoodIn wsX12_sum (wsV RX12 165 RX12 yX12_weigh wsX12_weigh) := goodIn_app (goodIn_of _ (by decide +kernel)) ggX12_sum_X12_weigh
theorem dX12_sum_0 : decode cX12_sum 0 = .ok (.iconst 0, 1) := by decide +kernel
theorem dX12_sum_1 : decode cX12_sum 1 = .ok (.istore_n 1, 1) := by decide +kernel
theorem dX12_sum_2 : decode cX12_sum 2 = .ok (.iconst 0, 1) := by decide +kernel
theorem dX12_sum_3 : decode cX12_sum 3 = .ok (.istore_n 2, 1) := by decide +kernel
theorem dX12_sum_4 : decode cX12_sum 4 = .ok (.iload_n 2, 1) := by decide +kernel
theorem dX12_sum_5 : decode cX12_sum 5 = .ok (.aload_n 0, 1) := by decide +kernel
theorem dX12_sum_6 : decode cX12_sum 6 = .ok (.getfield 7, 3) := by decide +kernel
theorem dX12_sum_9 : decode cX12_sum 9 = .ok (.iconst 1, 1) := by decide +kernel
theorem dX12_sum_10 : decode cX12_sum 10 = .ok (.iaload, 1) := by decide +kernel
theorem dX12_sum_11 : decode cX12_sum 11 = .ok (.if_icmp .ge 31, 3) := by decide +kernel
theorem dX12_sum_14 : decode cX12_sum 14 = .ok (.aload_n 0, 1) := by decide +kernel
theorem dX12_sum_15 : decode cX12_sum 15 = .ok (.iload_n 2, 1) := by decide +kernel
theorem dX12_sum_16 : decode cX12_sum 16 = .ok (.invokevirtual 165, 3) := by decide +kernel
theorem dX12_sum_19 : decode cX12_sum 19 = .ok (.aload_n 0, 1) := by decide +kernel
theorem dX12_sum_20 : decode cX12_sum 20 = .ok (.getfield 154, 3) := by decide +kernel
theorem dX12_sum_23 : decode cX12_sum 23 = .ok (.iconst (-1), 1) := by decide +kernel
theorem dX12_sum_24 : decode cX12_sum 24 = .ok (.if_icmp .ne 5, 3) := by decide +kernel
theorem dX12_sum_29 : decode cX12_sum 29 = .ok (.iload_n 1, 1) := by decide +kernel
theorem dX12_sum_30 : decode cX12_sum 30 = .ok (.aload_n 0, 1) := by decide +kernel
theorem dX12_sum_31 : decode cX12_sum 31 = .ok (.getfield 154, 3) := by decide +kernel
theorem dX12_sum_34 : decode cX12_sum 34 = .ok (.iadd, 1) := by decide +kernel
theorem dX12_sum_35 : decode cX12_sum 35 = .ok (.istore_n 1, 1) := by decide +kernel
theorem dX12_sum_36 : decode cX12_sum 36 = .ok (.iinc 2 1, 3) := by decide +kernel
theorem dX12_sum_39 : decode cX12_sum 39 = .ok (.goto (-35), 3) := by decide +kernel
theorem dX12_sum_27 : decode cX12_sum 27 = .ok (.iconst (-1), 1) := by decide +kernel
theorem dX12_sum_28 : decode cX12_sum 28 = .ok (.ireturn, 1) := by decide +kernel
theorem dX12_sum_42 : decode cX12_sum 42 = .ok (.iload_n 1, 1) := by decide +kernel
theorem dX12_sum_43 : decode cX12_sum 43 = .ok (.ireturn, 1) := by decide +kernel
set_option maxRecDepth 20000 in
theorem iw_m_sum_X12 : ∀ w ∈ wsX120, w ∈ wsX12_sum := by decide +kernel
set_option maxHeartbeats 4000000 in
set_option maxRecDepth 100000 in
theorem m_sum (l : Launch) (dC : Nat → ClassId) (dI : Nat → Nat → Nat) (mo : Nat) (nw : Nat) (kp : Nat) (ik : Nat) (mr : Nat) (la_ : Int64) (lb_ : Int64) (mw : Nat) (lc_ : Int64) (ti_ : Int32) (cb_ : Int32) (ld_ : Int64) (le_ : Int64) (mq : Nat) (mz : Nat) (my : Nat) (sm_ : Int32) (mb : Nat) (bl_ : Int32) (ta_ : Int32) (tl_ : Int32) (tk_ : Int32) (vl_ : Int32) (mx : Nat) (mv : Nat) (cn_ : ClassId) (fn : Nat → Int32) (cw_ : ClassId) (fw_ : Nat → Int64) (sz : Nat) (hOn : tz_OK 350 fn) : Met l yX12_sum wsX12_sum ({ frames := 5, cells := 0, slots := 0, locals := 121 }) (va_Pc [.ref mo] (fun U => U.heap.size = sz ∧ va_P (dC, dI) vwCl [(mo, .inr (12, [.ref nw, .ref kp, .ref ik, .ref mr, .long la_, .long lb_, .ref mw, .long lc_, .int ti_, .int cb_, .long ld_, .long le_, .ref mq, .ref mz, .ref my, .int sm_, .ref mb, .int bl_, .int ta_, .int tl_, .int tk_, .int vl_, .ref mx, .ref mv])), (nw, .inl (cn_, 350, .inl fn)), (mw, .inl (cw_, 21, .inr (.inl fw_)))] U.heap ∧ va_K (dC, dI) vwCl [(cn_, .int), (cw_, .long)] U ∧ va_D (fun _ => True) [(mo, .inr (12, [.ref nw, .ref kp, .ref ik, .ref mr, .long la_, .long lb_, .ref mw, .long lc_, .int ti_, .int cb_, .long ld_, .long le_, .ref mq, .ref mz, .ref my, .int sm_, .ref mb, .int bl_, .int ta_, .int tl_, .int tk_, .int vl_, .ref mx, .ref mv])), (nw, .inl (cn_, 350, .inl fn)), (mw, .inl (cw_, 21, .inr (.inl fw_)))])) (va_Qi (fun (r : Int32) (_ : Unit) => True) (fun _ t => ∃ (h_allWeights : Int64) (h_trulyIs : Int32) (h_canBe : Int32) (gw_ : Nat → Int64), va_P (dC, dI) vwCl [(mo, .inr (12, [.ref nw, .ref kp, .ref ik, .ref mr, .long la_, .long lb_, .ref mw, .long h_allWeights, .int h_trulyIs, .int h_canBe, .long ld_, .long le_, .ref mq, .ref mz, .ref my, .int sm_, .ref mb, .int bl_, .int ta_, .int tl_, .int tk_, .int vl_, .ref mx, .ref mv])), (nw, .inl (cn_, 350, .inl fn)), (mw, .inl (cw_, 21, .inr (.inl gw_)))] t.heap ∧ va_K (dC, dI) vwCl [(cn_, .int), (cw_, .long)] t ∧ va_D (va_A [(mo, .inr (12, [.ref nw, .ref kp, .ref ik, .ref mr, .long la_, .long lb_, .ref mw, .long lc_, .int ti_, .int cb_, .long ld_, .long le_, .ref mq, .ref mz, .ref my, .int sm_, .ref mb, .int bl_, .int ta_, .int tl_, .int tk_, .int vl_, .ref mx, .ref mv])), (nw, .inl (cn_, 350, .inl fn)), (mw, .inl (cw_, 21, .inr (.inl fw_)))] sz) [(mo, .inr (12, [.ref nw, .ref kp, .ref ik, .ref mr, .long la_, .long lb_, .ref mw, .long h_allWeights, .int h_trulyIs, .int h_canBe, .long ld_, .long le_, .ref mq, .ref mz, .ref my, .int sm_, .ref mb, .int bl_, .int ta_, .int tl_, .int tk_, .int vl_, .ref mx, .ref mv])), (nw, .inl (cn_, 350, .inl fn)), (mw, .inl (cw_, 21, .inr (.inl gw_)))]) (va_A [(mo, .inr (12, [.ref nw, .ref kp, .ref ik, .ref mr, .long la_, .long lb_, .ref mw, .long lc_, .int ti_, .int cb_, .long ld_, .long le_, .ref mq, .ref mz, .ref my, .int sm_, .ref mb, .int bl_, .int ta_, .int tl_, .int tk_, .int vl_, .ref mx, .ref mv])), (nw, .inl (cn_, 350, .inl fn)), (mw, .inl (cw_, 21, .inr (.inl fw_)))] sz)) 0 0 (va_A [(mo, .inr (12, [.ref nw, .ref kp, .ref ik, .ref mr, .long la_, .long lb_, .ref mw, .long lc_, .int ti_, .int cb_, .long ld_, .long le_, .ref mq, .ref mz, .ref my, .int sm_, .ref mb, .int bl_, .int ta_, .int tl_, .int tk_, .int vl_, .ref mx, .ref mv])), (nw, .inl (cn_, 350, .inl fn)), (mw, .inl (cw_, 21, .inr (.inl fw_)))] sz) := by
  refine Met.ofW (cc := cX12_sum) (maxL := 3) (ret := (some .int)) (by decide) rfl ?_
  intro p e s m args below meth c s₁ B hml hv
  obtain ⟨rfl, hsz, hP, hK, hD0⟩ := hv
  have hx := B.exec
  have hb := B.bytes
  have hr := B.returns
  have hts := atoms_spec (ws := wsX12_sum) B.pre
  have hown : s.vm.findClass RX12 = some m.cls := findClass_of_methodNamed B.named
  have hlocks := B.notSynchronized
  subst hsz
  have hD := hD0.self (sz := s.heap.size)
  generalize hAe : va_A [(mo, .inr (12, [.ref nw, .ref kp, .ref ik, .ref mr, .long la_, .long lb_, .ref mw, .long lc_, .int ti_, .int cb_, .long ld_, .long le_, .ref mq, .ref mz, .ref my, .int sm_, .ref mb, .int bl_, .int ta_, .int tl_, .int tk_, .int vl_, .ref mx, .ref mv])), (nw, .inl (cn_, 350, .inl fn)), (mw, .inl (cw_, 21, .inr (.inl fw_)))] s.heap.size = A at hD ⊢
  have hA : ∀ q : Nat, s.heap.size ≤ q → A q := fun q h => by rw [← hAe]; exact Or.inr h
  have hS : va_S A s.heap s.heap [] := va_S.rf
  have hP : va_P (dC, dI) vwCl [(mo, .inr (12, [.ref nw, .ref kp, .ref ik, .ref mr, .long la_, .long lb_, .ref mw, .long lc_, .int ti_, .int cb_, .long ld_, .long le_, .ref mq, .ref mz, .ref my, .int sm_, .ref mb, .int bl_, .int ta_, .int tl_, .int tk_, .int vl_, .ref mx, .ref mv])), (nw, .inl (cn_, 350, .inl fn)), (mw, .inl (cw_, 21, .inr (.inl fw_)))] s.heap := hP
  have hl := lv_entry ([.ref mo]) (n := 3) (Nat.le_of_ble_eq_true rfl)
  rw [lg_entry_eq]
  generalize (lg_sl ([.ref mo]) ++ List.replicate (3 - (lg_sl ([.ref mo])).length) Slot.unset).toArray = ls at hl ⊢
  have hl : lv_has ls 3 [(0, .ref mo)] := hl
  refine lv_iconst (v := 0) hx hb dX12_sum_0 (by decide) ?_
  refine lv_istore_n (lv' := [(1, .int 0), (0, .ref mo)]) hx hb dX12_sum_1 rfl hl (by decide) rfl (fun ls hl => ?_)
  refine lv_iconst (v := 0) hx hb dX12_sum_2 (by decide) ?_
  refine lv_istore_n (lv' := [(2, .int 0), (1, .int 0), (0, .ref mo)]) hx hb dX12_sum_3 rfl hl (by decide) rfl (fun ls hl => ?_)
  refine tz_while (σ := Nat × Int32 × Int64 × Int32 × Int32 × (Nat → Int64) × Heap × List Loc × Array Slot) (fun x => W p l e _ s m _ below meth c x.2.2.2.2.2.2.1 x.2.2.2.2.2.2.2.1 _ _ _ (F0 m 4 x.2.2.2.2.2.2.2.2 [])) (fun x => x.1 ≤ 5 ∧ va_P (dC, dI) vwCl [(mo, .inr (12, [.ref nw, .ref kp, .ref ik, .ref mr, .long la_, .long lb_, .ref mw, .long x.2.2.1, .int x.2.2.2.1, .int x.2.2.2.2.1, .long ld_, .long le_, .ref mq, .ref mz, .ref my, .int sm_, .ref mb, .int bl_, .int ta_, .int tl_, .int tk_, .int vl_, .ref mx, .ref mv])), (nw, .inl (cn_, 350, .inl fn)), (mw, .inl (cw_, 21, .inr (.inl x.2.2.2.2.2.1)))] x.2.2.2.2.2.2.1 ∧ va_D A [(mo, .inr (12, [.ref nw, .ref kp, .ref ik, .ref mr, .long la_, .long lb_, .ref mw, .long x.2.2.1, .int x.2.2.2.1, .int x.2.2.2.2.1, .long ld_, .long le_, .ref mq, .ref mz, .ref my, .int sm_, .ref mb, .int bl_, .int ta_, .int tl_, .int tk_, .int vl_, .ref mx, .ref mv])), (nw, .inl (cn_, 350, .inl fn)), (mw, .inl (cw_, 21, .inr (.inl x.2.2.2.2.2.1)))] ∧ va_S A s.heap x.2.2.2.2.2.2.1 x.2.2.2.2.2.2.2.1 ∧ lv_has x.2.2.2.2.2.2.2.2 3 [(2, .int (nI x.1)), (1, .int x.2.1), (0, .ref mo)]) (fun x => 5 - x.1) ?_ (0, 0, lc_, ti_, cb_, fw_, s.heap, [], ls) ⟨by (try dsimp only); omega, hP, hD, hS, hl⟩
  rintro ⟨k_1, v_17, v_18, v_19, v_20, f_21, H, locs, ls⟩ ⟨hi_37_0, hP, hD, hS, hl⟩ ih_38
  dsimp only at hi_37_0 hP hD hS hl ih_38 ⊢
  refine lv_iload_n hx hb dX12_sum_4 rfl (lv_at hl 0 rfl) ?_
  refine lv_aload_n hx hb dX12_sum_5 rfl (lv_at hl 2 rfl) ?_
  refine va_get (D := (dC, dI)) (ci := 12) (v := .ref nw) (C := RX12) (T := TX12) (N := 24) hx hb hts iw_m_sum_X12 hown hK hP 0 rfl rfl 0 (by decide) (hts (.fieldLink RX12 7 "ThriceCountedModel" "now" "[I") (by decide +kernel)) (fun _ h9 => h9) rfl dX12_sum_6 ?_
  refine lv_iconst (v := 1) hx hb dX12_sum_9 (by decide) ?_
  refine va_iald hx hb hK hP 1 0 rfl rfl (show ¬ ((1 : Int32) < 0 ∨ 350 ≤ (1 : Int32).toNatClampNeg) by decide) dX12_sum_10 ?_
  obtain ⟨j_39, hj_40, ej_41⟩ := hOn.nat (K := 1) (n := 5) (by omega) (show tz_b 1 = (0, 5) from by decide)
  refine tz_i (nI j_39) ej_41 ?_
  refine lv_icmp_ge (tgt := 42) hx hb dX12_sum_11 (by decide) (fun c_42 => ?_) (fun c_42 => ?_)
  · have hn_43 : j_39 ≤ k_1 := (nI_leI (a := j_39) (b := k_1) (by omega) (by omega)).mp c_42
    refine lv_iload_n hx hb dX12_sum_42 rfl (lv_at hl 1 rfl) ?_
    have hP9 := hP.sub (ws' := [(mo, .inr (12, [.ref nw, .ref kp, .ref ik, .ref mr, .long la_, .long lb_, .ref mw, .long v_18, .int v_19, .int v_20, .long ld_, .long le_, .ref mq, .ref mz, .ref my, .int sm_, .ref mb, .int bl_, .int ta_, .int tl_, .int tk_, .int vl_, .ref mx, .ref mv])), (nw, .inl (cn_, 350, .inl fn)), (mw, .inl (cw_, 21, .inr (.inl f_21)))]) [0, 1, 2] rfl
    have hD9 := hD.sub (ws' := [(mo, .inr (12, [.ref nw, .ref kp, .ref ik, .ref mr, .long la_, .long lb_, .ref mw, .long v_18, .int v_19, .int v_20, .long ld_, .long le_, .ref mq, .ref mz, .ref my, .int sm_, .ref mb, .int bl_, .int ta_, .int tl_, .int tk_, .int vl_, .ref mx, .ref mv])), (nw, .inl (cn_, 350, .inl fn)), (mw, .inl (cw_, 21, .inr (.inl f_21)))]) [0, 1, 2] (by decide) rfl
    have hK9 := hK.sub (tys' := [(cn_, .int), (cw_, .long)]) [0, 1] rfl
    exact W.iret (v := v_17) hx hb hr (fun t ht hW => ⟨⟨v_17, (), rfl, trivial, v_18, v_19, v_20, f_21, by rw [ht]; exact hP9, va_K.moved hW.alike hK9, hD9⟩, hS.F ht⟩) hS.2.2 dX12_sum_43
  · have hn_44 : ¬ j_39 ≤ k_1 := fun q => c_42 ((nI_leI (a := j_39) (b := k_1) (by omega) (by omega)).mpr q)
    refine lv_aload_n hx hb dX12_sum_14 rfl (lv_at hl 2 rfl) ?_
    refine lv_iload_n hx hb dX12_sum_15 rfl (lv_at hl 0 rfl) ?_
    have hPc := hP.sub (ws' := [(mo, .inr (12, [.ref nw, .ref kp, .ref ik, .ref mr, .long la_, .long lb_, .ref mw, .long v_18, .int v_19, .int v_20, .long ld_, .long le_, .ref mq, .ref mz, .ref my, .int sm_, .ref mb, .int bl_, .int ta_, .int tl_, .int tk_, .int vl_, .ref mx, .ref mv])), (nw, .inl (cn_, 350, .inl fn)), (mw, .inl (cw_, 21, .inr (.inl f_21)))]) [0, 1, 2] rfl
    have hDc := hD.sub (ws' := [(mo, .inr (12, [.ref nw, .ref kp, .ref ik, .ref mr, .long la_, .long lb_, .ref mw, .long v_18, .int v_19, .int v_20, .long ld_, .long le_, .ref mq, .ref mz, .ref my, .int sm_, .ref mb, .int bl_, .int ta_, .int tl_, .int tk_, .int vl_, .ref mx, .ref mv])), (nw, .inl (cn_, 350, .inl fn)), (mw, .inl (cw_, 21, .inr (.inl f_21)))]) [0, 1, 2] (by decide) rfl
    have hKc := hK.sub (tys' := [(cn_, .int), (cw_, .long)]) [0, 1] rfl
    have hFc := va_free (wc := [(mo, .inr (12, [.ref nw, .ref kp, .ref ik, .ref mr, .long la_, .long lb_, .ref mw, .long v_18, .int v_19, .int v_20, .long ld_, .long le_, .ref mq, .ref mz, .ref my, .int sm_, .ref mb, .int bl_, .int ta_, .int tl_, .int tk_, .int vl_, .ref mx, .ref mv])), (nw, .inl (cn_, 350, .inl fn)), (mw, .inl (cw_, 21, .inr (.inl f_21)))]) hD hS hA [0, 1, 2] rfl
    refine va_callv (va_runV (As := [.int (nI k_1)]) (rest := []) ⟨hx, hb, hml, hown, hts⟩ (m_weigh l dC dI mo nw kp ik mr la_ lb_ mw v_18 v_19 v_20 ld_ le_ mq mz my sm_ mb bl_ ta_ tl_ tk_ vl_ mx mv cn_ fn cw_ f_21 k_1 H.size hOn (by omega)) (cwV 1 hts gX12_sum_X12_weigh rfl rfl rfl (by decide +kernel) ⟨Nat.le_of_ble_eq_true rfl, Nat.le_of_ble_eq_true rfl⟩) ⟨fun a U g mk q => by obtain ⟨q0, q1, qP, qK, qD⟩ := q; exact ⟨q0, q1, qP, va_K.moved (u := U) (U := U.calling g mk a) (Vm.Alike.refl U.vm) qK, qD⟩, va_recv hK hP (ci := 12) (q0 := 0) rfl rfl, fun U hU hW => ⟨rfl, by rw [hU], by rw [hU]; exact hPc, va_K.moved hW.alike hKc, hDc.weaken (fun _ _ _ _ => trivial)⟩⟩ rfl rfl hl.1 rfl (lv_room (Nat.le_of_ble_eq_true rfl)) dX12_sum_16 ⟨Nat.le_of_ble_eq_true rfl, Nat.le_of_ble_eq_true rfl⟩) hS (fun q _ h => hFc q h) hFc (fun u_ t H1 locs ht hvm hw_46 hB hz1 hk1 hS => ?_)
    obtain ⟨h_allWeights_47, h_trulyIs_48, h_canBe_49, gw__50, hf_51, hP1, hK1, hD1⟩ := hB
    rw [ht] at hP1
    have hK1 := va_K.moved hvm.symm hK1
    obtain ⟨hP, hD⟩ := va_join (wr := []) (w1 := [(mo, .inr (12, [.ref nw, .ref kp, .ref ik, .ref mr, .long la_, .long lb_, .ref mw, .long h_allWeights_47, .int h_trulyIs_48, .int h_canBe_49, .long ld_, .long le_, .ref mq, .ref mz, .ref my, .int sm_, .ref mb, .int bl_, .int ta_, .int tl_, .int tk_, .int vl_, .ref mx, .ref mv])), (nw, .inl (cn_, 350, .inl fn)), (mw, .inl (cw_, 21, .inr (.inl gw__50)))]) hP hD [0, 1, 2] [] rfl rfl (by decide) (by decide) hk1 hFc hP1 hD1
    generalize H1 = H at hP hS ⊢
    have hP : va_P (dC, dI) vwCl [(mo, .inr (12, [.ref nw, .ref kp, .ref ik, .ref mr, .long la_, .long lb_, .ref mw, .long h_allWeights_47, .int h_trulyIs_48, .int h_canBe_49, .long ld_, .long le_, .ref mq, .ref mz, .ref my, .int sm_, .ref mb, .int bl_, .int ta_, .int tl_, .int tk_, .int vl_, .ref mx, .ref mv])), (nw, .inl (cn_, 350, .inl fn)), (mw, .inl (cw_, 21, .inr (.inl gw__50)))] H := hP
    have hD : va_D A [(mo, .inr (12, [.ref nw, .ref kp, .ref ik, .ref mr, .long la_, .long lb_, .ref mw, .long h_allWeights_47, .int h_trulyIs_48, .int h_canBe_49, .long ld_, .long le_, .ref mq, .ref mz, .ref my, .int sm_, .ref mb, .int bl_, .int ta_, .int tl_, .int tk_, .int vl_, .ref mx, .ref mv])), (nw, .inl (cn_, 350, .inl fn)), (mw, .inl (cw_, 21, .inr (.inl gw__50)))] := hD
    refine lv_aload_n hx hb dX12_sum_19 rfl (lv_at hl 2 rfl) ?_
    refine va_get (D := (dC, dI)) (ci := 12) (v := .int h_trulyIs_48) (C := RX12) (T := TX12) (N := 24) hx hb hts iw_m_sum_X12 hown hK hP 0 rfl rfl 8 (by decide) (hts (.fieldLink RX12 154 "ThriceCountedModel" "trulyIs" "I") (by decide +kernel)) (fun _ h9 => h9) rfl dX12_sum_20 ?_
    refine lv_iconst (v := (-1)) hx hb dX12_sum_23 (by decide) ?_
    refine lv_icmp_ne (tgt := 29) hx hb dX12_sum_24 (by decide) (fun c_52 => ?_) (fun c_52 => ?_)
    · refine lv_iload_n hx hb dX12_sum_29 rfl (lv_at hl 1 rfl) ?_
      refine lv_aload_n hx hb dX12_sum_30 rfl (lv_at hl 2 rfl) ?_
      refine va_get (D := (dC, dI)) (ci := 12) (v := .int h_trulyIs_48) (C := RX12) (T := TX12) (N := 24) hx hb hts iw_m_sum_X12 hown hK hP 0 rfl rfl 8 (by decide) (hts (.fieldLink RX12 154 "ThriceCountedModel" "trulyIs" "I") (by decide +kernel)) (fun _ h9 => h9) rfl dX12_sum_31 ?_
      refine lv_iadd hx hb dX12_sum_34 ?_
      refine lv_topi (fun x_53 _ => ?_)
      refine lv_istore_n (lv' := [(1, .int x_53), (2, .int (nI k_1)), (0, .ref mo)]) hx hb dX12_sum_35 rfl hl (by decide) rfl (fun ls hl => ?_)
      refine lv_iinc (v := (nI (k_1 + 1))) (lv' := [(2, .int (nI (k_1 + 1))), (1, .int x_53), (0, .ref mo)]) hx hb dX12_sum_36 hl (k := 1) rfl (nI_add k_1 1) (by decide) rfl (fun ls hl => ?_)
      refine lv_goto (tgt := 4) hx hb dX12_sum_39 (by decide) ?_
      exact ih_38 ((k_1 + 1), x_53, h_allWeights_47, h_trulyIs_48, h_canBe_49, gw__50, H, locs, ls) ⟨by dsimp only; omega, hP, hD, hS, lv_sub hl [0, 1, 2] rfl⟩ (by dsimp only; omega)
    · refine lv_iconst (v := (-1)) hx hb dX12_sum_27 (by decide) ?_
      have hP9 := hP.sub (ws' := [(mo, .inr (12, [.ref nw, .ref kp, .ref ik, .ref mr, .long la_, .long lb_, .ref mw, .long h_allWeights_47, .int h_trulyIs_48, .int h_canBe_49, .long ld_, .long le_, .ref mq, .ref mz, .ref my, .int sm_, .ref mb, .int bl_, .int ta_, .int tl_, .int tk_, .int vl_, .ref mx, .ref mv])), (nw, .inl (cn_, 350, .inl fn)), (mw, .inl (cw_, 21, .inr (.inl gw__50)))]) [0, 1, 2] rfl
      have hD9 := hD.sub (ws' := [(mo, .inr (12, [.ref nw, .ref kp, .ref ik, .ref mr, .long la_, .long lb_, .ref mw, .long h_allWeights_47, .int h_trulyIs_48, .int h_canBe_49, .long ld_, .long le_, .ref mq, .ref mz, .ref my, .int sm_, .ref mb, .int bl_, .int ta_, .int tl_, .int tk_, .int vl_, .ref mx, .ref mv])), (nw, .inl (cn_, 350, .inl fn)), (mw, .inl (cw_, 21, .inr (.inl gw__50)))]) [0, 1, 2] (by decide) rfl
      have hK9 := hK.sub (tys' := [(cn_, .int), (cw_, .long)]) [0, 1] rfl
      exact W.iret (v := (-1)) hx hb hr (fun t ht hW => ⟨⟨(-1), (), rfl, trivial, h_allWeights_47, h_trulyIs_48, h_canBe_49, gw__50, by rw [ht]; exact hP9, va_K.moved hW.alike hK9, hD9⟩, hS.F ht⟩) hS.2.2 dX12_sum_28
theorem dX12_times_0 : decode cX12_times 0 = .ok (.lload_n 0, 1) := by decide +kernel
theorem dX12_times_1 : decode cX12_times 1 = .ok (.lstore 4, 2) := by decide +kernel
theorem dX12_times_3 : decode cX12_times 3 = .ok (.iconst 0, 1) := by decide +kernel
theorem dX12_times_4 : decode cX12_times 4 = .ok (.istore 6, 2) := by decide +kernel
theorem dX12_times_6 : decode cX12_times 6 = .ok (.iload 6, 2) := by decide +kernel
theorem dX12_times_8 : decode cX12_times 8 = .ok (.iload_n 3, 1) := by decide +kernel
theorem dX12_times_9 : decode cX12_times 9 = .ok (.if_icmp .ge 16, 3) := by decide +kernel
theorem dX12_times_12 : decode cX12_times 12 = .ok (.lload 4, 2) := by decide +kernel
theorem dX12_times_14 : decode cX12_times 14 = .ok (.iload_n 2, 1) := by decide +kernel
theorem dX12_times_15 : decode cX12_times 15 = .ok (.i2l, 1) := by decide +kernel
theorem dX12_times_16 : decode cX12_times 16 = .ok (.lmul, 1) := by decide +kernel
theorem dX12_times_17 : decode cX12_times 17 = .ok (.lstore 4, 2) := by decide +kernel
theorem dX12_times_19 : decode cX12_times 19 = .ok (.iinc 6 1, 3) := by decide +kernel
theorem dX12_times_22 : decode cX12_times 22 = .ok (.goto (-16), 3) := by decide +kernel
theorem dX12_times_25 : decode cX12_times 25 = .ok (.lload 4, 2) := by decide +kernel
theorem dX12_times_27 : decode cX12_times 27 = .ok (.lreturn, 1) := by decide +kernel
set_option maxHeartbeats 4000000 in
set_option maxRecDepth 100000 in
theorem m_times0 (l : Launch) (dC : Nat → ClassId) (dI : Nat → Nat → Nat) (vv : Int64) (na : Int32) (nb : Int32) : Met l yX12_times wsX12_times ({ frames := 0, cells := 0, slots := 0, locals := 0 }) (va_Pc [.long vv, .int na, .int nb] (fun _ => True)) (vp_Sl (fun r => True)) 0 0 (fun _ => False) := by
  refine Met.ofW (cc := cX12_times) (maxL := 7) (ret := (some .long)) (by decide) rfl ?_
  intro p e s m args below meth c s₁ B hml hv
  obtain ⟨rfl, -⟩ := hv
  have hx := B.exec
  have hb := B.bytes
  have hr := B.returns
  have hts := atoms_spec (ws := wsX12_times) B.pre
  have hown : s.vm.findClass RX12 = some m.cls := findClass_of_methodNamed B.named
  have hlocks := B.notSynchronized
  have hl := lv_entry ([.long vv, .int na, .int nb]) (n := 7) (Nat.le_of_ble_eq_true rfl)
  rw [lg_entry_eq]
  generalize (lg_sl ([.long vv, .int na, .int nb]) ++ List.replicate (7 - (lg_sl ([.long vv, .int na, .int nb])).length) Slot.unset).toArray = ls at hl ⊢
  have hl : lv_has ls 7 [(0, .long vv), (2, .int na), (3, .int nb)] := hl
  refine lv_lload_n hx hb dX12_times_0 rfl (lv_at hl 0 rfl) ?_
  refine lv_lstore (lv' := [(4, .long vv), (0, .long vv), (2, .int na), (3, .int nb)]) hx hb dX12_times_1 hl (by decide) rfl (fun ls hl => ?_)
  refine lv_iconst (v := 0) hx hb dX12_times_3 (by decide) ?_
  refine lv_istore (lv' := [(6, .int 0), (4, .long vv), (0, .long vv), (2, .int na), (3, .int nb)]) hx hb dX12_times_4 hl (by decide) rfl (fun ls hl => ?_)
  refine tz_while (σ := Int32 × Int64 × Array Slot) (fun x => W p l e _ s m _ below meth c _ _ _ _ _ (F0 m 6 x.2.2 [])) (fun x => lv_has x.2.2 7 [(6, .int x.1), (4, .long x.2.1), (0, .long vv), (2, .int na), (3, .int nb)]) (fun x => (nb.toInt - x.1.toInt).toNat) ?_ (0, vv, ls) hl
  rintro ⟨v_3, v_4, ls⟩ hl ih_7
  dsimp only at hl ih_7 ⊢
  refine lv_iload hx hb dX12_times_6 (lv_at hl 0 rfl) ?_
  refine lv_iload_n hx hb dX12_times_8 rfl (lv_at hl 4 rfl) ?_
  refine lv_icmp_ge (tgt := 25) hx hb dX12_times_9 (by decide) (fun c_8 => ?_) (fun c_8 => ?_)
  · refine lv_lload hx hb dX12_times_25 (lv_at hl 1 rfl) ?_
    exact W.lret (v := v_4) hx hb hr (fun t ht hW => ⟨v_4, rfl, trivial, ht⟩) (fun _ h => absurd h List.not_mem_nil) dX12_times_27
  · refine lv_lload hx hb dX12_times_12 (lv_at hl 1 rfl) ?_
    refine lv_iload_n hx hb dX12_times_14 rfl (lv_at hl 3 rfl) ?_
    refine lv_i2l (v := na.toInt64) hx hb dX12_times_15 rfl ?_
    refine lv_lmul hx hb dX12_times_16 ?_
    refine lv_topl (fun x_9 _ => ?_)
    refine lv_lstore (lv' := [(4, .long x_9), (6, .int v_3), (0, .long vv), (2, .int na), (3, .int nb)]) hx hb dX12_times_17 hl (by decide) rfl (fun ls hl => ?_)
    refine lv_iinc (v := (v_3 + 1)) (lv' := [(6, .int (v_3 + 1)), (4, .long x_9), (0, .long vv), (2, .int na), (3, .int nb)]) hx hb dX12_times_19 hl (k := 1) rfl rfl (by decide) rfl (fun ls hl => ?_)
    refine lv_goto (tgt := 6) hx hb dX12_times_22 (by decide) ?_
    exact ih_7 ((v_3 + 1), x_9, ls) (lv_sub hl [0, 1, 2, 3, 4] rfl) (tz_mu c_8)
set_option maxHeartbeats 4000000 in
set_option maxRecDepth 100000 in
theorem m_times (l : Launch) (dC : Nat → ClassId) (dI : Nat → Nat → Nat) (vv : Int64) (jM : Nat) (jo : Nat) (jn : Nat) (hv : tz_tv jM vv) (hjo : jo ≤ 20) (hjn : jn ≤ 3) (hM : jM * 20 ^ jn < 9223372036854775808) : Met l yX12_times wsX12_times ({ frames := 0, cells := 0, slots := 0, locals := 0 }) (va_Pc [.long vv, .int (nI jo), .int (nI jn)] (fun _ => True)) (vp_Sl (fun r => tz_tp jM jn jo vv r)) 0 0 (fun _ => False) := by
  refine Met.ofW (cc := cX12_times) (maxL := 7) (ret := (some .long)) (by decide) rfl ?_
  intro p e s m args below meth c s₁ B hml hv
  obtain ⟨rfl, -⟩ := hv
  have hx := B.exec
  have hb := B.bytes
  have hr := B.returns
  have hts := atoms_spec (ws := wsX12_times) B.pre
  have hown : s.vm.findClass RX12 = some m.cls := findClass_of_methodNamed B.named
  have hlocks := B.notSynchronized
  have hl := lv_entry ([.long vv, .int (nI jo), .int (nI jn)]) (n := 7) (Nat.le_of_ble_eq_true rfl)
  rw [lg_entry_eq]
  generalize (lg_sl ([.long vv, .int (nI jo), .int (nI jn)]) ++ List.replicate (7 - (lg_sl ([.long vv, .int (nI jo), .int (nI jn)])).length) Slot.unset).toArray = ls at hl ⊢
  have hl : lv_has ls 7 [(0, .long vv), (2, .int (nI jo)), (3, .int (nI jn))] := hl
  have hk_1 : tz_tp jM 0 jo vv vv := tz_tp.init hv
  refine lv_lload_n hx hb dX12_times_0 rfl (lv_at hl 0 rfl) ?_
  refine lv_lstore (lv' := [(4, .long vv), (0, .long vv), (2, .int (nI jo)), (3, .int (nI jn))]) hx hb dX12_times_1 hl (by decide) rfl (fun ls hl => ?_)
  refine lv_iconst (v := 0) hx hb dX12_times_3 (by decide) ?_
  refine lv_istore (lv' := [(6, .int 0), (4, .long vv), (0, .long vv), (2, .int (nI jo)), (3, .int (nI jn))]) hx hb dX12_times_4 hl (by decide) rfl (fun ls hl => ?_)
  refine tz_while (σ := Nat × Int64 × Array Slot) (fun x => W p l e _ s m _ below meth c _ _ _ _ _ (F0 m 6 x.2.2 [])) (fun x => tz_tp jM x.1 jo vv x.2.1 ∧ x.1 ≤ jn ∧ lv_has x.2.2 7 [(6, .int (nI x.1)), (4, .long x.2.1), (0, .long vv), (2, .int (nI jo)), (3, .int (nI jn))]) (fun x => jn - x.1) ?_ (0, vv, ls) ⟨hk_1, by (try dsimp only); omega, hl⟩
  rintro ⟨k_2, v_6, ls⟩ ⟨hi_10_0, hi_11_1, hl⟩ ih_12
  dsimp only at hi_10_0 hi_11_1 hl ih_12 ⊢
  refine lv_iload hx hb dX12_times_6 (lv_at hl 0 rfl) ?_
  refine lv_iload_n hx hb dX12_times_8 rfl (lv_at hl 4 rfl) ?_
  refine lv_icmp_ge (tgt := 25) hx hb dX12_times_9 (by decide) (fun c_13 => ?_) (fun c_13 => ?_)
  · have hn_14 : jn ≤ k_2 := (nI_leI (a := jn) (b := k_2) (by omega) (by omega)).mp c_13
    refine lv_lload hx hb dX12_times_25 (lv_at hl 1 rfl) ?_
    exact W.lret (v := v_6) hx hb hr (fun t ht hW => ⟨v_6, rfl, (hi_10_0.cast (by omega)), ht⟩) (fun _ h => absurd h List.not_mem_nil) dX12_times_27
  · have hn_15 : ¬ jn ≤ k_2 := fun q => c_13 ((nI_leI (a := jn) (b := k_2) (by omega) (by omega)).mpr q)
    refine lv_lload hx hb dX12_times_12 (lv_at hl 1 rfl) ?_
    refine lv_iload_n hx hb dX12_times_14 rfl (lv_at hl 3 rfl) ?_
    refine lv_i2l (v := (nI jo).toInt64) hx hb dX12_times_15 rfl ?_
    refine lv_lmul hx hb dX12_times_16 ?_
    have hv_16 : tz_tp jM (k_2 + 1) jo vv (v_6 * (nI jo).toInt64) := hi_10_0.step (n := jn) (by omega) (by omega) hM
    refine lv_lstore (lv' := [(4, .long (v_6 * (nI jo).toInt64)), (6, .int (nI k_2)), (0, .long vv), (2, .int (nI jo)), (3, .int (nI jn))]) hx hb dX12_times_17 hl (by decide) rfl (fun ls hl => ?_)
    refine lv_iinc (v := (nI (k_2 + 1))) (lv' := [(6, .int (nI (k_2 + 1))), (4, .long (v_6 * (nI jo).toInt64)), (0, .long vv), (2, .int (nI jo)), (3, .int (nI jn))]) hx hb dX12_times_19 hl (k := 1) rfl (nI_add k_2 1) (by decide) rfl (fun ls hl => ?_)
    refine lv_goto (tgt := 6) hx hb dX12_times_22 (by decide) ?_
    exact ih_12 ((k_2 + 1), (v_6 * (nI jo).toInt64), ls) ⟨hv_16, by dsimp only; omega, lv_sub hl [0, 1, 2, 3, 4] rfl⟩ (by dsimp only; omega)
set_option maxRecDepth 20000 in
theorem ggX12_isSure_X12_oddsOf : GoodIn wsX12_isSure wsX12_oddsOf := goodIn_r _ [7, 8, 9, 6, 10, 11, 12, 13, 14, 15, 16, 17, 18, 19, 20, 21] (by decide +kernel) (by decide +kernel)
set_option maxRecDepth 20000 in
theorem gX12_isSure_X12_oddsOf : GoodIn wsX12_isSure (va_wsS RX12 134 yX12_oddsOf wsX12_oddsOf) := goodIn_app (goodIn_of _ (by decide +kernel)) ggX12_isSure_X12_oddsOf
set_option maxRecDepth 20000 in
theorem ggX12_isSure_X12_times : GoodIn wsX12_isSure wsX12_times := goodIn_r _ [24] (by decide +kernel) (by decide +kernel)
set_option maxRecDepth 20000 in
theorem gX12_isSure_X12_times : GoodIn wsX12_isSure (va_wsS RX12 179 yX12_times wsX12_times) := goodIn_app (goodIn_of _ (by decide +kernel)) ggX12_isSure_X12_times
theorem dX12_isSure_0 : decode cX12_isSure 0 = .ok (.lconst 0, 1) := by decide +kernel
theorem dX12_isSure_1 : decode cX12_isSure 1 = .ok (.lstore 4, 2) := by decide +kernel
theorem dX12_isSure_3 : decode cX12_isSure 3 = .ok (.lconst 0, 1) := by decide +kernel
theorem dX12_isSure_4 : decode cX12_isSure 4 = .ok (.lstore 6, 2) := by decide +kernel
theorem dX12_isSure_6 : decode cX12_isSure 6 = .ok (.bipush 90, 2) := by decide +kernel
theorem dX12_isSure_8 : decode cX12_isSure 8 = .ok (.istore 8, 2) := by decide +kernel
theorem dX12_isSure_10 : decode cX12_isSure 10 = .ok (.iload 8, 2) := by decide +kernel
theorem dX12_isSure_12 : decode cX12_isSure 12 = .ok (.bipush 110, 2) := by decide +kernel
theorem dX12_isSure_14 : decode cX12_isSure 14 = .ok (.if_icmp .gt 61, 3) := by decide +kernel
theorem dX12_isSure_17 : decode cX12_isSure 17 = .ok (.aload_n 0, 1) := by decide +kernel
theorem dX12_isSure_18 : decode cX12_isSure 18 = .ok (.getfield 27, 3) := by decide +kernel
theorem dX12_isSure_21 : decode cX12_isSure 21 = .ok (.iload 8, 2) := by decide +kernel
theorem dX12_isSure_23 : decode cX12_isSure 23 = .ok (.bipush 90, 2) := by decide +kernel
theorem dX12_isSure_25 : decode cX12_isSure 25 = .ok (.isub, 1) := by decide +kernel
theorem dX12_isSure_26 : decode cX12_isSure 26 = .ok (.laload, 1) := by decide +kernel
theorem dX12_isSure_27 : decode cX12_isSure 27 = .ok (.iload_n 1, 1) := by decide +kernel
theorem dX12_isSure_28 : decode cX12_isSure 28 = .ok (.aload_n 0, 1) := by decide +kernel
theorem dX12_isSure_29 : decode cX12_isSure 29 = .ok (.getfield 154, 3) := by decide +kernel
theorem dX12_isSure_32 : decode cX12_isSure 32 = .ok (.iload 8, 2) := by decide +kernel
theorem dX12_isSure_34 : decode cX12_isSure 34 = .ok (.isub, 1) := by decide +kernel
theorem dX12_isSure_35 : decode cX12_isSure 35 = .ok (.invokestatic 134, 3) := by decide +kernel
theorem dX12_isSure_38 : decode cX12_isSure 38 = .ok (.iload_n 2, 1) := by decide +kernel
theorem dX12_isSure_39 : decode cX12_isSure 39 = .ok (.invokestatic 179, 3) := by decide +kernel
theorem dX12_isSure_42 : decode cX12_isSure 42 = .ok (.lstore 9, 2) := by decide +kernel
theorem dX12_isSure_44 : decode cX12_isSure 44 = .ok (.lload 4, 2) := by decide +kernel
theorem dX12_isSure_46 : decode cX12_isSure 46 = .ok (.lload 9, 2) := by decide +kernel
theorem dX12_isSure_48 : decode cX12_isSure 48 = .ok (.ladd, 1) := by decide +kernel
theorem dX12_isSure_49 : decode cX12_isSure 49 = .ok (.lstore 4, 2) := by decide +kernel
theorem dX12_isSure_51 : decode cX12_isSure 51 = .ok (.iload 8, 2) := by decide +kernel
theorem dX12_isSure_53 : decode cX12_isSure 53 = .ok (.aload_n 0, 1) := by decide +kernel
theorem dX12_isSure_54 : decode cX12_isSure 54 = .ok (.getfield 154, 3) := by decide +kernel
theorem dX12_isSure_57 : decode cX12_isSure 57 = .ok (.if_icmp .ne 8, 3) := by decide +kernel
theorem dX12_isSure_65 : decode cX12_isSure 65 = .ok (.lload 6, 2) := by decide +kernel
theorem dX12_isSure_67 : decode cX12_isSure 67 = .ok (.lstore 6, 2) := by decide +kernel
theorem dX12_isSure_69 : decode cX12_isSure 69 = .ok (.iinc 8 1, 3) := by decide +kernel
theorem dX12_isSure_72 : decode cX12_isSure 72 = .ok (.goto (-62), 3) := by decide +kernel
theorem dX12_isSure_60 : decode cX12_isSure 60 = .ok (.lload 9, 2) := by decide +kernel
theorem dX12_isSure_62 : decode cX12_isSure 62 = .ok (.goto 5, 3) := by decide +kernel
theorem dX12_isSure_75 : decode cX12_isSure 75 = .ok (.ldc2_w 59, 3) := by decide +kernel
theorem dX12_isSure_78 : decode cX12_isSure 78 = .ok (.lload 6, 2) := by decide +kernel
theorem dX12_isSure_80 : decode cX12_isSure 80 = .ok (.lmul, 1) := by decide +kernel
theorem dX12_isSure_81 : decode cX12_isSure 81 = .ok (.iload_n 3, 1) := by decide +kernel
theorem dX12_isSure_82 : decode cX12_isSure 82 = .ok (.i2l, 1) := by decide +kernel
theorem dX12_isSure_83 : decode cX12_isSure 83 = .ok (.lload 4, 2) := by decide +kernel
theorem dX12_isSure_85 : decode cX12_isSure 85 = .ok (.lmul, 1) := by decide +kernel
theorem dX12_isSure_86 : decode cX12_isSure 86 = .ok (.lcmp, 1) := by decide +kernel
theorem dX12_isSure_87 : decode cX12_isSure 87 = .ok (.ifCond .lt 7, 3) := by decide +kernel
theorem dX12_isSure_94 : decode cX12_isSure 94 = .ok (.iconst 0, 1) := by decide +kernel
theorem dX12_isSure_95 : decode cX12_isSure 95 = .ok (.ireturn, 1) := by decide +kernel
theorem dX12_isSure_90 : decode cX12_isSure 90 = .ok (.iconst 1, 1) := by decide +kernel
theorem dX12_isSure_91 : decode cX12_isSure 91 = .ok (.goto 4, 3) := by decide +kernel
set_option maxRecDepth 20000 in
theorem iw_m_isSure_X12 : ∀ w ∈ wsX120, w ∈ wsX12_isSure := by decide +kernel
set_option maxHeartbeats 4000000 in
set_option maxRecDepth 100000 in
theorem m_isSure (l : Launch) (dC : Nat → ClassId) (dI : Nat → Nat → Nat) (mo : Nat) (nw : Nat) (kp : Nat) (ik : Nat) (mr : Nat) (la_ : Int64) (lb_ : Int64) (mw : Nat) (lc_ : Int64) (ti_ : Int32) (cb_ : Int32) (ld_ : Int64) (le_ : Int64) (mq : Nat) (mz : Nat) (my : Nat) (sm_ : Int32) (mb : Nat) (bl_ : Int32) (ta_ : Int32) (tl_ : Int32) (tk_ : Int32) (vl_ : Int32) (mx : Nat) (mv : Nat) (cw_ : ClassId) (fw_ : Nat → Int64) (na : Int32) (nb : Int32) (nc : Int32) (hna : 0 ≤ na ∧ na ≤ 5) : Met l yX12_isSure wsX12_isSure ({ frames := 3, cells := 0, slots := 0, locals := 69 }) (va_Pc [.ref mo, .int na, .int nb, .int nc] (fun U => va_P (dC, dI) vwCl [(mo, .inr (12, [.ref nw, .ref kp, .ref ik, .ref mr, .long la_, .long lb_, .ref mw, .long lc_, .int ti_, .int cb_, .long ld_, .long le_, .ref mq, .ref mz, .ref my, .int sm_, .ref mb, .int bl_, .int ta_, .int tl_, .int tk_, .int vl_, .ref mx, .ref mv])), (mw, .inl (cw_, 21, .inr (.inl fw_)))] U.heap ∧ va_K (dC, dI) vwCl [(cw_, .long)] U)) (vp_Si (fun r => r = 0 ∨ r = 1)) 0 0 (fun _ => False) := by
  refine Met.ofW (cc := cX12_isSure) (maxL := 11) (ret := (some .boolean)) (by decide) rfl ?_
  intro p e s m args below meth c s₁ B hml hv
  obtain ⟨rfl, hP, hK⟩ := hv
  have hx := B.exec
  have hb := B.bytes
  have hr := B.returns
  have hts := atoms_spec (ws := wsX12_isSure) B.pre
  have hown : s.vm.findClass RX12 = some m.cls := findClass_of_methodNamed B.named
  have hlocks := B.notSynchronized
  have hl := lv_entry ([.ref mo, .int na, .int nb, .int nc]) (n := 11) (Nat.le_of_ble_eq_true rfl)
  rw [lg_entry_eq]
  generalize (lg_sl ([.ref mo, .int na, .int nb, .int nc]) ++ List.replicate (11 - (lg_sl ([.ref mo, .int na, .int nb, .int nc])).length) Slot.unset).toArray = ls at hl ⊢
  have hl : lv_has ls 11 [(0, .ref mo), (1, .int na), (2, .int nb), (3, .int nc)] := hl
  refine lv_lconst (v := 0) hx hb dX12_isSure_0 (by decide) ?_
  refine lv_lstore (lv' := [(4, .long 0), (0, .ref mo), (1, .int na), (2, .int nb), (3, .int nc)]) hx hb dX12_isSure_1 hl (by decide) rfl (fun ls hl => ?_)
  refine lv_lconst (v := 0) hx hb dX12_isSure_3 (by decide) ?_
  refine lv_lstore (lv' := [(6, .long 0), (4, .long 0), (0, .ref mo), (1, .int na), (2, .int nb), (3, .int nc)]) hx hb dX12_isSure_4 hl (by decide) rfl (fun ls hl => ?_)
  refine lv_bipush (v := 90) hx hb dX12_isSure_6 (by decide) ?_
  refine lv_istore (lv' := [(8, .int 90), (6, .long 0), (4, .long 0), (0, .ref mo), (1, .int na), (2, .int nb), (3, .int nc)]) hx hb dX12_isSure_8 hl (by decide) rfl (fun ls hl => ?_)
  refine tz_while (σ := Nat × Int64 × Int64 × Array Slot) (fun x => W p l e _ s m _ below meth c _ _ _ _ _ (F0 m 10 x.2.2.2 [])) (fun x => 90 ≤ x.1 ∧ x.1 ≤ 111 ∧ lv_has x.2.2.2 11 [(8, .int (nI x.1)), (6, .long x.2.2.1), (4, .long x.2.1), (0, .ref mo), (1, .int na), (2, .int nb), (3, .int nc)]) (fun x => 111 - x.1) ?_ (90, 0, 0, ls) ⟨by (try dsimp only); omega, by (try dsimp only); omega, hl⟩
  rintro ⟨k_1, v_13, v_14, ls⟩ ⟨hi_26_0, hi_27_1, hl⟩ ih_28
  dsimp only at hi_26_0 hi_27_1 hl ih_28 ⊢
  refine lv_iload hx hb dX12_isSure_10 (lv_at hl 0 rfl) ?_
  refine lv_bipush (v := 110) hx hb dX12_isSure_12 (by decide) ?_
  refine lv_icmp_gt (tgt := 75) hx hb dX12_isSure_14 (by decide) (fun c_29 => ?_) (fun c_29 => ?_)
  · have hn_30 : 110 < k_1 := (nI_ltI (a := 110) (b := k_1) (by omega) (by omega)).mp c_29
    refine lv_ldc2 hx hb hown (hts (.constantLong RX12 59 (10)) (by decide +kernel)) dX12_isSure_75 ?_
    refine lv_lload hx hb dX12_isSure_78 (lv_at hl 1 rfl) ?_
    refine lv_lmul hx hb dX12_isSure_80 ?_
    refine lv_topl (fun x_31 _ => ?_)
    refine lv_iload_n hx hb dX12_isSure_81 rfl (lv_at hl 6 rfl) ?_
    refine lv_i2l (v := nc.toInt64) hx hb dX12_isSure_82 rfl ?_
    refine lv_lload hx hb dX12_isSure_83 (lv_at hl 2 rfl) ?_
    refine lv_lmul hx hb dX12_isSure_85 ?_
    refine lv_topl (fun x_32 _ => ?_)
    refine W.lcmp hx hb dX12_isSure_86 ?_
    refine lv_if_lt (tgt := 94) hx hb dX12_isSure_87 (by decide) (fun c_33 => ?_) (fun c_33 => ?_)
    · refine lv_iconst (v := 0) hx hb dX12_isSure_94 (by decide) ?_
      exact W.zret (v := 0) hx hb hr (by decide) (fun t ht hW => ⟨0, rfl, Or.inl rfl, ht⟩) (fun _ h => absurd h List.not_mem_nil) dX12_isSure_95
    · refine lv_iconst (v := 1) hx hb dX12_isSure_90 (by decide) ?_
      refine lv_goto (tgt := 95) hx hb dX12_isSure_91 (by decide) ?_
      exact W.zret (v := 1) hx hb hr (by decide) (fun t ht hW => ⟨1, rfl, Or.inr rfl, ht⟩) (fun _ h => absurd h List.not_mem_nil) dX12_isSure_95
  · have hn_34 : ¬ 110 < k_1 := fun q => c_29 ((nI_ltI (a := 110) (b := k_1) (by omega) (by omega)).mpr q)
    refine lv_aload_n hx hb dX12_isSure_17 rfl (lv_at hl 3 rfl) ?_
    refine va_get (D := (dC, dI)) (ci := 12) (v := .ref mw) (C := RX12) (T := TX12) (N := 24) hx hb hts iw_m_isSure_X12 hown hK hP 0 rfl rfl 6 (by decide) (hts (.fieldLink RX12 27 "ThriceCountedModel" "weights" "[J") (by decide +kernel)) (fun _ h9 => h9) rfl dX12_isSure_18 ?_
    refine lv_iload hx hb dX12_isSure_21 (lv_at hl 0 rfl) ?_
    refine lv_bipush (v := 90) hx hb dX12_isSure_23 (by decide) ?_
    refine lv_isub hx hb dX12_isSure_25 ?_
    refine tz_i (nI (k_1 - 90)) (pk_sub (a := k_1) (b := 90) (by omega)) ?_
    refine va_lald hx hb hK hP 1 0 rfl rfl (vp_in_nI (n := (k_1 - 90)) (N := 21) (by omega) (by decide)) dX12_isSure_26 ?_
    refine lv_topl (fun x_35 _ => ?_)
    refine lv_iload_n hx hb dX12_isSure_27 rfl (lv_at hl 4 rfl) ?_
    refine lv_aload_n hx hb dX12_isSure_28 rfl (lv_at hl 3 rfl) ?_
    refine va_get (D := (dC, dI)) (ci := 12) (v := .int ti_) (C := RX12) (T := TX12) (N := 24) hx hb hts iw_m_isSure_X12 hown hK hP 0 rfl rfl 8 (by decide) (hts (.fieldLink RX12 154 "ThriceCountedModel" "trulyIs" "I") (by decide +kernel)) (fun _ h9 => h9) rfl dX12_isSure_29 ?_
    refine lv_iload hx hb dX12_isSure_32 (lv_at hl 0 rfl) ?_
    refine lv_isub hx hb dX12_isSure_34 ?_
    refine lv_topi (fun x_36 _ => ?_)
    refine vp_callSi (va_Run.run (va_runS (As := [.int na, .int x_36]) (rest := [.long x_35]) ⟨hx, hb, hml, hown, hts⟩ (m_oddsOf l dC dI na x_36 hna) (va_cwS 2 hts gX12_isSure_X12_oddsOf rfl rfl rfl (by decide +kernel) ⟨Nat.le_of_ble_eq_true rfl, Nat.le_of_ble_eq_true rfl⟩) ⟨fun a U g mk q => ⟨q.1, trivial⟩, fun U hU hW => ⟨rfl, trivial⟩⟩ rfl rfl hl.1 rfl (lv_room (Nat.le_of_ble_eq_true rfl)) dX12_isSure_35 ⟨Nat.le_of_ble_eq_true rfl, Nat.le_of_ble_eq_true rfl⟩)) (fun r_37 hw_38 => ?_)
    obtain rfl : (zN (yS na) x_36 20) = r_37 := hw_38.symm
    refine lv_iload_n hx hb dX12_isSure_38 rfl (lv_at hl 5 rfl) ?_
    refine vp_callSl (va_Run.run (va_runS (As := [.long x_35, .int (zN (yS na) x_36 20), .int nb]) (rest := []) ⟨hx, hb, hml, hown, hts⟩ (m_times0 l dC dI x_35 (zN (yS na) x_36 20) nb) (va_cwS 3 hts gX12_isSure_X12_times rfl rfl rfl (by decide +kernel) ⟨Nat.le_of_ble_eq_true rfl, Nat.le_of_ble_eq_true rfl⟩) ⟨fun a U g mk q => ⟨q.1, trivial⟩, fun U hU hW => ⟨rfl, trivial⟩⟩ rfl rfl hl.1 rfl (lv_room (Nat.le_of_ble_eq_true rfl)) dX12_isSure_39 ⟨Nat.le_of_ble_eq_true rfl, Nat.le_of_ble_eq_true rfl⟩)) (fun r_39 hw_40 => ?_)
    refine lv_lstore (lv' := [(9, .long r_39), (8, .int (nI k_1)), (6, .long v_14), (4, .long v_13), (0, .ref mo), (1, .int na), (2, .int nb), (3, .int nc)]) hx hb dX12_isSure_42 hl (by decide) rfl (fun ls hl => ?_)
    refine lv_lload hx hb dX12_isSure_44 (lv_at hl 3 rfl) ?_
    refine lv_lload hx hb dX12_isSure_46 (lv_at hl 0 rfl) ?_
    refine lv_ladd hx hb dX12_isSure_48 ?_
    refine lv_topl (fun x_41 _ => ?_)
    refine lv_lstore (lv' := [(4, .long x_41), (9, .long r_39), (8, .int (nI k_1)), (6, .long v_14), (0, .ref mo), (1, .int na), (2, .int nb), (3, .int nc)]) hx hb dX12_isSure_49 hl (by decide) rfl (fun ls hl => ?_)
    refine lv_iload hx hb dX12_isSure_51 (lv_at hl 2 rfl) ?_
    refine lv_aload_n hx hb dX12_isSure_53 rfl (lv_at hl 4 rfl) ?_
    refine va_get (D := (dC, dI)) (ci := 12) (v := .int ti_) (C := RX12) (T := TX12) (N := 24) hx hb hts iw_m_isSure_X12 hown hK hP 0 rfl rfl 8 (by decide) (hts (.fieldLink RX12 154 "ThriceCountedModel" "trulyIs" "I") (by decide +kernel)) (fun _ h9 => h9) rfl dX12_isSure_54 ?_
    refine lv_icmp_ne (tgt := 65) hx hb dX12_isSure_57 (by decide) (fun c_42 => ?_) (fun c_42 => ?_)
    · refine lv_lload hx hb dX12_isSure_65 (lv_at hl 3 rfl) ?_
      refine lv_lstore (lv' := [(6, .long v_14), (4, .long x_41), (9, .long r_39), (8, .int (nI k_1)), (0, .ref mo), (1, .int na), (2, .int nb), (3, .int nc)]) hx hb dX12_isSure_67 hl (by decide) rfl (fun ls hl => ?_)
      refine lv_iinc (v := (nI (k_1 + 1))) (lv' := [(8, .int (nI (k_1 + 1))), (6, .long v_14), (4, .long x_41), (9, .long r_39), (0, .ref mo), (1, .int na), (2, .int nb), (3, .int nc)]) hx hb dX12_isSure_69 hl (k := 3) rfl (nI_add k_1 1) (by decide) rfl (fun ls hl => ?_)
      refine lv_goto (tgt := 10) hx hb dX12_isSure_72 (by decide) ?_
      exact ih_28 ((k_1 + 1), x_41, v_14, ls) ⟨by dsimp only; omega, by dsimp only; omega, lv_sub hl [0, 1, 2, 4, 5, 6, 7] rfl⟩ (by dsimp only; omega)
    · refine lv_lload hx hb dX12_isSure_60 (lv_at hl 1 rfl) ?_
      refine lv_goto (tgt := 67) hx hb dX12_isSure_62 (by decide) ?_
      refine lv_lstore (lv' := [(6, .long r_39), (4, .long x_41), (9, .long r_39), (8, .int (nI k_1)), (0, .ref mo), (1, .int na), (2, .int nb), (3, .int nc)]) hx hb dX12_isSure_67 hl (by decide) rfl (fun ls hl => ?_)
      refine lv_iinc (v := (nI (k_1 + 1))) (lv' := [(8, .int (nI (k_1 + 1))), (6, .long r_39), (4, .long x_41), (9, .long r_39), (0, .ref mo), (1, .int na), (2, .int nb), (3, .int nc)]) hx hb dX12_isSure_69 hl (k := 3) rfl (nI_add k_1 1) (by decide) rfl (fun ls hl => ?_)
      refine lv_goto (tgt := 10) hx hb dX12_isSure_72 (by decide) ?_
      exact ih_28 ((k_1 + 1), x_41, r_39, ls) ⟨by dsimp only; omega, by dsimp only; omega, lv_sub hl [0, 1, 2, 4, 5, 6, 7] rfl⟩ (by dsimp only; omega)
set_option maxRecDepth 20000 in
theorem ggX12_enough_X12_isBundle : GoodIn wsX12_enough wsX12_isBundle := goodIn_r _ [7, 8, 9, 10, 6, 11, 62, 63, 64, 65, 66, 67, 68, 69, 70, 71, 72, 73, 74, 75, 76, 77, 78, 79, 80, 81, 82, 83, 84, 85] (by decide +kernel) (by decide +kernel)
set_option maxRecDepth 20000 in
theorem gX12_enough_X12_isBundle : GoodIn wsX12_enough (wsV RX12 81 RX12 yX12_isBundle wsX12_isBundle) := goodIn_app (goodIn_of _ (by decide +kernel)) ggX12_enough_X12_isBundle
set_option maxRecDepth 20000 in
theorem ggX12_enough_X12_isWay : GoodIn wsX12_enough wsX12_isWay := goodIn_r _ [14, 15, 9, 10, 6, 11] (by decide +kernel) (by decide +kernel)
set_option maxRecDepth 20000 in
theorem gX12_enough_X12_isWay : GoodIn wsX12_enough (va_wsS RX12 96 yX12_isWay wsX12_isWay) := goodIn_app (goodIn_of _ (by decide +kernel)) ggX12_enough_X12_isWay
set_option maxRecDepth 20000 in
theorem ggX12_enough_X12_in : GoodIn wsX12_enough wsX12_in := goodIn_r _ [11] (by decide +kernel) (by decide +kernel)
set_option maxRecDepth 20000 in
theorem gX12_enough_X12_in : GoodIn wsX12_enough (va_wsS RX12 49 yX12_in wsX12_in) := goodIn_app (goodIn_of _ (by decide +kernel)) ggX12_enough_X12_in
set_option maxRecDepth 20000 in
theorem ggX12_enough_X12_weigh : GoodIn wsX12_enough wsX12_weigh := goodIn_r _ [24, 25, 2, 26, 27, 28, 29, 30, 6, 31, 8, 32, 33, 34, 35, 9, 10, 11, 36, 37, 38, 39, 40, 41, 42, 43, 44, 45, 46, 47, 48, 49, 50, 51, 52, 53, 62, 63, 64, 65, 66, 67, 68, 69, 70, 71, 72, 73, 74, 75, 76, 77, 78, 79, 80, 81, 82, 83, 84, 85] (by decide +kernel) (by decide +kernel)
set_option maxRecDepth 20000 in
theorem gX12_enough_X12_weigh : GoodIn wsX12_enough (wsV RX12 165 RX12 yX12_weigh wsX12_weigh) := goodIn_app (goodIn_of _ (by decide +kernel)) ggX12_enough_X12_weigh
set_option maxRecDepth 20000 in
theorem ggX12_enough_X12_isSure : GoodIn wsX12_enough wsX12_isSure := goodIn_r _ [57, 27, 2, 58, 40, 41, 6, 42, 43, 44, 45, 46, 47, 48, 49, 50, 51, 52, 53, 9, 10, 11, 59, 60, 61, 62, 63, 64, 65, 66, 67, 68, 69, 70, 71, 72, 73, 74, 75, 76, 77, 78, 79, 80, 81, 82, 83, 84, 85] (by decide +kernel) (by decide +kernel)
set_option maxRecDepth 20000 in
theorem gX12_enough_X12_isSure : GoodIn wsX12_enough (wsV RX12 188 RX12 yX12_isSure wsX12_isSure) := goodIn_app (goodIn_of _ (by decide +kernel)) ggX12_enough_X12_isSure
set_option maxRecDepth 20000 in
theorem ggX12_enough_X12_bad : GoodIn wsX12_enough wsX12_bad := goodIn_r _ [19, 20, 62, 63, 64, 65, 66, 67, 68, 69, 70, 71, 72, 73, 74, 75, 76, 77, 78, 79, 80, 81, 82, 83, 84, 85] (by decide +kernel) (by decide +kernel)
set_option maxRecDepth 20000 in
theorem gX12_enough_X12_bad : GoodIn wsX12_enough (wsV RX12 61 RX12 yX12_bad wsX12_bad) := goodIn_app (goodIn_of _ (by decide +kernel)) ggX12_enough_X12_bad
theorem dX12_enough_0 : decode cX12_enough 0 = .ok (.aload_n 0, 1) := by decide +kernel
theorem dX12_enough_1 : decode cX12_enough 1 = .ok (.iload_n 1, 1) := by decide +kernel
theorem dX12_enough_2 : decode cX12_enough 2 = .ok (.invokevirtual 81, 3) := by decide +kernel
theorem dX12_enough_5 : decode cX12_enough 5 = .ok (.ifCond .eq 22, 3) := by decide +kernel
theorem dX12_enough_8 : decode cX12_enough 8 = .ok (.iload_n 2, 1) := by decide +kernel
theorem dX12_enough_9 : decode cX12_enough 9 = .ok (.invokestatic 96, 3) := by decide +kernel
theorem dX12_enough_12 : decode cX12_enough 12 = .ok (.ifCond .eq 15, 3) := by decide +kernel
theorem dX12_enough_15 : decode cX12_enough 15 = .ok (.iload_n 3, 1) := by decide +kernel
theorem dX12_enough_16 : decode cX12_enough 16 = .ok (.i2l, 1) := by decide +kernel
theorem dX12_enough_17 : decode cX12_enough 17 = .ok (.lconst 1, 1) := by decide +kernel
theorem dX12_enough_18 : decode cX12_enough 18 = .ok (.ldc2_w 186, 3) := by decide +kernel
theorem dX12_enough_21 : decode cX12_enough 21 = .ok (.invokestatic 49, 3) := by decide +kernel
theorem dX12_enough_24 : decode cX12_enough 24 = .ok (.ifCond .ne 10, 3) := by decide +kernel
theorem dX12_enough_34 : decode cX12_enough 34 = .ok (.aload_n 0, 1) := by decide +kernel
theorem dX12_enough_35 : decode cX12_enough 35 = .ok (.iload_n 1, 1) := by decide +kernel
theorem dX12_enough_36 : decode cX12_enough 36 = .ok (.invokevirtual 165, 3) := by decide +kernel
theorem dX12_enough_39 : decode cX12_enough 39 = .ok (.iconst 0, 1) := by decide +kernel
theorem dX12_enough_40 : decode cX12_enough 40 = .ok (.istore 4, 2) := by decide +kernel
theorem dX12_enough_42 : decode cX12_enough 42 = .ok (.iload 4, 2) := by decide +kernel
theorem dX12_enough_44 : decode cX12_enough 44 = .ok (.iconst 4, 1) := by decide +kernel
theorem dX12_enough_45 : decode cX12_enough 45 = .ok (.if_icmp .ge 31, 3) := by decide +kernel
theorem dX12_enough_48 : decode cX12_enough 48 = .ok (.aload_n 0, 1) := by decide +kernel
theorem dX12_enough_49 : decode cX12_enough 49 = .ok (.getfield 154, 3) := by decide +kernel
theorem dX12_enough_52 : decode cX12_enough 52 = .ok (.iconst (-1), 1) := by decide +kernel
theorem dX12_enough_53 : decode cX12_enough 53 = .ok (.if_icmp .eq 23, 3) := by decide +kernel
theorem dX12_enough_56 : decode cX12_enough 56 = .ok (.aload_n 0, 1) := by decide +kernel
theorem dX12_enough_57 : decode cX12_enough 57 = .ok (.iload_n 2, 1) := by decide +kernel
theorem dX12_enough_58 : decode cX12_enough 58 = .ok (.iload 4, 2) := by decide +kernel
theorem dX12_enough_60 : decode cX12_enough 60 = .ok (.iload_n 3, 1) := by decide +kernel
theorem dX12_enough_61 : decode cX12_enough 61 = .ok (.invokevirtual 188, 3) := by decide +kernel
theorem dX12_enough_64 : decode cX12_enough 64 = .ok (.ifCond .eq 6, 3) := by decide +kernel
theorem dX12_enough_70 : decode cX12_enough 70 = .ok (.iinc 4 1, 3) := by decide +kernel
theorem dX12_enough_73 : decode cX12_enough 73 = .ok (.goto (-31), 3) := by decide +kernel
theorem dX12_enough_67 : decode cX12_enough 67 = .ok (.iload 4, 2) := by decide +kernel
theorem dX12_enough_69 : decode cX12_enough 69 = .ok (.ireturn, 1) := by decide +kernel
theorem dX12_enough_76 : decode cX12_enough 76 = .ok (.iconst (-1), 1) := by decide +kernel
theorem dX12_enough_77 : decode cX12_enough 77 = .ok (.ireturn, 1) := by decide +kernel
theorem dX12_enough_27 : decode cX12_enough 27 = .ok (.aload_n 0, 1) := by decide +kernel
theorem dX12_enough_28 : decode cX12_enough 28 = .ok (.bipush (-2), 2) := by decide +kernel
theorem dX12_enough_30 : decode cX12_enough 30 = .ok (.invokevirtual 61, 3) := by decide +kernel
theorem dX12_enough_33 : decode cX12_enough 33 = .ok (.ireturn, 1) := by decide +kernel
set_option maxRecDepth 20000 in
theorem iw_m_enough_X12 : ∀ w ∈ wsX120, w ∈ wsX12_enough := by decide +kernel
set_option maxHeartbeats 4000000 in
set_option maxRecDepth 100000 in
theorem m_enough (l : Launch) (dC : Nat → ClassId) (dI : Nat → Nat → Nat) (mo : Nat) (nw : Nat) (kp : Nat) (ik : Nat) (mr : Nat) (la_ : Int64) (lb_ : Int64) (mw : Nat) (lc_ : Int64) (ti_ : Int32) (cb_ : Int32) (ld_ : Int64) (le_ : Int64) (mq : Nat) (mz : Nat) (my : Nat) (sm_ : Int32) (mb : Nat) (bl_ : Int32) (ta_ : Int32) (tl_ : Int32) (tk_ : Int32) (vl_ : Int32) (mx : Nat) (mv : Nat) (cn_ : ClassId) (fn : Nat → Int32) (cw_ : ClassId) (fw_ : Nat → Int64) (cr_ : ClassId) (fr_ : Nat → Int32) (na : Int32) (nb : Int32) (nc : Int32) (sz : Nat) (hOn : tz_OK 350 fn) : Met l yX12_enough wsX12_enough ({ frames := 5, cells := 0, slots := 0, locals := 121 }) (va_Pc [.ref mo, .int na, .int nb, .int nc] (fun U => U.heap.size = sz ∧ va_P (dC, dI) vwCl [(mo, .inr (12, [.ref nw, .ref kp, .ref ik, .ref mr, .long la_, .long lb_, .ref mw, .long lc_, .int ti_, .int cb_, .long ld_, .long le_, .ref mq, .ref mz, .ref my, .int sm_, .ref mb, .int bl_, .int ta_, .int tl_, .int tk_, .int vl_, .ref mx, .ref mv])), (nw, .inl (cn_, 350, .inl fn)), (mw, .inl (cw_, 21, .inr (.inl fw_))), (mr, .inl (cr_, 3, .inl fr_))] U.heap ∧ va_K (dC, dI) vwCl [(cn_, .int), (cw_, .long), (cr_, .int)] U ∧ va_D (fun _ => True) [(mo, .inr (12, [.ref nw, .ref kp, .ref ik, .ref mr, .long la_, .long lb_, .ref mw, .long lc_, .int ti_, .int cb_, .long ld_, .long le_, .ref mq, .ref mz, .ref my, .int sm_, .ref mb, .int bl_, .int ta_, .int tl_, .int tk_, .int vl_, .ref mx, .ref mv])), (nw, .inl (cn_, 350, .inl fn)), (mw, .inl (cw_, 21, .inr (.inl fw_))), (mr, .inl (cr_, 3, .inl fr_))])) (va_Qi (fun (r : Int32) (_ : Unit) => True) (fun _ t => ∃ (h_allWeights : Int64) (h_trulyIs : Int32) (h_canBe : Int32) (gw_ : Nat → Int64) (gr_ : Nat → Int32), va_P (dC, dI) vwCl [(mo, .inr (12, [.ref nw, .ref kp, .ref ik, .ref mr, .long la_, .long lb_, .ref mw, .long h_allWeights, .int h_trulyIs, .int h_canBe, .long ld_, .long le_, .ref mq, .ref mz, .ref my, .int sm_, .ref mb, .int bl_, .int ta_, .int tl_, .int tk_, .int vl_, .ref mx, .ref mv])), (nw, .inl (cn_, 350, .inl fn)), (mw, .inl (cw_, 21, .inr (.inl gw_))), (mr, .inl (cr_, 3, .inl gr_))] t.heap ∧ va_K (dC, dI) vwCl [(cn_, .int), (cw_, .long), (cr_, .int)] t ∧ va_D (va_A [(mo, .inr (12, [.ref nw, .ref kp, .ref ik, .ref mr, .long la_, .long lb_, .ref mw, .long lc_, .int ti_, .int cb_, .long ld_, .long le_, .ref mq, .ref mz, .ref my, .int sm_, .ref mb, .int bl_, .int ta_, .int tl_, .int tk_, .int vl_, .ref mx, .ref mv])), (nw, .inl (cn_, 350, .inl fn)), (mw, .inl (cw_, 21, .inr (.inl fw_))), (mr, .inl (cr_, 3, .inl fr_))] sz) [(mo, .inr (12, [.ref nw, .ref kp, .ref ik, .ref mr, .long la_, .long lb_, .ref mw, .long h_allWeights, .int h_trulyIs, .int h_canBe, .long ld_, .long le_, .ref mq, .ref mz, .ref my, .int sm_, .ref mb, .int bl_, .int ta_, .int tl_, .int tk_, .int vl_, .ref mx, .ref mv])), (nw, .inl (cn_, 350, .inl fn)), (mw, .inl (cw_, 21, .inr (.inl gw_))), (mr, .inl (cr_, 3, .inl gr_))]) (va_A [(mo, .inr (12, [.ref nw, .ref kp, .ref ik, .ref mr, .long la_, .long lb_, .ref mw, .long lc_, .int ti_, .int cb_, .long ld_, .long le_, .ref mq, .ref mz, .ref my, .int sm_, .ref mb, .int bl_, .int ta_, .int tl_, .int tk_, .int vl_, .ref mx, .ref mv])), (nw, .inl (cn_, 350, .inl fn)), (mw, .inl (cw_, 21, .inr (.inl fw_))), (mr, .inl (cr_, 3, .inl fr_))] sz)) 0 0 (va_A [(mo, .inr (12, [.ref nw, .ref kp, .ref ik, .ref mr, .long la_, .long lb_, .ref mw, .long lc_, .int ti_, .int cb_, .long ld_, .long le_, .ref mq, .ref mz, .ref my, .int sm_, .ref mb, .int bl_, .int ta_, .int tl_, .int tk_, .int vl_, .ref mx, .ref mv])), (nw, .inl (cn_, 350, .inl fn)), (mw, .inl (cw_, 21, .inr (.inl fw_))), (mr, .inl (cr_, 3, .inl fr_))] sz) := by
  refine Met.ofW (cc := cX12_enough) (maxL := 5) (ret := (some .int)) (by decide) rfl ?_
  intro p e s m args below meth c s₁ B hml hv
  obtain ⟨rfl, hsz, hP, hK, hD0⟩ := hv
  have hx := B.exec
  have hb := B.bytes
  have hr := B.returns
  have hts := atoms_spec (ws := wsX12_enough) B.pre
  have hown : s.vm.findClass RX12 = some m.cls := findClass_of_methodNamed B.named
  have hlocks := B.notSynchronized
  subst hsz
  have hD := hD0.self (sz := s.heap.size)
  generalize hAe : va_A [(mo, .inr (12, [.ref nw, .ref kp, .ref ik, .ref mr, .long la_, .long lb_, .ref mw, .long lc_, .int ti_, .int cb_, .long ld_, .long le_, .ref mq, .ref mz, .ref my, .int sm_, .ref mb, .int bl_, .int ta_, .int tl_, .int tk_, .int vl_, .ref mx, .ref mv])), (nw, .inl (cn_, 350, .inl fn)), (mw, .inl (cw_, 21, .inr (.inl fw_))), (mr, .inl (cr_, 3, .inl fr_))] s.heap.size = A at hD ⊢
  have hA : ∀ q : Nat, s.heap.size ≤ q → A q := fun q h => by rw [← hAe]; exact Or.inr h
  have hS : va_S A s.heap s.heap [] := va_S.rf
  have hP : va_P (dC, dI) vwCl [(mo, .inr (12, [.ref nw, .ref kp, .ref ik, .ref mr, .long la_, .long lb_, .ref mw, .long lc_, .int ti_, .int cb_, .long ld_, .long le_, .ref mq, .ref mz, .ref my, .int sm_, .ref mb, .int bl_, .int ta_, .int tl_, .int tk_, .int vl_, .ref mx, .ref mv])), (nw, .inl (cn_, 350, .inl fn)), (mw, .inl (cw_, 21, .inr (.inl fw_))), (mr, .inl (cr_, 3, .inl fr_))] s.heap := hP
  have hl := lv_entry ([.ref mo, .int na, .int nb, .int nc]) (n := 5) (Nat.le_of_ble_eq_true rfl)
  rw [lg_entry_eq]
  generalize (lg_sl ([.ref mo, .int na, .int nb, .int nc]) ++ List.replicate (5 - (lg_sl ([.ref mo, .int na, .int nb, .int nc])).length) Slot.unset).toArray = ls at hl ⊢
  have hl : lv_has ls 5 [(0, .ref mo), (1, .int na), (2, .int nb), (3, .int nc)] := hl
  refine lv_aload_n hx hb dX12_enough_0 rfl (lv_at hl 0 rfl) ?_
  refine lv_iload_n hx hb dX12_enough_1 rfl (lv_at hl 1 rfl) ?_
  have hPc_1 := hP.sub (ws' := [(mo, .inr (12, [.ref nw, .ref kp, .ref ik, .ref mr, .long la_, .long lb_, .ref mw, .long lc_, .int ti_, .int cb_, .long ld_, .long le_, .ref mq, .ref mz, .ref my, .int sm_, .ref mb, .int bl_, .int ta_, .int tl_, .int tk_, .int vl_, .ref mx, .ref mv])), (nw, .inl (cn_, 350, .inl fn))]) [0, 1] rfl
  have hKc_2 := hK.sub (tys' := [(cn_, .int)]) [0] rfl
  refine vp_callSi (va_Run.run (va_runV (As := [.int na]) (rest := []) ⟨hx, hb, hml, hown, hts⟩ (m_isBundle l dC dI mo nw kp ik mr la_ lb_ mw lc_ ti_ cb_ ld_ le_ mq mz my sm_ mb bl_ ta_ tl_ tk_ vl_ mx mv cn_ fn na hOn) (cwV 1 hts gX12_enough_X12_isBundle rfl rfl rfl (by decide +kernel) ⟨Nat.le_of_ble_eq_true rfl, Nat.le_of_ble_eq_true rfl⟩) ⟨fun a U g mk q => by obtain ⟨q0, qP, qK⟩ := q; exact ⟨q0, qP, va_K.moved (u := U) (U := U.calling g mk a) (Vm.Alike.refl U.vm) qK⟩, va_recv hK hP (ci := 12) (q0 := 0) rfl rfl, fun U hU hW => ⟨rfl, by rw [hU]; exact hPc_1, va_K.moved hW.alike hKc_2⟩⟩ rfl rfl hl.1 rfl (lv_room (Nat.le_of_ble_eq_true rfl)) dX12_enough_2 ⟨Nat.le_of_ble_eq_true rfl, Nat.le_of_ble_eq_true rfl⟩)) (fun r_3 hw_4 => ?_)
  by_cases hc_5 : 0 ≤ na ∧ na < (fn 1)
  · obtain rfl : 1 = r_3 := (hw_4.trans (if_pos hc_5)).symm
    obtain ⟨j_7, hj_8, ej_9⟩ := hOn.nat (K := 1) (n := 5) (by omega) (show tz_b 1 = (0, 5) from by decide)
    obtain ⟨j_6, hj_10, rfl⟩ := tz_idx2 (J := j_7) hc_5 ej_9 (by omega)
    refine lv_if_eq (tgt := 27) hx hb dX12_enough_5 (by decide) (fun c_11 => ?_) (fun c_11 => ?_)
    · exact absurd c_11 (by decide)
    · refine lv_iload_n hx hb dX12_enough_8 rfl (lv_at hl 2 rfl) ?_
      refine vp_callSi (va_Run.run (va_runS (As := [.int nb]) (rest := []) ⟨hx, hb, hml, hown, hts⟩ (m_isWay l dC dI nb) (va_cwS 1 hts gX12_enough_X12_isWay rfl rfl rfl (by decide +kernel) ⟨Nat.le_of_ble_eq_true rfl, Nat.le_of_ble_eq_true rfl⟩) ⟨fun a U g mk q => ⟨q.1, trivial⟩, fun U hU hW => ⟨rfl, trivial⟩⟩ rfl rfl hl.1 rfl (lv_room (Nat.le_of_ble_eq_true rfl)) dX12_enough_9 ⟨Nat.le_of_ble_eq_true rfl, Nat.le_of_ble_eq_true rfl⟩)) (fun r_12 hw_13 => ?_)
      by_cases hc_14 : 0 ≤ nb ∧ nb ≤ 5
      · obtain rfl : 1 = r_12 := (hw_13.trans (if_pos hc_14)).symm
        refine lv_if_eq (tgt := 27) hx hb dX12_enough_12 (by decide) (fun c_15 => ?_) (fun c_15 => ?_)
        · exact absurd c_15 (by decide)
        · refine lv_iload_n hx hb dX12_enough_15 rfl (lv_at hl 3 rfl) ?_
          refine lv_i2l (v := nc.toInt64) hx hb dX12_enough_16 rfl ?_
          refine lv_lconst (v := 1) hx hb dX12_enough_17 (by decide) ?_
          refine lv_ldc2 hx hb hown (hts (.constantLong RX12 186 (9)) (by decide +kernel)) dX12_enough_18 ?_
          refine vp_callSi (va_Run.run (va_runS (As := [.long nc.toInt64, .long 1, .long 9]) (rest := []) ⟨hx, hb, hml, hown, hts⟩ (m_in l dC dI nc.toInt64 1 9) (va_cwS 3 hts gX12_enough_X12_in rfl rfl rfl (by decide +kernel) ⟨Nat.le_of_ble_eq_true rfl, Nat.le_of_ble_eq_true rfl⟩) ⟨fun a U g mk q => ⟨q.1, trivial⟩, fun U hU hW => ⟨rfl, trivial⟩⟩ rfl rfl hl.1 rfl (lv_room (Nat.le_of_ble_eq_true rfl)) dX12_enough_21 ⟨Nat.le_of_ble_eq_true rfl, Nat.le_of_ble_eq_true rfl⟩)) (fun r_16 hw_17 => ?_)
          by_cases hc_18 : 1 ≤ nc ∧ nc ≤ 9
          · obtain rfl : 1 = r_16 := (hw_17.trans (if_pos ((tz_in64 (by first | rfl | decide) rfl (by first | rfl | decide)).mpr hc_18))).symm
            refine lv_if_ne (tgt := 34) hx hb dX12_enough_24 (by decide) (fun c_19 => ?_) (fun c_19 => ?_)
            · refine lv_aload_n hx hb dX12_enough_34 rfl (lv_at hl 0 rfl) ?_
              refine lv_iload_n hx hb dX12_enough_35 rfl (lv_at hl 1 rfl) ?_
              have hPc := hP.sub (ws' := [(mo, .inr (12, [.ref nw, .ref kp, .ref ik, .ref mr, .long la_, .long lb_, .ref mw, .long lc_, .int ti_, .int cb_, .long ld_, .long le_, .ref mq, .ref mz, .ref my, .int sm_, .ref mb, .int bl_, .int ta_, .int tl_, .int tk_, .int vl_, .ref mx, .ref mv])), (nw, .inl (cn_, 350, .inl fn)), (mw, .inl (cw_, 21, .inr (.inl fw_)))]) [0, 1, 2] rfl
              have hDc := hD.sub (ws' := [(mo, .inr (12, [.ref nw, .ref kp, .ref ik, .ref mr, .long la_, .long lb_, .ref mw, .long lc_, .int ti_, .int cb_, .long ld_, .long le_, .ref mq, .ref mz, .ref my, .int sm_, .ref mb, .int bl_, .int ta_, .int tl_, .int tk_, .int vl_, .ref mx, .ref mv])), (nw, .inl (cn_, 350, .inl fn)), (mw, .inl (cw_, 21, .inr (.inl fw_)))]) [0, 1, 2] (by decide) rfl
              have hKc := hK.sub (tys' := [(cn_, .int), (cw_, .long)]) [0, 1] rfl
              have hFc := va_free (wc := [(mo, .inr (12, [.ref nw, .ref kp, .ref ik, .ref mr, .long la_, .long lb_, .ref mw, .long lc_, .int ti_, .int cb_, .long ld_, .long le_, .ref mq, .ref mz, .ref my, .int sm_, .ref mb, .int bl_, .int ta_, .int tl_, .int tk_, .int vl_, .ref mx, .ref mv])), (nw, .inl (cn_, 350, .inl fn)), (mw, .inl (cw_, 21, .inr (.inl fw_)))]) hD hS hA [0, 1, 2] rfl
              refine va_callv (va_runV (As := [.int (nI j_6)]) (rest := []) ⟨hx, hb, hml, hown, hts⟩ (m_weigh l dC dI mo nw kp ik mr la_ lb_ mw lc_ ti_ cb_ ld_ le_ mq mz my sm_ mb bl_ ta_ tl_ tk_ vl_ mx mv cn_ fn cw_ fw_ j_6 s.heap.size hOn (by omega)) (cwV 1 hts gX12_enough_X12_weigh rfl rfl rfl (by decide +kernel) ⟨Nat.le_of_ble_eq_true rfl, Nat.le_of_ble_eq_true rfl⟩) ⟨fun a U g mk q => by obtain ⟨q0, q1, qP, qK, qD⟩ := q; exact ⟨q0, q1, qP, va_K.moved (u := U) (U := U.calling g mk a) (Vm.Alike.refl U.vm) qK, qD⟩, va_recv hK hP (ci := 12) (q0 := 0) rfl rfl, fun U hU hW => ⟨rfl, by rw [hU], by rw [hU]; exact hPc, va_K.moved hW.alike hKc, hDc.weaken (fun _ _ _ _ => trivial)⟩⟩ rfl rfl hl.1 rfl (lv_room (Nat.le_of_ble_eq_true rfl)) dX12_enough_36 ⟨Nat.le_of_ble_eq_true rfl, Nat.le_of_ble_eq_true rfl⟩) hS (fun q _ h => hFc q h) hFc (fun u_ t H1 locs ht hvm hw_21 hB hz1 hk1 hS => ?_)
              obtain ⟨h_allWeights_22, h_trulyIs_23, h_canBe_24, gw__25, hf_26, hP1, hK1, hD1⟩ := hB
              rw [ht] at hP1
              have hK1 := va_K.moved hvm.symm hK1
              obtain ⟨hP, hD⟩ := va_join (wr := [(mr, .inl (cr_, 3, .inl fr_))]) (w1 := [(mo, .inr (12, [.ref nw, .ref kp, .ref ik, .ref mr, .long la_, .long lb_, .ref mw, .long h_allWeights_22, .int h_trulyIs_23, .int h_canBe_24, .long ld_, .long le_, .ref mq, .ref mz, .ref my, .int sm_, .ref mb, .int bl_, .int ta_, .int tl_, .int tk_, .int vl_, .ref mx, .ref mv])), (nw, .inl (cn_, 350, .inl fn)), (mw, .inl (cw_, 21, .inr (.inl gw__25)))]) hP hD [0, 1, 2] [3] rfl rfl (by decide) (by decide) hk1 hFc hP1 hD1
              generalize H1 = H at hP hS ⊢
              have hP : va_P (dC, dI) vwCl [(mr, .inl (cr_, 3, .inl fr_)), (mo, .inr (12, [.ref nw, .ref kp, .ref ik, .ref mr, .long la_, .long lb_, .ref mw, .long h_allWeights_22, .int h_trulyIs_23, .int h_canBe_24, .long ld_, .long le_, .ref mq, .ref mz, .ref my, .int sm_, .ref mb, .int bl_, .int ta_, .int tl_, .int tk_, .int vl_, .ref mx, .ref mv])), (nw, .inl (cn_, 350, .inl fn)), (mw, .inl (cw_, 21, .inr (.inl gw__25)))] H := hP
              have hD : va_D A [(mr, .inl (cr_, 3, .inl fr_)), (mo, .inr (12, [.ref nw, .ref kp, .ref ik, .ref mr, .long la_, .long lb_, .ref mw, .long h_allWeights_22, .int h_trulyIs_23, .int h_canBe_24, .long ld_, .long le_, .ref mq, .ref mz, .ref my, .int sm_, .ref mb, .int bl_, .int ta_, .int tl_, .int tk_, .int vl_, .ref mx, .ref mv])), (nw, .inl (cn_, 350, .inl fn)), (mw, .inl (cw_, 21, .inr (.inl gw__25)))] := hD
              refine lv_iconst (v := 0) hx hb dX12_enough_39 (by decide) ?_
              refine lv_istore (lv' := [(4, .int 0), (0, .ref mo), (1, .int (nI j_6)), (2, .int nb), (3, .int nc)]) hx hb dX12_enough_40 hl (by decide) rfl (fun ls hl => ?_)
              refine tz_while (σ := Nat × Array Slot) (fun x => W p l e _ s m _ below meth c _ _ _ _ _ (F0 m 42 x.2 [])) (fun x => x.1 ≤ 4 ∧ lv_has x.2 5 [(4, .int (nI x.1)), (0, .ref mo), (1, .int (nI j_6)), (2, .int nb), (3, .int nc)]) (fun x => 4 - x.1) ?_ (0, ls) ⟨by (try dsimp only); omega, hl⟩
              rintro ⟨k_27, ls⟩ ⟨hi_37_0, hl⟩ ih_38
              dsimp only at hi_37_0 hl ih_38 ⊢
              refine lv_iload hx hb dX12_enough_42 (lv_at hl 0 rfl) ?_
              refine lv_iconst (v := 4) hx hb dX12_enough_44 (by decide) ?_
              refine lv_icmp_ge (tgt := 76) hx hb dX12_enough_45 (by decide) (fun c_39 => ?_) (fun c_39 => ?_)
              · have hn_40 : 4 ≤ k_27 := (nI_leI (a := 4) (b := k_27) (by omega) (by omega)).mp c_39
                refine lv_iconst (v := (-1)) hx hb dX12_enough_76 (by decide) ?_
                have hP9 := hP.sub (ws' := [(mo, .inr (12, [.ref nw, .ref kp, .ref ik, .ref mr, .long la_, .long lb_, .ref mw, .long h_allWeights_22, .int h_trulyIs_23, .int h_canBe_24, .long ld_, .long le_, .ref mq, .ref mz, .ref my, .int sm_, .ref mb, .int bl_, .int ta_, .int tl_, .int tk_, .int vl_, .ref mx, .ref mv])), (nw, .inl (cn_, 350, .inl fn)), (mw, .inl (cw_, 21, .inr (.inl gw__25))), (mr, .inl (cr_, 3, .inl fr_))]) [1, 2, 3, 0] rfl
                have hD9 := hD.sub (ws' := [(mo, .inr (12, [.ref nw, .ref kp, .ref ik, .ref mr, .long la_, .long lb_, .ref mw, .long h_allWeights_22, .int h_trulyIs_23, .int h_canBe_24, .long ld_, .long le_, .ref mq, .ref mz, .ref my, .int sm_, .ref mb, .int bl_, .int ta_, .int tl_, .int tk_, .int vl_, .ref mx, .ref mv])), (nw, .inl (cn_, 350, .inl fn)), (mw, .inl (cw_, 21, .inr (.inl gw__25))), (mr, .inl (cr_, 3, .inl fr_))]) [1, 2, 3, 0] (by decide) rfl
                have hK9 := hK.sub (tys' := [(cn_, .int), (cw_, .long), (cr_, .int)]) [0, 1, 2] rfl
                exact W.iret (v := (-1)) hx hb hr (fun t ht hW => ⟨⟨(-1), (), rfl, trivial, h_allWeights_22, h_trulyIs_23, h_canBe_24, gw__25, fr_, by rw [ht]; exact hP9, va_K.moved hW.alike hK9, hD9⟩, hS.F ht⟩) hS.2.2 dX12_enough_77
              · have hn_41 : ¬ 4 ≤ k_27 := fun q => c_39 ((nI_leI (a := 4) (b := k_27) (by omega) (by omega)).mpr q)
                refine lv_aload_n hx hb dX12_enough_48 rfl (lv_at hl 1 rfl) ?_
                refine va_get (D := (dC, dI)) (ci := 12) (v := .int h_trulyIs_23) (C := RX12) (T := TX12) (N := 24) hx hb hts iw_m_enough_X12 hown hK hP 1 rfl rfl 8 (by decide) (hts (.fieldLink RX12 154 "ThriceCountedModel" "trulyIs" "I") (by decide +kernel)) (fun _ h9 => h9) rfl dX12_enough_49 ?_
                refine lv_iconst (v := (-1)) hx hb dX12_enough_52 (by decide) ?_
                refine lv_icmp_eq (tgt := 76) hx hb dX12_enough_53 (by decide) (fun c_42 => ?_) (fun c_42 => ?_)
                · refine lv_iconst (v := (-1)) hx hb dX12_enough_76 (by decide) ?_
                  have hP9 := hP.sub (ws' := [(mo, .inr (12, [.ref nw, .ref kp, .ref ik, .ref mr, .long la_, .long lb_, .ref mw, .long h_allWeights_22, .int h_trulyIs_23, .int h_canBe_24, .long ld_, .long le_, .ref mq, .ref mz, .ref my, .int sm_, .ref mb, .int bl_, .int ta_, .int tl_, .int tk_, .int vl_, .ref mx, .ref mv])), (nw, .inl (cn_, 350, .inl fn)), (mw, .inl (cw_, 21, .inr (.inl gw__25))), (mr, .inl (cr_, 3, .inl fr_))]) [1, 2, 3, 0] rfl
                  have hD9 := hD.sub (ws' := [(mo, .inr (12, [.ref nw, .ref kp, .ref ik, .ref mr, .long la_, .long lb_, .ref mw, .long h_allWeights_22, .int h_trulyIs_23, .int h_canBe_24, .long ld_, .long le_, .ref mq, .ref mz, .ref my, .int sm_, .ref mb, .int bl_, .int ta_, .int tl_, .int tk_, .int vl_, .ref mx, .ref mv])), (nw, .inl (cn_, 350, .inl fn)), (mw, .inl (cw_, 21, .inr (.inl gw__25))), (mr, .inl (cr_, 3, .inl fr_))]) [1, 2, 3, 0] (by decide) rfl
                  have hK9 := hK.sub (tys' := [(cn_, .int), (cw_, .long), (cr_, .int)]) [0, 1, 2] rfl
                  exact W.iret (v := (-1)) hx hb hr (fun t ht hW => ⟨⟨(-1), (), rfl, trivial, h_allWeights_22, h_trulyIs_23, h_canBe_24, gw__25, fr_, by rw [ht]; exact hP9, va_K.moved hW.alike hK9, hD9⟩, hS.F ht⟩) hS.2.2 dX12_enough_77
                · refine lv_aload_n hx hb dX12_enough_56 rfl (lv_at hl 1 rfl) ?_
                  refine lv_iload_n hx hb dX12_enough_57 rfl (lv_at hl 3 rfl) ?_
                  refine lv_iload hx hb dX12_enough_58 (lv_at hl 0 rfl) ?_
                  refine lv_iload_n hx hb dX12_enough_60 rfl (lv_at hl 4 rfl) ?_
                  have hPc_43 := hP.sub (ws' := [(mo, .inr (12, [.ref nw, .ref kp, .ref ik, .ref mr, .long la_, .long lb_, .ref mw, .long h_allWeights_22, .int h_trulyIs_23, .int h_canBe_24, .long ld_, .long le_, .ref mq, .ref mz, .ref my, .int sm_, .ref mb, .int bl_, .int ta_, .int tl_, .int tk_, .int vl_, .ref mx, .ref mv])), (mw, .inl (cw_, 21, .inr (.inl gw__25)))]) [1, 3] rfl
                  have hKc_44 := hK.sub (tys' := [(cw_, .long)]) [1] rfl
                  refine vp_callSi (va_Run.run (va_runV (As := [.int nb, .int (nI k_27), .int nc]) (rest := []) ⟨hx, hb, hml, hown, hts⟩ (m_isSure l dC dI mo nw kp ik mr la_ lb_ mw h_allWeights_22 h_trulyIs_23 h_canBe_24 ld_ le_ mq mz my sm_ mb bl_ ta_ tl_ tk_ vl_ mx mv cw_ gw__25 nb (nI k_27) nc hc_14) (cwV 3 hts gX12_enough_X12_isSure rfl rfl rfl (by decide +kernel) ⟨Nat.le_of_ble_eq_true rfl, Nat.le_of_ble_eq_true rfl⟩) ⟨fun a U g mk q => by obtain ⟨q0, qP, qK⟩ := q; exact ⟨q0, qP, va_K.moved (u := U) (U := U.calling g mk a) (Vm.Alike.refl U.vm) qK⟩, va_recv hK hP (ci := 12) (q0 := 1) rfl rfl, fun U hU hW => ⟨rfl, by rw [hU]; exact hPc_43, va_K.moved hW.alike hKc_44⟩⟩ rfl rfl hl.1 rfl (lv_room (Nat.le_of_ble_eq_true rfl)) dX12_enough_61 ⟨Nat.le_of_ble_eq_true rfl, Nat.le_of_ble_eq_true rfl⟩)) (fun r_45 hw_46 => ?_)
                  refine lv_if_eq (tgt := 70) hx hb dX12_enough_64 (by decide) (fun c_47 => ?_) (fun c_47 => ?_)
                  · refine lv_iinc (v := (nI (k_27 + 1))) (lv' := [(4, .int (nI (k_27 + 1))), (0, .ref mo), (1, .int (nI j_6)), (2, .int nb), (3, .int nc)]) hx hb dX12_enough_70 hl (k := 0) rfl (nI_add k_27 1) (by decide) rfl (fun ls hl => ?_)
                    refine lv_goto (tgt := 42) hx hb dX12_enough_73 (by decide) ?_
                    exact ih_38 ((k_27 + 1), ls) ⟨by dsimp only; omega, lv_sub hl [0, 1, 2, 3, 4] rfl⟩ (by dsimp only; omega)
                  · refine lv_iload hx hb dX12_enough_67 (lv_at hl 0 rfl) ?_
                    have hP9 := hP.sub (ws' := [(mo, .inr (12, [.ref nw, .ref kp, .ref ik, .ref mr, .long la_, .long lb_, .ref mw, .long h_allWeights_22, .int h_trulyIs_23, .int h_canBe_24, .long ld_, .long le_, .ref mq, .ref mz, .ref my, .int sm_, .ref mb, .int bl_, .int ta_, .int tl_, .int tk_, .int vl_, .ref mx, .ref mv])), (nw, .inl (cn_, 350, .inl fn)), (mw, .inl (cw_, 21, .inr (.inl gw__25))), (mr, .inl (cr_, 3, .inl fr_))]) [1, 2, 3, 0] rfl
                    have hD9 := hD.sub (ws' := [(mo, .inr (12, [.ref nw, .ref kp, .ref ik, .ref mr, .long la_, .long lb_, .ref mw, .long h_allWeights_22, .int h_trulyIs_23, .int h_canBe_24, .long ld_, .long le_, .ref mq, .ref mz, .ref my, .int sm_, .ref mb, .int bl_, .int ta_, .int tl_, .int tk_, .int vl_, .ref mx, .ref mv])), (nw, .inl (cn_, 350, .inl fn)), (mw, .inl (cw_, 21, .inr (.inl gw__25))), (mr, .inl (cr_, 3, .inl fr_))]) [1, 2, 3, 0] (by decide) rfl
                    have hK9 := hK.sub (tys' := [(cn_, .int), (cw_, .long), (cr_, .int)]) [0, 1, 2] rfl
                    exact W.iret (v := (nI k_27)) hx hb hr (fun t ht hW => ⟨⟨(nI k_27), (), rfl, trivial, h_allWeights_22, h_trulyIs_23, h_canBe_24, gw__25, fr_, by rw [ht]; exact hP9, va_K.moved hW.alike hK9, hD9⟩, hS.F ht⟩) hS.2.2 dX12_enough_69
            · exact absurd c_19 (by decide)
          · obtain rfl : 0 = r_16 := (hw_17.trans (if_neg (fun z => hc_18 ((tz_in64 (by first | rfl | decide) rfl (by first | rfl | decide)).mp z)))).symm
            refine lv_if_ne (tgt := 34) hx hb dX12_enough_24 (by decide) (fun c_48 => ?_) (fun c_48 => ?_)
            · exact absurd c_48 (by decide)
            · refine lv_aload_n hx hb dX12_enough_27 rfl (lv_at hl 0 rfl) ?_
              refine lv_bipush (v := (-2)) hx hb dX12_enough_28 (by decide) ?_
              have hPc := hP.sub (ws' := [(mo, .inr (12, [.ref nw, .ref kp, .ref ik, .ref mr, .long la_, .long lb_, .ref mw, .long lc_, .int ti_, .int cb_, .long ld_, .long le_, .ref mq, .ref mz, .ref my, .int sm_, .ref mb, .int bl_, .int ta_, .int tl_, .int tk_, .int vl_, .ref mx, .ref mv])), (mr, .inl (cr_, 3, .inl fr_))]) [0, 3] rfl
              have hDc := hD.sub (ws' := [(mo, .inr (12, [.ref nw, .ref kp, .ref ik, .ref mr, .long la_, .long lb_, .ref mw, .long lc_, .int ti_, .int cb_, .long ld_, .long le_, .ref mq, .ref mz, .ref my, .int sm_, .ref mb, .int bl_, .int ta_, .int tl_, .int tk_, .int vl_, .ref mx, .ref mv])), (mr, .inl (cr_, 3, .inl fr_))]) [0, 3] (by decide) rfl
              have hKc := hK.sub (tys' := [(cr_, .int)]) [2] rfl
              have hFc := va_free (wc := [(mo, .inr (12, [.ref nw, .ref kp, .ref ik, .ref mr, .long la_, .long lb_, .ref mw, .long lc_, .int ti_, .int cb_, .long ld_, .long le_, .ref mq, .ref mz, .ref my, .int sm_, .ref mb, .int bl_, .int ta_, .int tl_, .int tk_, .int vl_, .ref mx, .ref mv])), (mr, .inl (cr_, 3, .inl fr_))]) hD hS hA [0, 3] rfl
              refine va_calli (va_runV (As := [.int (-2)]) (rest := []) ⟨hx, hb, hml, hown, hts⟩ (m_bad l dC dI mo nw kp ik mr la_ lb_ mw lc_ ti_ cb_ ld_ le_ mq mz my sm_ mb bl_ ta_ tl_ tk_ vl_ mx mv cr_ fr_ (-2) s.heap.size) (cwV 1 hts gX12_enough_X12_bad rfl rfl rfl (by decide +kernel) ⟨Nat.le_of_ble_eq_true rfl, Nat.le_of_ble_eq_true rfl⟩) ⟨fun a U g mk q => by obtain ⟨q0, q1, qP, qK, qD⟩ := q; exact ⟨q0, q1, qP, va_K.moved (u := U) (U := U.calling g mk a) (Vm.Alike.refl U.vm) qK, qD⟩, va_recv hK hP (ci := 12) (q0 := 0) rfl rfl, fun U hU hW => ⟨rfl, by rw [hU], by rw [hU]; exact hPc, va_K.moved hW.alike hKc, hDc.weaken (fun _ _ _ _ => trivial)⟩⟩ rfl rfl hl.1 rfl (lv_room (Nat.le_of_ble_eq_true rfl)) dX12_enough_30 ⟨Nat.le_of_ble_eq_true rfl, Nat.le_of_ble_eq_true rfl⟩) hS (fun q _ h => hFc q h) hFc (fun r_49 u_ t H1 locs ht hvm hw_50 hB hz1 hk1 hS => ?_)
              obtain ⟨gr__51, hP1, hK1, hD1⟩ := hB
              rw [ht] at hP1
              have hK1 := va_K.moved hvm.symm hK1
              obtain ⟨hP, hD⟩ := va_join (wr := [(nw, .inl (cn_, 350, .inl fn)), (mw, .inl (cw_, 21, .inr (.inl fw_)))]) (w1 := [(mo, .inr (12, [.ref nw, .ref kp, .ref ik, .ref mr, .long la_, .long lb_, .ref mw, .long lc_, .int ti_, .int cb_, .long ld_, .long le_, .ref mq, .ref mz, .ref my, .int sm_, .ref mb, .int bl_, .int ta_, .int tl_, .int tk_, .int vl_, .ref mx, .ref mv])), (mr, .inl (cr_, 3, .inl gr__51))]) hP hD [0, 3] [1, 2] rfl rfl (by decide) (by decide) hk1 hFc hP1 hD1
              generalize H1 = H at hP hS ⊢
              have hP : va_P (dC, dI) vwCl [(nw, .inl (cn_, 350, .inl fn)), (mw, .inl (cw_, 21, .inr (.inl fw_))), (mo, .inr (12, [.ref nw, .ref kp, .ref ik, .ref mr, .long la_, .long lb_, .ref mw, .long lc_, .int ti_, .int cb_, .long ld_, .long le_, .ref mq, .ref mz, .ref my, .int sm_, .ref mb, .int bl_, .int ta_, .int tl_, .int tk_, .int vl_, .ref mx, .ref mv])), (mr, .inl (cr_, 3, .inl gr__51))] H := hP
              have hD : va_D A [(nw, .inl (cn_, 350, .inl fn)), (mw, .inl (cw_, 21, .inr (.inl fw_))), (mo, .inr (12, [.ref nw, .ref kp, .ref ik, .ref mr, .long la_, .long lb_, .ref mw, .long lc_, .int ti_, .int cb_, .long ld_, .long le_, .ref mq, .ref mz, .ref my, .int sm_, .ref mb, .int bl_, .int ta_, .int tl_, .int tk_, .int vl_, .ref mx, .ref mv])), (mr, .inl (cr_, 3, .inl gr__51))] := hD
              obtain rfl : (-2) = r_49 := hw_50.symm
              have hP9 := hP.sub (ws' := [(mo, .inr (12, [.ref nw, .ref kp, .ref ik, .ref mr, .long la_, .long lb_, .ref mw, .long lc_, .int ti_, .int cb_, .long ld_, .long le_, .ref mq, .ref mz, .ref my, .int sm_, .ref mb, .int bl_, .int ta_, .int tl_, .int tk_, .int vl_, .ref mx, .ref mv])), (nw, .inl (cn_, 350, .inl fn)), (mw, .inl (cw_, 21, .inr (.inl fw_))), (mr, .inl (cr_, 3, .inl gr__51))]) [2, 0, 1, 3] rfl
              have hD9 := hD.sub (ws' := [(mo, .inr (12, [.ref nw, .ref kp, .ref ik, .ref mr, .long la_, .long lb_, .ref mw, .long lc_, .int ti_, .int cb_, .long ld_, .long le_, .ref mq, .ref mz, .ref my, .int sm_, .ref mb, .int bl_, .int ta_, .int tl_, .int tk_, .int vl_, .ref mx, .ref mv])), (nw, .inl (cn_, 350, .inl fn)), (mw, .inl (cw_, 21, .inr (.inl fw_))), (mr, .inl (cr_, 3, .inl gr__51))]) [2, 0, 1, 3] (by decide) rfl
              have hK9 := hK.sub (tys' := [(cn_, .int), (cw_, .long), (cr_, .int)]) [0, 1, 2] rfl
              exact W.iret (v := (-2)) hx hb hr (fun t ht hW => ⟨⟨(-2), (), rfl, trivial, lc_, ti_, cb_, fw_, gr__51, by rw [ht]; exact hP9, va_K.moved hW.alike hK9, hD9⟩, hS.F ht⟩) hS.2.2 dX12_enough_33
      · obtain rfl : 0 = r_12 := (hw_13.trans (if_neg hc_14)).symm
        refine lv_if_eq (tgt := 27) hx hb dX12_enough_12 (by decide) (fun c_52 => ?_) (fun c_52 => ?_)
        · refine lv_aload_n hx hb dX12_enough_27 rfl (lv_at hl 0 rfl) ?_
          refine lv_bipush (v := (-2)) hx hb dX12_enough_28 (by decide) ?_
          have hPc := hP.sub (ws' := [(mo, .inr (12, [.ref nw, .ref kp, .ref ik, .ref mr, .long la_, .long lb_, .ref mw, .long lc_, .int ti_, .int cb_, .long ld_, .long le_, .ref mq, .ref mz, .ref my, .int sm_, .ref mb, .int bl_, .int ta_, .int tl_, .int tk_, .int vl_, .ref mx, .ref mv])), (mr, .inl (cr_, 3, .inl fr_))]) [0, 3] rfl
          have hDc := hD.sub (ws' := [(mo, .inr (12, [.ref nw, .ref kp, .ref ik, .ref mr, .long la_, .long lb_, .ref mw, .long lc_, .int ti_, .int cb_, .long ld_, .long le_, .ref mq, .ref mz, .ref my, .int sm_, .ref mb, .int bl_, .int ta_, .int tl_, .int tk_, .int vl_, .ref mx, .ref mv])), (mr, .inl (cr_, 3, .inl fr_))]) [0, 3] (by decide) rfl
          have hKc := hK.sub (tys' := [(cr_, .int)]) [2] rfl
          have hFc := va_free (wc := [(mo, .inr (12, [.ref nw, .ref kp, .ref ik, .ref mr, .long la_, .long lb_, .ref mw, .long lc_, .int ti_, .int cb_, .long ld_, .long le_, .ref mq, .ref mz, .ref my, .int sm_, .ref mb, .int bl_, .int ta_, .int tl_, .int tk_, .int vl_, .ref mx, .ref mv])), (mr, .inl (cr_, 3, .inl fr_))]) hD hS hA [0, 3] rfl
          refine va_calli (va_runV (As := [.int (-2)]) (rest := []) ⟨hx, hb, hml, hown, hts⟩ (m_bad l dC dI mo nw kp ik mr la_ lb_ mw lc_ ti_ cb_ ld_ le_ mq mz my sm_ mb bl_ ta_ tl_ tk_ vl_ mx mv cr_ fr_ (-2) s.heap.size) (cwV 1 hts gX12_enough_X12_bad rfl rfl rfl (by decide +kernel) ⟨Nat.le_of_ble_eq_true rfl, Nat.le_of_ble_eq_true rfl⟩) ⟨fun a U g mk q => by obtain ⟨q0, q1, qP, qK, qD⟩ := q; exact ⟨q0, q1, qP, va_K.moved (u := U) (U := U.calling g mk a) (Vm.Alike.refl U.vm) qK, qD⟩, va_recv hK hP (ci := 12) (q0 := 0) rfl rfl, fun U hU hW => ⟨rfl, by rw [hU], by rw [hU]; exact hPc, va_K.moved hW.alike hKc, hDc.weaken (fun _ _ _ _ => trivial)⟩⟩ rfl rfl hl.1 rfl (lv_room (Nat.le_of_ble_eq_true rfl)) dX12_enough_30 ⟨Nat.le_of_ble_eq_true rfl, Nat.le_of_ble_eq_true rfl⟩) hS (fun q _ h => hFc q h) hFc (fun r_53 u_ t H1 locs ht hvm hw_54 hB hz1 hk1 hS => ?_)
          obtain ⟨gr__55, hP1, hK1, hD1⟩ := hB
          rw [ht] at hP1
          have hK1 := va_K.moved hvm.symm hK1
          obtain ⟨hP, hD⟩ := va_join (wr := [(nw, .inl (cn_, 350, .inl fn)), (mw, .inl (cw_, 21, .inr (.inl fw_)))]) (w1 := [(mo, .inr (12, [.ref nw, .ref kp, .ref ik, .ref mr, .long la_, .long lb_, .ref mw, .long lc_, .int ti_, .int cb_, .long ld_, .long le_, .ref mq, .ref mz, .ref my, .int sm_, .ref mb, .int bl_, .int ta_, .int tl_, .int tk_, .int vl_, .ref mx, .ref mv])), (mr, .inl (cr_, 3, .inl gr__55))]) hP hD [0, 3] [1, 2] rfl rfl (by decide) (by decide) hk1 hFc hP1 hD1
          generalize H1 = H at hP hS ⊢
          have hP : va_P (dC, dI) vwCl [(nw, .inl (cn_, 350, .inl fn)), (mw, .inl (cw_, 21, .inr (.inl fw_))), (mo, .inr (12, [.ref nw, .ref kp, .ref ik, .ref mr, .long la_, .long lb_, .ref mw, .long lc_, .int ti_, .int cb_, .long ld_, .long le_, .ref mq, .ref mz, .ref my, .int sm_, .ref mb, .int bl_, .int ta_, .int tl_, .int tk_, .int vl_, .ref mx, .ref mv])), (mr, .inl (cr_, 3, .inl gr__55))] H := hP
          have hD : va_D A [(nw, .inl (cn_, 350, .inl fn)), (mw, .inl (cw_, 21, .inr (.inl fw_))), (mo, .inr (12, [.ref nw, .ref kp, .ref ik, .ref mr, .long la_, .long lb_, .ref mw, .long lc_, .int ti_, .int cb_, .long ld_, .long le_, .ref mq, .ref mz, .ref my, .int sm_, .ref mb, .int bl_, .int ta_, .int tl_, .int tk_, .int vl_, .ref mx, .ref mv])), (mr, .inl (cr_, 3, .inl gr__55))] := hD
          obtain rfl : (-2) = r_53 := hw_54.symm
          have hP9 := hP.sub (ws' := [(mo, .inr (12, [.ref nw, .ref kp, .ref ik, .ref mr, .long la_, .long lb_, .ref mw, .long lc_, .int ti_, .int cb_, .long ld_, .long le_, .ref mq, .ref mz, .ref my, .int sm_, .ref mb, .int bl_, .int ta_, .int tl_, .int tk_, .int vl_, .ref mx, .ref mv])), (nw, .inl (cn_, 350, .inl fn)), (mw, .inl (cw_, 21, .inr (.inl fw_))), (mr, .inl (cr_, 3, .inl gr__55))]) [2, 0, 1, 3] rfl
          have hD9 := hD.sub (ws' := [(mo, .inr (12, [.ref nw, .ref kp, .ref ik, .ref mr, .long la_, .long lb_, .ref mw, .long lc_, .int ti_, .int cb_, .long ld_, .long le_, .ref mq, .ref mz, .ref my, .int sm_, .ref mb, .int bl_, .int ta_, .int tl_, .int tk_, .int vl_, .ref mx, .ref mv])), (nw, .inl (cn_, 350, .inl fn)), (mw, .inl (cw_, 21, .inr (.inl fw_))), (mr, .inl (cr_, 3, .inl gr__55))]) [2, 0, 1, 3] (by decide) rfl
          have hK9 := hK.sub (tys' := [(cn_, .int), (cw_, .long), (cr_, .int)]) [0, 1, 2] rfl
          exact W.iret (v := (-2)) hx hb hr (fun t ht hW => ⟨⟨(-2), (), rfl, trivial, lc_, ti_, cb_, fw_, gr__55, by rw [ht]; exact hP9, va_K.moved hW.alike hK9, hD9⟩, hS.F ht⟩) hS.2.2 dX12_enough_33
        · exact absurd c_52 (by decide)
  · obtain rfl : 0 = r_3 := (hw_4.trans (if_neg hc_5)).symm
    refine lv_if_eq (tgt := 27) hx hb dX12_enough_5 (by decide) (fun c_56 => ?_) (fun c_56 => ?_)
    · refine lv_aload_n hx hb dX12_enough_27 rfl (lv_at hl 0 rfl) ?_
      refine lv_bipush (v := (-2)) hx hb dX12_enough_28 (by decide) ?_
      have hPc := hP.sub (ws' := [(mo, .inr (12, [.ref nw, .ref kp, .ref ik, .ref mr, .long la_, .long lb_, .ref mw, .long lc_, .int ti_, .int cb_, .long ld_, .long le_, .ref mq, .ref mz, .ref my, .int sm_, .ref mb, .int bl_, .int ta_, .int tl_, .int tk_, .int vl_, .ref mx, .ref mv])), (mr, .inl (cr_, 3, .inl fr_))]) [0, 3] rfl
      have hDc := hD.sub (ws' := [(mo, .inr (12, [.ref nw, .ref kp, .ref ik, .ref mr, .long la_, .long lb_, .ref mw, .long lc_, .int ti_, .int cb_, .long ld_, .long le_, .ref mq, .ref mz, .ref my, .int sm_, .ref mb, .int bl_, .int ta_, .int tl_, .int tk_, .int vl_, .ref mx, .ref mv])), (mr, .inl (cr_, 3, .inl fr_))]) [0, 3] (by decide) rfl
      have hKc := hK.sub (tys' := [(cr_, .int)]) [2] rfl
      have hFc := va_free (wc := [(mo, .inr (12, [.ref nw, .ref kp, .ref ik, .ref mr, .long la_, .long lb_, .ref mw, .long lc_, .int ti_, .int cb_, .long ld_, .long le_, .ref mq, .ref mz, .ref my, .int sm_, .ref mb, .int bl_, .int ta_, .int tl_, .int tk_, .int vl_, .ref mx, .ref mv])), (mr, .inl (cr_, 3, .inl fr_))]) hD hS hA [0, 3] rfl
      refine va_calli (va_runV (As := [.int (-2)]) (rest := []) ⟨hx, hb, hml, hown, hts⟩ (m_bad l dC dI mo nw kp ik mr la_ lb_ mw lc_ ti_ cb_ ld_ le_ mq mz my sm_ mb bl_ ta_ tl_ tk_ vl_ mx mv cr_ fr_ (-2) s.heap.size) (cwV 1 hts gX12_enough_X12_bad rfl rfl rfl (by decide +kernel) ⟨Nat.le_of_ble_eq_true rfl, Nat.le_of_ble_eq_true rfl⟩) ⟨fun a U g mk q => by obtain ⟨q0, q1, qP, qK, qD⟩ := q; exact ⟨q0, q1, qP, va_K.moved (u := U) (U := U.calling g mk a) (Vm.Alike.refl U.vm) qK, qD⟩, va_recv hK hP (ci := 12) (q0 := 0) rfl rfl, fun U hU hW => ⟨rfl, by rw [hU], by rw [hU]; exact hPc, va_K.moved hW.alike hKc, hDc.weaken (fun _ _ _ _ => trivial)⟩⟩ rfl rfl hl.1 rfl (lv_room (Nat.le_of_ble_eq_true rfl)) dX12_enough_30 ⟨Nat.le_of_ble_eq_true rfl, Nat.le_of_ble_eq_true rfl⟩) hS (fun q _ h => hFc q h) hFc (fun r_57 u_ t H1 locs ht hvm hw_58 hB hz1 hk1 hS => ?_)
      obtain ⟨gr__59, hP1, hK1, hD1⟩ := hB
      rw [ht] at hP1
      have hK1 := va_K.moved hvm.symm hK1
      obtain ⟨hP, hD⟩ := va_join (wr := [(nw, .inl (cn_, 350, .inl fn)), (mw, .inl (cw_, 21, .inr (.inl fw_)))]) (w1 := [(mo, .inr (12, [.ref nw, .ref kp, .ref ik, .ref mr, .long la_, .long lb_, .ref mw, .long lc_, .int ti_, .int cb_, .long ld_, .long le_, .ref mq, .ref mz, .ref my, .int sm_, .ref mb, .int bl_, .int ta_, .int tl_, .int tk_, .int vl_, .ref mx, .ref mv])), (mr, .inl (cr_, 3, .inl gr__59))]) hP hD [0, 3] [1, 2] rfl rfl (by decide) (by decide) hk1 hFc hP1 hD1
      generalize H1 = H at hP hS ⊢
      have hP : va_P (dC, dI) vwCl [(nw, .inl (cn_, 350, .inl fn)), (mw, .inl (cw_, 21, .inr (.inl fw_))), (mo, .inr (12, [.ref nw, .ref kp, .ref ik, .ref mr, .long la_, .long lb_, .ref mw, .long lc_, .int ti_, .int cb_, .long ld_, .long le_, .ref mq, .ref mz, .ref my, .int sm_, .ref mb, .int bl_, .int ta_, .int tl_, .int tk_, .int vl_, .ref mx, .ref mv])), (mr, .inl (cr_, 3, .inl gr__59))] H := hP
      have hD : va_D A [(nw, .inl (cn_, 350, .inl fn)), (mw, .inl (cw_, 21, .inr (.inl fw_))), (mo, .inr (12, [.ref nw, .ref kp, .ref ik, .ref mr, .long la_, .long lb_, .ref mw, .long lc_, .int ti_, .int cb_, .long ld_, .long le_, .ref mq, .ref mz, .ref my, .int sm_, .ref mb, .int bl_, .int ta_, .int tl_, .int tk_, .int vl_, .ref mx, .ref mv])), (mr, .inl (cr_, 3, .inl gr__59))] := hD
      obtain rfl : (-2) = r_57 := hw_58.symm
      have hP9 := hP.sub (ws' := [(mo, .inr (12, [.ref nw, .ref kp, .ref ik, .ref mr, .long la_, .long lb_, .ref mw, .long lc_, .int ti_, .int cb_, .long ld_, .long le_, .ref mq, .ref mz, .ref my, .int sm_, .ref mb, .int bl_, .int ta_, .int tl_, .int tk_, .int vl_, .ref mx, .ref mv])), (nw, .inl (cn_, 350, .inl fn)), (mw, .inl (cw_, 21, .inr (.inl fw_))), (mr, .inl (cr_, 3, .inl gr__59))]) [2, 0, 1, 3] rfl
      have hD9 := hD.sub (ws' := [(mo, .inr (12, [.ref nw, .ref kp, .ref ik, .ref mr, .long la_, .long lb_, .ref mw, .long lc_, .int ti_, .int cb_, .long ld_, .long le_, .ref mq, .ref mz, .ref my, .int sm_, .ref mb, .int bl_, .int ta_, .int tl_, .int tk_, .int vl_, .ref mx, .ref mv])), (nw, .inl (cn_, 350, .inl fn)), (mw, .inl (cw_, 21, .inr (.inl fw_))), (mr, .inl (cr_, 3, .inl gr__59))]) [2, 0, 1, 3] (by decide) rfl
      have hK9 := hK.sub (tys' := [(cn_, .int), (cw_, .long), (cr_, .int)]) [0, 1, 2] rfl
      exact W.iret (v := (-2)) hx hb hr (fun t ht hW => ⟨⟨(-2), (), rfl, trivial, lc_, ti_, cb_, fw_, gr__59, by rw [ht]; exact hP9, va_K.moved hW.alike hK9, hD9⟩, hS.F ht⟩) hS.2.2 dX12_enough_33
    · exact absurd c_56 (by decide)
set_option maxRecDepth 20000 in
theorem ggX12_weighThen_X12_oddsOf : GoodIn wsX12_weighThen wsX12_oddsOf := goodIn_r _ [8, 9, 10, 7, 11, 12, 13, 14, 15, 16, 17, 18, 19, 20, 21, 22] (by decide +kernel) (by decide +kernel)
set_option maxRecDepth 20000 in
theorem gX12_weighThen_X12_oddsOf : GoodIn wsX12_weighThen (va_wsS RX12 134 yX12_oddsOf wsX12_oddsOf) := goodIn_app (goodIn_of _ (by decide +kernel)) ggX12_weighThen_X12_oddsOf
set_option maxRecDepth 20000 in
theorem ggX12_weighThen_X12_times : GoodIn wsX12_weighThen wsX12_times := goodIn_r _ [25] (by decide +kernel) (by decide +kernel)
set_option maxRecDepth 20000 in
theorem gX12_weighThen_X12_times : GoodIn wsX12_weighThen (va_wsS RX12 179 yX12_times wsX12_times) := goodIn_app (goodIn_of _ (by decide +kernel)) ggX12_weighThen_X12_times
theorem dX12_weighThen_0 : decode cX12_weighThen 0 = .ok (.aload_n 0, 1) := by decide +kernel
theorem dX12_weighThen_1 : decode cX12_weighThen 1 = .ok (.lconst 0, 1) := by decide +kernel
theorem dX12_weighThen_2 : decode cX12_weighThen 2 = .ok (.putfield 176, 3) := by decide +kernel
theorem dX12_weighThen_5 : decode cX12_weighThen 5 = .ok (.bipush 90, 2) := by decide +kernel
theorem dX12_weighThen_7 : decode cX12_weighThen 7 = .ok (.istore 4, 2) := by decide +kernel
theorem dX12_weighThen_9 : decode cX12_weighThen 9 = .ok (.iload 4, 2) := by decide +kernel
theorem dX12_weighThen_11 : decode cX12_weighThen 11 = .ok (.bipush 110, 2) := by decide +kernel
theorem dX12_weighThen_13 : decode cX12_weighThen 13 = .ok (.if_icmp .gt 111, 3) := by decide +kernel
theorem dX12_weighThen_16 : decode cX12_weighThen 16 = .ok (.aload_n 0, 1) := by decide +kernel
theorem dX12_weighThen_17 : decode cX12_weighThen 17 = .ok (.getfield 27, 3) := by decide +kernel
theorem dX12_weighThen_20 : decode cX12_weighThen 20 = .ok (.iload 4, 2) := by decide +kernel
theorem dX12_weighThen_22 : decode cX12_weighThen 22 = .ok (.bipush 90, 2) := by decide +kernel
theorem dX12_weighThen_24 : decode cX12_weighThen 24 = .ok (.isub, 1) := by decide +kernel
theorem dX12_weighThen_25 : decode cX12_weighThen 25 = .ok (.laload, 1) := by decide +kernel
theorem dX12_weighThen_26 : decode cX12_weighThen 26 = .ok (.lstore 5, 2) := by decide +kernel
theorem dX12_weighThen_28 : decode cX12_weighThen 28 = .ok (.lload 5, 2) := by decide +kernel
theorem dX12_weighThen_30 : decode cX12_weighThen 30 = .ok (.iconst 0, 1) := by decide +kernel
theorem dX12_weighThen_31 : decode cX12_weighThen 31 = .ok (.aload_n 0, 1) := by decide +kernel
theorem dX12_weighThen_32 : decode cX12_weighThen 32 = .ok (.getfield 154, 3) := by decide +kernel
theorem dX12_weighThen_35 : decode cX12_weighThen 35 = .ok (.iload 4, 2) := by decide +kernel
theorem dX12_weighThen_37 : decode cX12_weighThen 37 = .ok (.isub, 1) := by decide +kernel
theorem dX12_weighThen_38 : decode cX12_weighThen 38 = .ok (.invokestatic 134, 3) := by decide +kernel
theorem dX12_weighThen_41 : decode cX12_weighThen 41 = .ok (.iload_n 1, 1) := by decide +kernel
theorem dX12_weighThen_42 : decode cX12_weighThen 42 = .ok (.invokestatic 179, 3) := by decide +kernel
theorem dX12_weighThen_45 : decode cX12_weighThen 45 = .ok (.lstore 5, 2) := by decide +kernel
theorem dX12_weighThen_47 : decode cX12_weighThen 47 = .ok (.lload 5, 2) := by decide +kernel
theorem dX12_weighThen_49 : decode cX12_weighThen 49 = .ok (.iconst 1, 1) := by decide +kernel
theorem dX12_weighThen_50 : decode cX12_weighThen 50 = .ok (.aload_n 0, 1) := by decide +kernel
theorem dX12_weighThen_51 : decode cX12_weighThen 51 = .ok (.getfield 154, 3) := by decide +kernel
theorem dX12_weighThen_54 : decode cX12_weighThen 54 = .ok (.iload 4, 2) := by decide +kernel
theorem dX12_weighThen_56 : decode cX12_weighThen 56 = .ok (.isub, 1) := by decide +kernel
theorem dX12_weighThen_57 : decode cX12_weighThen 57 = .ok (.invokestatic 134, 3) := by decide +kernel
theorem dX12_weighThen_60 : decode cX12_weighThen 60 = .ok (.iload_n 2, 1) := by decide +kernel
theorem dX12_weighThen_61 : decode cX12_weighThen 61 = .ok (.invokestatic 179, 3) := by decide +kernel
theorem dX12_weighThen_64 : decode cX12_weighThen 64 = .ok (.lstore 5, 2) := by decide +kernel
theorem dX12_weighThen_66 : decode cX12_weighThen 66 = .ok (.lload 5, 2) := by decide +kernel
theorem dX12_weighThen_68 : decode cX12_weighThen 68 = .ok (.iconst 2, 1) := by decide +kernel
theorem dX12_weighThen_69 : decode cX12_weighThen 69 = .ok (.aload_n 0, 1) := by decide +kernel
theorem dX12_weighThen_70 : decode cX12_weighThen 70 = .ok (.getfield 154, 3) := by decide +kernel
theorem dX12_weighThen_73 : decode cX12_weighThen 73 = .ok (.iload 4, 2) := by decide +kernel
theorem dX12_weighThen_75 : decode cX12_weighThen 75 = .ok (.isub, 1) := by decide +kernel
theorem dX12_weighThen_76 : decode cX12_weighThen 76 = .ok (.invokestatic 134, 3) := by decide +kernel
theorem dX12_weighThen_79 : decode cX12_weighThen 79 = .ok (.iload_n 3, 1) := by decide +kernel
theorem dX12_weighThen_80 : decode cX12_weighThen 80 = .ok (.invokestatic 179, 3) := by decide +kernel
theorem dX12_weighThen_83 : decode cX12_weighThen 83 = .ok (.lstore 5, 2) := by decide +kernel
theorem dX12_weighThen_85 : decode cX12_weighThen 85 = .ok (.aload_n 0, 1) := by decide +kernel
theorem dX12_weighThen_86 : decode cX12_weighThen 86 = .ok (.dup, 1) := by decide +kernel
theorem dX12_weighThen_87 : decode cX12_weighThen 87 = .ok (.getfield 176, 3) := by decide +kernel
theorem dX12_weighThen_90 : decode cX12_weighThen 90 = .ok (.lload 5, 2) := by decide +kernel
theorem dX12_weighThen_92 : decode cX12_weighThen 92 = .ok (.ladd, 1) := by decide +kernel
theorem dX12_weighThen_93 : decode cX12_weighThen 93 = .ok (.putfield 176, 3) := by decide +kernel
theorem dX12_weighThen_96 : decode cX12_weighThen 96 = .ok (.aload_n 0, 1) := by decide +kernel
theorem dX12_weighThen_97 : decode cX12_weighThen 97 = .ok (.iload 4, 2) := by decide +kernel
theorem dX12_weighThen_99 : decode cX12_weighThen 99 = .ok (.aload_n 0, 1) := by decide +kernel
theorem dX12_weighThen_100 : decode cX12_weighThen 100 = .ok (.getfield 154, 3) := by decide +kernel
theorem dX12_weighThen_103 : decode cX12_weighThen 103 = .ok (.if_icmp .ne 8, 3) := by decide +kernel
theorem dX12_weighThen_111 : decode cX12_weighThen 111 = .ok (.aload_n 0, 1) := by decide +kernel
theorem dX12_weighThen_112 : decode cX12_weighThen 112 = .ok (.getfield 183, 3) := by decide +kernel
theorem dX12_weighThen_115 : decode cX12_weighThen 115 = .ok (.putfield 183, 3) := by decide +kernel
theorem dX12_weighThen_118 : decode cX12_weighThen 118 = .ok (.iinc 4 1, 3) := by decide +kernel
theorem dX12_weighThen_121 : decode cX12_weighThen 121 = .ok (.goto (-112), 3) := by decide +kernel
theorem dX12_weighThen_106 : decode cX12_weighThen 106 = .ok (.lload 5, 2) := by decide +kernel
theorem dX12_weighThen_108 : decode cX12_weighThen 108 = .ok (.goto 7, 3) := by decide +kernel
theorem dX12_weighThen_124 : decode cX12_weighThen 124 = .ok (.return_, 1) := by decide +kernel
set_option maxRecDepth 20000 in
theorem iw_m_weighThen_X12 : ∀ w ∈ wsX120, w ∈ wsX12_weighThen := by decide +kernel
set_option maxHeartbeats 4000000 in
set_option maxRecDepth 100000 in
theorem m_weighThen (l : Launch) (dC : Nat → ClassId) (dI : Nat → Nat → Nat) (mo : Nat) (nw : Nat) (kp : Nat) (ik : Nat) (mr : Nat) (la_ : Int64) (lb_ : Int64) (mw : Nat) (lc_ : Int64) (cb_ : Int32) (ld_ : Int64) (le_ : Int64) (mq : Nat) (mz : Nat) (my : Nat) (sm_ : Int32) (mb : Nat) (bl_ : Int32) (ta_ : Int32) (tl_ : Int32) (tk_ : Int32) (vl_ : Int32) (mx : Nat) (mv : Nat) (cw_ : ClassId) (fw_ : Nat → Int64) (ja : Nat) (jc : Nat) (jd : Nat) (jt : Nat) (sz : Nat) (hs3 : ja + jc + jd ≤ 3) (hW : tz_We 111 (nI (90 + jt)) fw_) (hjt : jt ≤ 20) (hpt : 0 < (fw_ jt).toInt) : Met l yX12_weighThen wsX12_weighThen ({ frames := 3, cells := 0, slots := 0, locals := 69 }) (va_Pc [.ref mo, .int (nI ja), .int (nI jc), .int (nI jd)] (fun U => U.heap.size = sz ∧ va_P (dC, dI) vwCl [(mo, .inr (12, [.ref nw, .ref kp, .ref ik, .ref mr, .long la_, .long lb_, .ref mw, .long lc_, .int (nI (90 + jt)), .int cb_, .long ld_, .long le_, .ref mq, .ref mz, .ref my, .int sm_, .ref mb, .int bl_, .int ta_, .int tl_, .int tk_, .int vl_, .ref mx, .ref mv])), (mw, .inl (cw_, 21, .inr (.inl fw_)))] U.heap ∧ va_K (dC, dI) vwCl [(cw_, .long)] U ∧ va_D (fun _ => True) [(mo, .inr (12, [.ref nw, .ref kp, .ref ik, .ref mr, .long la_, .long lb_, .ref mw, .long lc_, .int (nI (90 + jt)), .int cb_, .long ld_, .long le_, .ref mq, .ref mz, .ref my, .int sm_, .ref mb, .int bl_, .int ta_, .int tl_, .int tk_, .int vl_, .ref mx, .ref mv])), (mw, .inl (cw_, 21, .inr (.inl fw_)))])) (va_Qv (fun (_ : Unit) => True) (fun _ t => ∃ (h_allThen : Int64) (h_trulyThen : Int64), (¬ h_allThen = 0) ∧ va_P (dC, dI) vwCl [(mo, .inr (12, [.ref nw, .ref kp, .ref ik, .ref mr, .long la_, .long lb_, .ref mw, .long lc_, .int (nI (90 + jt)), .int cb_, .long h_trulyThen, .long h_allThen, .ref mq, .ref mz, .ref my, .int sm_, .ref mb, .int bl_, .int ta_, .int tl_, .int tk_, .int vl_, .ref mx, .ref mv])), (mw, .inl (cw_, 21, .inr (.inl fw_)))] t.heap ∧ va_K (dC, dI) vwCl [(cw_, .long)] t ∧ va_D (va_A [(mo, .inr (12, [.ref nw, .ref kp, .ref ik, .ref mr, .long la_, .long lb_, .ref mw, .long lc_, .int (nI (90 + jt)), .int cb_, .long ld_, .long le_, .ref mq, .ref mz, .ref my, .int sm_, .ref mb, .int bl_, .int ta_, .int tl_, .int tk_, .int vl_, .ref mx, .ref mv])), (mw, .inl (cw_, 21, .inr (.inl fw_)))] sz) [(mo, .inr (12, [.ref nw, .ref kp, .ref ik, .ref mr, .long la_, .long lb_, .ref mw, .long lc_, .int (nI (90 + jt)), .int cb_, .long h_trulyThen, .long h_allThen, .ref mq, .ref mz, .ref my, .int sm_, .ref mb, .int bl_, .int ta_, .int tl_, .int tk_, .int vl_, .ref mx, .ref mv])), (mw, .inl (cw_, 21, .inr (.inl fw_)))]) (va_A [(mo, .inr (12, [.ref nw, .ref kp, .ref ik, .ref mr, .long la_, .long lb_, .ref mw, .long lc_, .int (nI (90 + jt)), .int cb_, .long ld_, .long le_, .ref mq, .ref mz, .ref my, .int sm_, .ref mb, .int bl_, .int ta_, .int tl_, .int tk_, .int vl_, .ref mx, .ref mv])), (mw, .inl (cw_, 21, .inr (.inl fw_)))] sz)) 0 0 (va_A [(mo, .inr (12, [.ref nw, .ref kp, .ref ik, .ref mr, .long la_, .long lb_, .ref mw, .long lc_, .int (nI (90 + jt)), .int cb_, .long ld_, .long le_, .ref mq, .ref mz, .ref my, .int sm_, .ref mb, .int bl_, .int ta_, .int tl_, .int tk_, .int vl_, .ref mx, .ref mv])), (mw, .inl (cw_, 21, .inr (.inl fw_)))] sz) := by
  refine Met.ofW (cc := cX12_weighThen) (maxL := 7) (ret := none) (by decide) rfl ?_
  intro p e s m args below meth c s₁ B hml hv
  obtain ⟨rfl, hsz, hP, hK, hD0⟩ := hv
  have hx := B.exec
  have hb := B.bytes
  have hr := B.returns
  have hts := atoms_spec (ws := wsX12_weighThen) B.pre
  have hown : s.vm.findClass RX12 = some m.cls := findClass_of_methodNamed B.named
  have hlocks := B.notSynchronized
  subst hsz
  have hD := hD0.self (sz := s.heap.size)
  generalize hAe : va_A [(mo, .inr (12, [.ref nw, .ref kp, .ref ik, .ref mr, .long la_, .long lb_, .ref mw, .long lc_, .int (nI (90 + jt)), .int cb_, .long ld_, .long le_, .ref mq, .ref mz, .ref my, .int sm_, .ref mb, .int bl_, .int ta_, .int tl_, .int tk_, .int vl_, .ref mx, .ref mv])), (mw, .inl (cw_, 21, .inr (.inl fw_)))] s.heap.size = A at hD ⊢
  have hA : ∀ q : Nat, s.heap.size ≤ q → A q := fun q h => by rw [← hAe]; exact Or.inr h
  have hS : va_S A s.heap s.heap [] := va_S.rf
  have hP : va_P (dC, dI) vwCl [(mo, .inr (12, [.ref nw, .ref kp, .ref ik, .ref mr, .long la_, .long lb_, .ref mw, .long lc_, .int (nI (90 + jt)), .int cb_, .long ld_, .long le_, .ref mq, .ref mz, .ref my, .int sm_, .ref mb, .int bl_, .int ta_, .int tl_, .int tk_, .int vl_, .ref mx, .ref mv])), (mw, .inl (cw_, 21, .inr (.inl fw_)))] s.heap := hP
  have hl := lv_entry ([.ref mo, .int (nI ja), .int (nI jc), .int (nI jd)]) (n := 7) (Nat.le_of_ble_eq_true rfl)
  rw [lg_entry_eq]
  generalize (lg_sl ([.ref mo, .int (nI ja), .int (nI jc), .int (nI jd)]) ++ List.replicate (7 - (lg_sl ([.ref mo, .int (nI ja), .int (nI jc), .int (nI jd)])).length) Slot.unset).toArray = ls at hl ⊢
  have hl : lv_has ls 7 [(0, .ref mo), (1, .int (nI ja)), (2, .int (nI jc)), (3, .int (nI jd))] := hl
  have hk_1 : tz_Al 90 jt 0 := tz_Al.init
  refine lv_aload_n hx hb dX12_weighThen_0 rfl (lv_at hl 0 rfl) ?_
  refine lv_lconst (v := 0) hx hb dX12_weighThen_1 (by decide) ?_
  refine va_put (D := (dC, dI)) (ci := 12) (v := .long 0) (ty := .long) (C := RX12) (T := TX12) (N := 24) hx hb hts iw_m_weighThen_X12 tyX12 tyX12_ok nmX12 hown hK hP hD hS 0 rfl rfl 11 (by decide) (hts (.fieldLink RX12 176 "ThriceCountedModel" "allThen" "J") (by decide +kernel)) (fun _ h9 => h9) rfl (by decide +kernel) rfl rfl (Nat.le_of_ble_eq_true rfl) dX12_weighThen_2 (fun H locs hP hD hS => ?_)
  have hP : va_P (dC, dI) vwCl [(mo, .inr (12, [.ref nw, .ref kp, .ref ik, .ref mr, .long la_, .long lb_, .ref mw, .long lc_, .int (nI (90 + jt)), .int cb_, .long ld_, .long 0, .ref mq, .ref mz, .ref my, .int sm_, .ref mb, .int bl_, .int ta_, .int tl_, .int tk_, .int vl_, .ref mx, .ref mv])), (mw, .inl (cw_, 21, .inr (.inl fw_)))] H := hP
  have hD : va_D A [(mo, .inr (12, [.ref nw, .ref kp, .ref ik, .ref mr, .long la_, .long lb_, .ref mw, .long lc_, .int (nI (90 + jt)), .int cb_, .long ld_, .long 0, .ref mq, .ref mz, .ref my, .int sm_, .ref mb, .int bl_, .int ta_, .int tl_, .int tk_, .int vl_, .ref mx, .ref mv])), (mw, .inl (cw_, 21, .inr (.inl fw_)))] := hD
  refine lv_bipush (v := 90) hx hb dX12_weighThen_5 (by decide) ?_
  refine lv_istore (lv' := [(4, .int 90), (0, .ref mo), (1, .int (nI ja)), (2, .int (nI jc)), (3, .int (nI jd))]) hx hb dX12_weighThen_7 hl (by decide) rfl (fun ls hl => ?_)
  refine tz_while (σ := Nat × Int64 × Int64 × Heap × List Loc × Array Slot) (fun x => W p l e _ s m _ below meth c x.2.2.2.1 x.2.2.2.2.1 _ _ _ (F0 m 9 x.2.2.2.2.2 [])) (fun x => 90 ≤ x.1 ∧ x.1 ≤ 111 ∧ tz_Al x.1 jt x.2.1 ∧ va_P (dC, dI) vwCl [(mo, .inr (12, [.ref nw, .ref kp, .ref ik, .ref mr, .long la_, .long lb_, .ref mw, .long lc_, .int (nI (90 + jt)), .int cb_, .long x.2.2.1, .long x.2.1, .ref mq, .ref mz, .ref my, .int sm_, .ref mb, .int bl_, .int ta_, .int tl_, .int tk_, .int vl_, .ref mx, .ref mv])), (mw, .inl (cw_, 21, .inr (.inl fw_)))] x.2.2.2.1 ∧ va_D A [(mo, .inr (12, [.ref nw, .ref kp, .ref ik, .ref mr, .long la_, .long lb_, .ref mw, .long lc_, .int (nI (90 + jt)), .int cb_, .long x.2.2.1, .long x.2.1, .ref mq, .ref mz, .ref my, .int sm_, .ref mb, .int bl_, .int ta_, .int tl_, .int tk_, .int vl_, .ref mx, .ref mv])), (mw, .inl (cw_, 21, .inr (.inl fw_)))] ∧ va_S A s.heap x.2.2.2.1 x.2.2.2.2.1 ∧ lv_has x.2.2.2.2.2 7 [(4, .int (nI x.1)), (0, .ref mo), (1, .int (nI ja)), (2, .int (nI jc)), (3, .int (nI jd))]) (fun x => 111 - x.1) ?_ (90, 0, ld_, H, locs, ls) ⟨by (try dsimp only); omega, by (try dsimp only); omega, hk_1, hP, hD, hS, hl⟩
  rintro ⟨k_2, v_55, v_56, H, locs, ls⟩ ⟨hi_109_0, hi_110_1, hi_111_2, hP, hD, hS, hl⟩ ih_112
  dsimp only at hi_109_0 hi_110_1 hi_111_2 hP hD hS hl ih_112 ⊢
  refine lv_iload hx hb dX12_weighThen_9 (lv_at hl 0 rfl) ?_
  refine lv_bipush (v := 110) hx hb dX12_weighThen_11 (by decide) ?_
  refine lv_icmp_gt (tgt := 124) hx hb dX12_weighThen_13 (by decide) (fun c_113 => ?_) (fun c_113 => ?_)
  · have hn_114 : 110 < k_2 := (nI_ltI (a := 110) (b := k_2) (by omega) (by omega)).mp c_113
    have hP9 := hP.sub (ws' := [(mo, .inr (12, [.ref nw, .ref kp, .ref ik, .ref mr, .long la_, .long lb_, .ref mw, .long lc_, .int (nI (90 + jt)), .int cb_, .long v_56, .long v_55, .ref mq, .ref mz, .ref my, .int sm_, .ref mb, .int bl_, .int ta_, .int tl_, .int tk_, .int vl_, .ref mx, .ref mv])), (mw, .inl (cw_, 21, .inr (.inl fw_)))]) [0, 1] rfl
    have hD9 := hD.sub (ws' := [(mo, .inr (12, [.ref nw, .ref kp, .ref ik, .ref mr, .long la_, .long lb_, .ref mw, .long lc_, .int (nI (90 + jt)), .int cb_, .long v_56, .long v_55, .ref mq, .ref mz, .ref my, .int sm_, .ref mb, .int bl_, .int ta_, .int tl_, .int tk_, .int vl_, .ref mx, .ref mv])), (mw, .inl (cw_, 21, .inr (.inl fw_)))]) [0, 1] (by decide) rfl
    have hK9 := hK.sub (tys' := [(cw_, .long)]) [0] rfl
    exact W.vret hx hb hr (fun t ht hW => ⟨⟨(), rfl, trivial, v_55, v_56, hi_111_2.ne (by omega), by rw [ht]; exact hP9, va_K.moved hW.alike hK9, hD9⟩, hS.F ht⟩) hS.2.2 dX12_weighThen_124
  · have hn_115 : ¬ 110 < k_2 := fun q => c_113 ((nI_ltI (a := 110) (b := k_2) (by omega) (by omega)).mpr q)
    by_cases hx_116 : k_2 = 90 + jt
    · refine lv_aload_n hx hb dX12_weighThen_16 rfl (lv_at hl 1 rfl) ?_
      refine va_get (D := (dC, dI)) (ci := 12) (v := .ref mw) (C := RX12) (T := TX12) (N := 24) hx hb hts iw_m_weighThen_X12 hown hK hP 0 rfl rfl 6 (by decide) (hts (.fieldLink RX12 27 "ThriceCountedModel" "weights" "[J") (by decide +kernel)) (fun _ h9 => h9) rfl dX12_weighThen_17 ?_
      refine lv_iload hx hb dX12_weighThen_20 (lv_at hl 0 rfl) ?_
      refine lv_bipush (v := 90) hx hb dX12_weighThen_22 (by decide) ?_
      refine lv_isub hx hb dX12_weighThen_24 ?_
      refine tz_i (nI (k_2 - 90)) (pk_sub (a := k_2) (b := 90) (by omega)) ?_
      refine va_lald hx hb hK hP 1 0 rfl rfl (vp_in_nI (n := (k_2 - 90)) (N := 21) (by omega) (by decide)) dX12_weighThen_25 ?_
      refine lv_topl (fun x_117 ex_118 => ?_)
      have hv_119 : tz_tv 28160000000000 x_117 := by rw [ex_118, nI_clamp (by omega)]; exact (hW.1 _ (by omega)).tv
      have hv_120 : 0 < x_117.toInt := by rw [ex_118, nI_clamp (by omega), show (k_2 - 90) = jt by omega]; exact hpt
      refine lv_lstore (lv' := [(5, .long x_117), (4, .int (nI k_2)), (0, .ref mo), (1, .int (nI ja)), (2, .int (nI jc)), (3, .int (nI jd))]) hx hb dX12_weighThen_26 hl (by decide) rfl (fun ls hl => ?_)
      refine lv_lload hx hb dX12_weighThen_28 (lv_at hl 0 rfl) ?_
      refine lv_iconst (v := 0) hx hb dX12_weighThen_30 (by decide) ?_
      refine lv_aload_n hx hb dX12_weighThen_31 rfl (lv_at hl 2 rfl) ?_
      refine va_get (D := (dC, dI)) (ci := 12) (v := .int (nI (90 + jt))) (C := RX12) (T := TX12) (N := 24) hx hb hts iw_m_weighThen_X12 hown hK hP 0 rfl rfl 8 (by decide) (hts (.fieldLink RX12 154 "ThriceCountedModel" "trulyIs" "I") (by decide +kernel)) (fun _ h9 => h9) rfl dX12_weighThen_32 ?_
      refine lv_iload hx hb dX12_weighThen_35 (lv_at hl 1 rfl) ?_
      refine lv_isub hx hb dX12_weighThen_37 ?_
      refine tz_i 0 (by rw [hx_116]; exact Int32.sub_self _) ?_
      refine vp_callSi (va_Run.run (va_runS (As := [.int 0, .int 0]) (rest := [.long x_117]) ⟨hx, hb, hml, hown, hts⟩ (m_oddsOf l dC dI 0 0 (by decide)) (va_cwS 2 hts gX12_weighThen_X12_oddsOf rfl rfl rfl (by decide +kernel) ⟨Nat.le_of_ble_eq_true rfl, Nat.le_of_ble_eq_true rfl⟩) ⟨fun a U g mk q => ⟨q.1, trivial⟩, fun U hU hW => ⟨rfl, trivial⟩⟩ rfl rfl hl.1 rfl (lv_room (Nat.le_of_ble_eq_true rfl)) dX12_weighThen_38 ⟨Nat.le_of_ble_eq_true rfl, Nat.le_of_ble_eq_true rfl⟩)) (fun r_121 hw_122 => ?_)
      obtain rfl : (zN (yS 0) 0 20) = r_121 := hw_122.symm
      refine tz_i (nI 17) (by decide) ?_
      refine lv_iload_n hx hb dX12_weighThen_41 rfl (lv_at hl 3 rfl) ?_
      refine vp_callSl (va_Run.run (va_runS (As := [.long x_117, .int (nI 17), .int (nI ja)]) (rest := []) ⟨hx, hb, hml, hown, hts⟩ (m_times l dC dI x_117 28160000000000 17 ja hv_119 (by omega) (by omega) (tz_pw1 (by omega))) (va_cwS 3 hts gX12_weighThen_X12_times rfl rfl rfl (by decide +kernel) ⟨Nat.le_of_ble_eq_true rfl, Nat.le_of_ble_eq_true rfl⟩) ⟨fun a U g mk q => ⟨q.1, trivial⟩, fun U hU hW => ⟨rfl, trivial⟩⟩ rfl rfl hl.1 rfl (lv_room (Nat.le_of_ble_eq_true rfl)) dX12_weighThen_42 ⟨Nat.le_of_ble_eq_true rfl, Nat.le_of_ble_eq_true rfl⟩)) (fun r_123 hw_124 => ?_)
      refine lv_lstore (lv' := [(5, .long r_123), (4, .int (nI k_2)), (0, .ref mo), (1, .int (nI ja)), (2, .int (nI jc)), (3, .int (nI jd))]) hx hb dX12_weighThen_45 hl (by decide) rfl (fun ls hl => ?_)
      refine lv_lload hx hb dX12_weighThen_47 (lv_at hl 0 rfl) ?_
      refine lv_iconst (v := 1) hx hb dX12_weighThen_49 (by decide) ?_
      refine lv_aload_n hx hb dX12_weighThen_50 rfl (lv_at hl 2 rfl) ?_
      refine va_get (D := (dC, dI)) (ci := 12) (v := .int (nI (90 + jt))) (C := RX12) (T := TX12) (N := 24) hx hb hts iw_m_weighThen_X12 hown hK hP 0 rfl rfl 8 (by decide) (hts (.fieldLink RX12 154 "ThriceCountedModel" "trulyIs" "I") (by decide +kernel)) (fun _ h9 => h9) rfl dX12_weighThen_51 ?_
      refine lv_iload hx hb dX12_weighThen_54 (lv_at hl 1 rfl) ?_
      refine lv_isub hx hb dX12_weighThen_56 ?_
      refine tz_i 0 (by rw [hx_116]; exact Int32.sub_self _) ?_
      refine vp_callSi (va_Run.run (va_runS (As := [.int 1, .int 0]) (rest := [.long r_123]) ⟨hx, hb, hml, hown, hts⟩ (m_oddsOf l dC dI 1 0 (by decide)) (va_cwS 2 hts gX12_weighThen_X12_oddsOf rfl rfl rfl (by decide +kernel) ⟨Nat.le_of_ble_eq_true rfl, Nat.le_of_ble_eq_true rfl⟩) ⟨fun a U g mk q => ⟨q.1, trivial⟩, fun U hU hW => ⟨rfl, trivial⟩⟩ rfl rfl hl.1 rfl (lv_room (Nat.le_of_ble_eq_true rfl)) dX12_weighThen_57 ⟨Nat.le_of_ble_eq_true rfl, Nat.le_of_ble_eq_true rfl⟩)) (fun r_125 hw_126 => ?_)
      obtain rfl : (zN (yS 1) 0 20) = r_125 := hw_126.symm
      refine tz_i (nI 16) (by decide) ?_
      refine lv_iload_n hx hb dX12_weighThen_60 rfl (lv_at hl 4 rfl) ?_
      refine vp_callSl (va_Run.run (va_runS (As := [.long r_123, .int (nI 16), .int (nI jc)]) (rest := []) ⟨hx, hb, hml, hown, hts⟩ (m_times l dC dI r_123 (28160000000000 * 20 ^ ja) 16 jc hw_124.tv (by omega) (by omega) (tz_pw2 ja (by omega) jc (by omega) (by omega))) (va_cwS 3 hts gX12_weighThen_X12_times rfl rfl rfl (by decide +kernel) ⟨Nat.le_of_ble_eq_true rfl, Nat.le_of_ble_eq_true rfl⟩) ⟨fun a U g mk q => ⟨q.1, trivial⟩, fun U hU hW => ⟨rfl, trivial⟩⟩ rfl rfl hl.1 rfl (lv_room (Nat.le_of_ble_eq_true rfl)) dX12_weighThen_61 ⟨Nat.le_of_ble_eq_true rfl, Nat.le_of_ble_eq_true rfl⟩)) (fun r_127 hw_128 => ?_)
      refine lv_lstore (lv' := [(5, .long r_127), (4, .int (nI k_2)), (0, .ref mo), (1, .int (nI ja)), (2, .int (nI jc)), (3, .int (nI jd))]) hx hb dX12_weighThen_64 hl (by decide) rfl (fun ls hl => ?_)
      refine lv_lload hx hb dX12_weighThen_66 (lv_at hl 0 rfl) ?_
      refine lv_iconst (v := 2) hx hb dX12_weighThen_68 (by decide) ?_
      refine lv_aload_n hx hb dX12_weighThen_69 rfl (lv_at hl 2 rfl) ?_
      refine va_get (D := (dC, dI)) (ci := 12) (v := .int (nI (90 + jt))) (C := RX12) (T := TX12) (N := 24) hx hb hts iw_m_weighThen_X12 hown hK hP 0 rfl rfl 8 (by decide) (hts (.fieldLink RX12 154 "ThriceCountedModel" "trulyIs" "I") (by decide +kernel)) (fun _ h9 => h9) rfl dX12_weighThen_70 ?_
      refine lv_iload hx hb dX12_weighThen_73 (lv_at hl 1 rfl) ?_
      refine lv_isub hx hb dX12_weighThen_75 ?_
      refine tz_i 0 (by rw [hx_116]; exact Int32.sub_self _) ?_
      refine vp_callSi (va_Run.run (va_runS (As := [.int 2, .int 0]) (rest := [.long r_127]) ⟨hx, hb, hml, hown, hts⟩ (m_oddsOf l dC dI 2 0 (by decide)) (va_cwS 2 hts gX12_weighThen_X12_oddsOf rfl rfl rfl (by decide +kernel) ⟨Nat.le_of_ble_eq_true rfl, Nat.le_of_ble_eq_true rfl⟩) ⟨fun a U g mk q => ⟨q.1, trivial⟩, fun U hU hW => ⟨rfl, trivial⟩⟩ rfl rfl hl.1 rfl (lv_room (Nat.le_of_ble_eq_true rfl)) dX12_weighThen_76 ⟨Nat.le_of_ble_eq_true rfl, Nat.le_of_ble_eq_true rfl⟩)) (fun r_129 hw_130 => ?_)
      obtain rfl : (zN (yS 2) 0 20) = r_129 := hw_130.symm
      refine tz_i (nI 8) (by decide) ?_
      refine lv_iload_n hx hb dX12_weighThen_79 rfl (lv_at hl 5 rfl) ?_
      refine vp_callSl (va_Run.run (va_runS (As := [.long r_127, .int (nI 8), .int (nI jd)]) (rest := []) ⟨hx, hb, hml, hown, hts⟩ (m_times l dC dI r_127 (28160000000000 * 20 ^ ja * 20 ^ jc) 8 jd hw_128.tv (by omega) (by omega) (Nat.lt_of_le_of_lt (tz_pw3 ja (by omega) jc (by omega) jd (by omega) (by omega)) (by decide))) (va_cwS 3 hts gX12_weighThen_X12_times rfl rfl rfl (by decide +kernel) ⟨Nat.le_of_ble_eq_true rfl, Nat.le_of_ble_eq_true rfl⟩) ⟨fun a U g mk q => ⟨q.1, trivial⟩, fun U hU hW => ⟨rfl, trivial⟩⟩ rfl rfl hl.1 rfl (lv_room (Nat.le_of_ble_eq_true rfl)) dX12_weighThen_80 ⟨Nat.le_of_ble_eq_true rfl, Nat.le_of_ble_eq_true rfl⟩)) (fun r_131 hw_132 => ?_)
      refine lv_lstore (lv' := [(5, .long r_131), (4, .int (nI k_2)), (0, .ref mo), (1, .int (nI ja)), (2, .int (nI jc)), (3, .int (nI jd))]) hx hb dX12_weighThen_83 hl (by decide) rfl (fun ls hl => ?_)
      have hb_133 := tz_v3 hw_124 hw_128 hw_132 hs3
      refine lv_aload_n hx hb dX12_weighThen_85 rfl (lv_at hl 2 rfl) ?_
      refine lv_dup hx hb dX12_weighThen_86 rfl ?_
      refine va_get (D := (dC, dI)) (ci := 12) (v := .long v_55) (C := RX12) (T := TX12) (N := 24) hx hb hts iw_m_weighThen_X12 hown hK hP 0 rfl rfl 11 (by decide) (hts (.fieldLink RX12 176 "ThriceCountedModel" "allThen" "J") (by decide +kernel)) (fun _ h9 => h9) rfl dX12_weighThen_87 ?_
      refine lv_lload hx hb dX12_weighThen_90 (lv_at hl 0 rfl) ?_
      refine lv_ladd hx hb dX12_weighThen_92 ?_
      have hv_134 : tz_Al (k_2 + 1) jt (v_55 + r_131) := hi_111_2.step (by omega) hb_133.1 hb_133.2.1 (fun _ => hb_133.2.2 hv_120 (by decide) (by decide) (by decide))
      refine va_put (D := (dC, dI)) (ci := 12) (v := .long (v_55 + r_131)) (ty := .long) (C := RX12) (T := TX12) (N := 24) hx hb hts iw_m_weighThen_X12 tyX12 tyX12_ok nmX12 hown hK hP hD hS 0 rfl rfl 11 (by decide) (hts (.fieldLink RX12 176 "ThriceCountedModel" "allThen" "J") (by decide +kernel)) (fun _ h9 => h9) rfl (by decide +kernel) rfl rfl (Nat.le_of_ble_eq_true rfl) dX12_weighThen_93 (fun H locs hP hD hS => ?_)
      have hP : va_P (dC, dI) vwCl [(mo, .inr (12, [.ref nw, .ref kp, .ref ik, .ref mr, .long la_, .long lb_, .ref mw, .long lc_, .int (nI (90 + jt)), .int cb_, .long v_56, .long (v_55 + r_131), .ref mq, .ref mz, .ref my, .int sm_, .ref mb, .int bl_, .int ta_, .int tl_, .int tk_, .int vl_, .ref mx, .ref mv])), (mw, .inl (cw_, 21, .inr (.inl fw_)))] H := hP
      have hD : va_D A [(mo, .inr (12, [.ref nw, .ref kp, .ref ik, .ref mr, .long la_, .long lb_, .ref mw, .long lc_, .int (nI (90 + jt)), .int cb_, .long v_56, .long (v_55 + r_131), .ref mq, .ref mz, .ref my, .int sm_, .ref mb, .int bl_, .int ta_, .int tl_, .int tk_, .int vl_, .ref mx, .ref mv])), (mw, .inl (cw_, 21, .inr (.inl fw_)))] := hD
      refine lv_aload_n hx hb dX12_weighThen_96 rfl (lv_at hl 2 rfl) ?_
      refine lv_iload hx hb dX12_weighThen_97 (lv_at hl 1 rfl) ?_
      refine lv_aload_n hx hb dX12_weighThen_99 rfl (lv_at hl 2 rfl) ?_
      refine va_get (D := (dC, dI)) (ci := 12) (v := .int (nI (90 + jt))) (C := RX12) (T := TX12) (N := 24) hx hb hts iw_m_weighThen_X12 hown hK hP 0 rfl rfl 8 (by decide) (hts (.fieldLink RX12 154 "ThriceCountedModel" "trulyIs" "I") (by decide +kernel)) (fun _ h9 => h9) rfl dX12_weighThen_100 ?_
      refine lv_icmp_ne (tgt := 111) hx hb dX12_weighThen_103 (by decide) (fun c_135 => ?_) (fun c_135 => ?_)
      · have hn_136 : ¬ k_2 = (90 + jt) := fun q => c_135 ((nI_eq (a := k_2) (b := (90 + jt)) (by omega) (by omega)).mpr q)
        refine lv_aload_n hx hb dX12_weighThen_111 rfl (lv_at hl 2 rfl) ?_
        refine va_get (D := (dC, dI)) (ci := 12) (v := .long v_56) (C := RX12) (T := TX12) (N := 24) hx hb hts iw_m_weighThen_X12 hown hK hP 0 rfl rfl 10 (by decide) (hts (.fieldLink RX12 183 "ThriceCountedModel" "trulyThen" "J") (by decide +kernel)) (fun _ h9 => h9) rfl dX12_weighThen_112 ?_
        refine va_put (D := (dC, dI)) (ci := 12) (v := .long v_56) (ty := .long) (C := RX12) (T := TX12) (N := 24) hx hb hts iw_m_weighThen_X12 tyX12 tyX12_ok nmX12 hown hK hP hD hS 0 rfl rfl 10 (by decide) (hts (.fieldLink RX12 183 "ThriceCountedModel" "trulyThen" "J") (by decide +kernel)) (fun _ h9 => h9) rfl (by decide +kernel) rfl rfl (Nat.le_of_ble_eq_true rfl) dX12_weighThen_115 (fun H locs hP hD hS => ?_)
        have hP : va_P (dC, dI) vwCl [(mo, .inr (12, [.ref nw, .ref kp, .ref ik, .ref mr, .long la_, .long lb_, .ref mw, .long lc_, .int (nI (90 + jt)), .int cb_, .long v_56, .long (v_55 + r_131), .ref mq, .ref mz, .ref my, .int sm_, .ref mb, .int bl_, .int ta_, .int tl_, .int tk_, .int vl_, .ref mx, .ref mv])), (mw, .inl (cw_, 21, .inr (.inl fw_)))] H := hP
        have hD : va_D A [(mo, .inr (12, [.ref nw, .ref kp, .ref ik, .ref mr, .long la_, .long lb_, .ref mw, .long lc_, .int (nI (90 + jt)), .int cb_, .long v_56, .long (v_55 + r_131), .ref mq, .ref mz, .ref my, .int sm_, .ref mb, .int bl_, .int ta_, .int tl_, .int tk_, .int vl_, .ref mx, .ref mv])), (mw, .inl (cw_, 21, .inr (.inl fw_)))] := hD
        refine lv_iinc (v := (nI (k_2 + 1))) (lv' := [(4, .int (nI (k_2 + 1))), (5, .long r_131), (0, .ref mo), (1, .int (nI ja)), (2, .int (nI jc)), (3, .int (nI jd))]) hx hb dX12_weighThen_118 hl (k := 1) rfl (nI_add k_2 1) (by decide) rfl (fun ls hl => ?_)
        refine lv_goto (tgt := 9) hx hb dX12_weighThen_121 (by decide) ?_
        exact ih_112 ((k_2 + 1), (v_55 + r_131), v_56, H, locs, ls) ⟨by dsimp only; omega, by dsimp only; omega, hv_134, hP, hD, hS, lv_sub hl [0, 2, 3, 4, 5] rfl⟩ (by dsimp only; omega)
      · have hn_137 : k_2 = (90 + jt) := (nI_eq (a := k_2) (b := (90 + jt)) (by omega) (by omega)).mp c_135
        refine lv_lload hx hb dX12_weighThen_106 (lv_at hl 0 rfl) ?_
        refine lv_goto (tgt := 115) hx hb dX12_weighThen_108 (by decide) ?_
        refine va_put (D := (dC, dI)) (ci := 12) (v := .long r_131) (ty := .long) (C := RX12) (T := TX12) (N := 24) hx hb hts iw_m_weighThen_X12 tyX12 tyX12_ok nmX12 hown hK hP hD hS 0 rfl rfl 10 (by decide) (hts (.fieldLink RX12 183 "ThriceCountedModel" "trulyThen" "J") (by decide +kernel)) (fun _ h9 => h9) rfl (by decide +kernel) rfl rfl (Nat.le_of_ble_eq_true rfl) dX12_weighThen_115 (fun H locs hP hD hS => ?_)
        have hP : va_P (dC, dI) vwCl [(mo, .inr (12, [.ref nw, .ref kp, .ref ik, .ref mr, .long la_, .long lb_, .ref mw, .long lc_, .int (nI (90 + jt)), .int cb_, .long r_131, .long (v_55 + r_131), .ref mq, .ref mz, .ref my, .int sm_, .ref mb, .int bl_, .int ta_, .int tl_, .int tk_, .int vl_, .ref mx, .ref mv])), (mw, .inl (cw_, 21, .inr (.inl fw_)))] H := hP
        have hD : va_D A [(mo, .inr (12, [.ref nw, .ref kp, .ref ik, .ref mr, .long la_, .long lb_, .ref mw, .long lc_, .int (nI (90 + jt)), .int cb_, .long r_131, .long (v_55 + r_131), .ref mq, .ref mz, .ref my, .int sm_, .ref mb, .int bl_, .int ta_, .int tl_, .int tk_, .int vl_, .ref mx, .ref mv])), (mw, .inl (cw_, 21, .inr (.inl fw_)))] := hD
        refine lv_iinc (v := (nI (k_2 + 1))) (lv' := [(4, .int (nI (k_2 + 1))), (5, .long r_131), (0, .ref mo), (1, .int (nI ja)), (2, .int (nI jc)), (3, .int (nI jd))]) hx hb dX12_weighThen_118 hl (k := 1) rfl (nI_add k_2 1) (by decide) rfl (fun ls hl => ?_)
        refine lv_goto (tgt := 9) hx hb dX12_weighThen_121 (by decide) ?_
        exact ih_112 ((k_2 + 1), (v_55 + r_131), r_131, H, locs, ls) ⟨by dsimp only; omega, by dsimp only; omega, hv_134, hP, hD, hS, lv_sub hl [0, 2, 3, 4, 5] rfl⟩ (by dsimp only; omega)
    · refine lv_aload_n hx hb dX12_weighThen_16 rfl (lv_at hl 1 rfl) ?_
      refine va_get (D := (dC, dI)) (ci := 12) (v := .ref mw) (C := RX12) (T := TX12) (N := 24) hx hb hts iw_m_weighThen_X12 hown hK hP 0 rfl rfl 6 (by decide) (hts (.fieldLink RX12 27 "ThriceCountedModel" "weights" "[J") (by decide +kernel)) (fun _ h9 => h9) rfl dX12_weighThen_17 ?_
      refine lv_iload hx hb dX12_weighThen_20 (lv_at hl 0 rfl) ?_
      refine lv_bipush (v := 90) hx hb dX12_weighThen_22 (by decide) ?_
      refine lv_isub hx hb dX12_weighThen_24 ?_
      refine tz_i (nI (k_2 - 90)) (pk_sub (a := k_2) (b := 90) (by omega)) ?_
      refine va_lald hx hb hK hP 1 0 rfl rfl (vp_in_nI (n := (k_2 - 90)) (N := 21) (by omega) (by decide)) dX12_weighThen_25 ?_
      refine lv_topl (fun x_138 ex_139 => ?_)
      have hv_140 : tz_tv 28160000000000 x_138 := by rw [ex_139, nI_clamp (by omega)]; exact (hW.1 _ (by omega)).tv
      refine lv_lstore (lv' := [(5, .long x_138), (4, .int (nI k_2)), (0, .ref mo), (1, .int (nI ja)), (2, .int (nI jc)), (3, .int (nI jd))]) hx hb dX12_weighThen_26 hl (by decide) rfl (fun ls hl => ?_)
      refine lv_lload hx hb dX12_weighThen_28 (lv_at hl 0 rfl) ?_
      refine lv_iconst (v := 0) hx hb dX12_weighThen_30 (by decide) ?_
      refine lv_aload_n hx hb dX12_weighThen_31 rfl (lv_at hl 2 rfl) ?_
      refine va_get (D := (dC, dI)) (ci := 12) (v := .int (nI (90 + jt))) (C := RX12) (T := TX12) (N := 24) hx hb hts iw_m_weighThen_X12 hown hK hP 0 rfl rfl 8 (by decide) (hts (.fieldLink RX12 154 "ThriceCountedModel" "trulyIs" "I") (by decide +kernel)) (fun _ h9 => h9) rfl dX12_weighThen_32 ?_
      refine lv_iload hx hb dX12_weighThen_35 (lv_at hl 1 rfl) ?_
      refine lv_isub hx hb dX12_weighThen_37 ?_
      refine vp_callSi (va_Run.run (va_runS (As := [.int 0, .int ((nI (90 + jt)) - (nI k_2))]) (rest := [.long x_138]) ⟨hx, hb, hml, hown, hts⟩ (m_oddsOf l dC dI 0 ((nI (90 + jt)) - (nI k_2)) (by decide)) (va_cwS 2 hts gX12_weighThen_X12_oddsOf rfl rfl rfl (by decide +kernel) ⟨Nat.le_of_ble_eq_true rfl, Nat.le_of_ble_eq_true rfl⟩) ⟨fun a U g mk q => ⟨q.1, trivial⟩, fun U hU hW => ⟨rfl, trivial⟩⟩ rfl rfl hl.1 rfl (lv_room (Nat.le_of_ble_eq_true rfl)) dX12_weighThen_38 ⟨Nat.le_of_ble_eq_true rfl, Nat.le_of_ble_eq_true rfl⟩)) (fun r_141 hw_142 => ?_)
      obtain rfl : (zN (yS 0) ((nI (90 + jt)) - (nI k_2)) 20) = r_141 := hw_142.symm
      obtain ⟨o_143, ho_144, eo_145⟩ : ∃ o : Nat, o ≤ 20 ∧ (zN (yS 0) ((nI (90 + jt)) - (nI k_2)) 20) = nI o := tz_zN_nat _ _ 20 (by decide)
      refine tz_i (nI o_143) eo_145 ?_
      refine lv_iload_n hx hb dX12_weighThen_41 rfl (lv_at hl 3 rfl) ?_
      refine vp_callSl (va_Run.run (va_runS (As := [.long x_138, .int (nI o_143), .int (nI ja)]) (rest := []) ⟨hx, hb, hml, hown, hts⟩ (m_times l dC dI x_138 28160000000000 o_143 ja hv_140 (by omega) (by omega) (tz_pw1 (by omega))) (va_cwS 3 hts gX12_weighThen_X12_times rfl rfl rfl (by decide +kernel) ⟨Nat.le_of_ble_eq_true rfl, Nat.le_of_ble_eq_true rfl⟩) ⟨fun a U g mk q => ⟨q.1, trivial⟩, fun U hU hW => ⟨rfl, trivial⟩⟩ rfl rfl hl.1 rfl (lv_room (Nat.le_of_ble_eq_true rfl)) dX12_weighThen_42 ⟨Nat.le_of_ble_eq_true rfl, Nat.le_of_ble_eq_true rfl⟩)) (fun r_146 hw_147 => ?_)
      refine lv_lstore (lv' := [(5, .long r_146), (4, .int (nI k_2)), (0, .ref mo), (1, .int (nI ja)), (2, .int (nI jc)), (3, .int (nI jd))]) hx hb dX12_weighThen_45 hl (by decide) rfl (fun ls hl => ?_)
      refine lv_lload hx hb dX12_weighThen_47 (lv_at hl 0 rfl) ?_
      refine lv_iconst (v := 1) hx hb dX12_weighThen_49 (by decide) ?_
      refine lv_aload_n hx hb dX12_weighThen_50 rfl (lv_at hl 2 rfl) ?_
      refine va_get (D := (dC, dI)) (ci := 12) (v := .int (nI (90 + jt))) (C := RX12) (T := TX12) (N := 24) hx hb hts iw_m_weighThen_X12 hown hK hP 0 rfl rfl 8 (by decide) (hts (.fieldLink RX12 154 "ThriceCountedModel" "trulyIs" "I") (by decide +kernel)) (fun _ h9 => h9) rfl dX12_weighThen_51 ?_
      refine lv_iload hx hb dX12_weighThen_54 (lv_at hl 1 rfl) ?_
      refine lv_isub hx hb dX12_weighThen_56 ?_
      refine vp_callSi (va_Run.run (va_runS (As := [.int 1, .int ((nI (90 + jt)) - (nI k_2))]) (rest := [.long r_146]) ⟨hx, hb, hml, hown, hts⟩ (m_oddsOf l dC dI 1 ((nI (90 + jt)) - (nI k_2)) (by decide)) (va_cwS 2 hts gX12_weighThen_X12_oddsOf rfl rfl rfl (by decide +kernel) ⟨Nat.le_of_ble_eq_true rfl, Nat.le_of_ble_eq_true rfl⟩) ⟨fun a U g mk q => ⟨q.1, trivial⟩, fun U hU hW => ⟨rfl, trivial⟩⟩ rfl rfl hl.1 rfl (lv_room (Nat.le_of_ble_eq_true rfl)) dX12_weighThen_57 ⟨Nat.le_of_ble_eq_true rfl, Nat.le_of_ble_eq_true rfl⟩)) (fun r_148 hw_149 => ?_)
      obtain rfl : (zN (yS 1) ((nI (90 + jt)) - (nI k_2)) 20) = r_148 := hw_149.symm
      obtain ⟨o_150, ho_151, eo_152⟩ : ∃ o : Nat, o ≤ 20 ∧ (zN (yS 1) ((nI (90 + jt)) - (nI k_2)) 20) = nI o := tz_zN_nat _ _ 20 (by decide)
      refine tz_i (nI o_150) eo_152 ?_
      refine lv_iload_n hx hb dX12_weighThen_60 rfl (lv_at hl 4 rfl) ?_
      refine vp_callSl (va_Run.run (va_runS (As := [.long r_146, .int (nI o_150), .int (nI jc)]) (rest := []) ⟨hx, hb, hml, hown, hts⟩ (m_times l dC dI r_146 (28160000000000 * 20 ^ ja) o_150 jc hw_147.tv (by omega) (by omega) (tz_pw2 ja (by omega) jc (by omega) (by omega))) (va_cwS 3 hts gX12_weighThen_X12_times rfl rfl rfl (by decide +kernel) ⟨Nat.le_of_ble_eq_true rfl, Nat.le_of_ble_eq_true rfl⟩) ⟨fun a U g mk q => ⟨q.1, trivial⟩, fun U hU hW => ⟨rfl, trivial⟩⟩ rfl rfl hl.1 rfl (lv_room (Nat.le_of_ble_eq_true rfl)) dX12_weighThen_61 ⟨Nat.le_of_ble_eq_true rfl, Nat.le_of_ble_eq_true rfl⟩)) (fun r_153 hw_154 => ?_)
      refine lv_lstore (lv' := [(5, .long r_153), (4, .int (nI k_2)), (0, .ref mo), (1, .int (nI ja)), (2, .int (nI jc)), (3, .int (nI jd))]) hx hb dX12_weighThen_64 hl (by decide) rfl (fun ls hl => ?_)
      refine lv_lload hx hb dX12_weighThen_66 (lv_at hl 0 rfl) ?_
      refine lv_iconst (v := 2) hx hb dX12_weighThen_68 (by decide) ?_
      refine lv_aload_n hx hb dX12_weighThen_69 rfl (lv_at hl 2 rfl) ?_
      refine va_get (D := (dC, dI)) (ci := 12) (v := .int (nI (90 + jt))) (C := RX12) (T := TX12) (N := 24) hx hb hts iw_m_weighThen_X12 hown hK hP 0 rfl rfl 8 (by decide) (hts (.fieldLink RX12 154 "ThriceCountedModel" "trulyIs" "I") (by decide +kernel)) (fun _ h9 => h9) rfl dX12_weighThen_70 ?_
      refine lv_iload hx hb dX12_weighThen_73 (lv_at hl 1 rfl) ?_
      refine lv_isub hx hb dX12_weighThen_75 ?_
      refine vp_callSi (va_Run.run (va_runS (As := [.int 2, .int ((nI (90 + jt)) - (nI k_2))]) (rest := [.long r_153]) ⟨hx, hb, hml, hown, hts⟩ (m_oddsOf l dC dI 2 ((nI (90 + jt)) - (nI k_2)) (by decide)) (va_cwS 2 hts gX12_weighThen_X12_oddsOf rfl rfl rfl (by decide +kernel) ⟨Nat.le_of_ble_eq_true rfl, Nat.le_of_ble_eq_true rfl⟩) ⟨fun a U g mk q => ⟨q.1, trivial⟩, fun U hU hW => ⟨rfl, trivial⟩⟩ rfl rfl hl.1 rfl (lv_room (Nat.le_of_ble_eq_true rfl)) dX12_weighThen_76 ⟨Nat.le_of_ble_eq_true rfl, Nat.le_of_ble_eq_true rfl⟩)) (fun r_155 hw_156 => ?_)
      obtain rfl : (zN (yS 2) ((nI (90 + jt)) - (nI k_2)) 20) = r_155 := hw_156.symm
      obtain ⟨o_157, ho_158, eo_159⟩ : ∃ o : Nat, o ≤ 20 ∧ (zN (yS 2) ((nI (90 + jt)) - (nI k_2)) 20) = nI o := tz_zN_nat _ _ 20 (by decide)
      refine tz_i (nI o_157) eo_159 ?_
      refine lv_iload_n hx hb dX12_weighThen_79 rfl (lv_at hl 5 rfl) ?_
      refine vp_callSl (va_Run.run (va_runS (As := [.long r_153, .int (nI o_157), .int (nI jd)]) (rest := []) ⟨hx, hb, hml, hown, hts⟩ (m_times l dC dI r_153 (28160000000000 * 20 ^ ja * 20 ^ jc) o_157 jd hw_154.tv (by omega) (by omega) (Nat.lt_of_le_of_lt (tz_pw3 ja (by omega) jc (by omega) jd (by omega) (by omega)) (by decide))) (va_cwS 3 hts gX12_weighThen_X12_times rfl rfl rfl (by decide +kernel) ⟨Nat.le_of_ble_eq_true rfl, Nat.le_of_ble_eq_true rfl⟩) ⟨fun a U g mk q => ⟨q.1, trivial⟩, fun U hU hW => ⟨rfl, trivial⟩⟩ rfl rfl hl.1 rfl (lv_room (Nat.le_of_ble_eq_true rfl)) dX12_weighThen_80 ⟨Nat.le_of_ble_eq_true rfl, Nat.le_of_ble_eq_true rfl⟩)) (fun r_160 hw_161 => ?_)
      refine lv_lstore (lv' := [(5, .long r_160), (4, .int (nI k_2)), (0, .ref mo), (1, .int (nI ja)), (2, .int (nI jc)), (3, .int (nI jd))]) hx hb dX12_weighThen_83 hl (by decide) rfl (fun ls hl => ?_)
      have hb_162 := tz_v3 hw_147 hw_154 hw_161 hs3
      refine lv_aload_n hx hb dX12_weighThen_85 rfl (lv_at hl 2 rfl) ?_
      refine lv_dup hx hb dX12_weighThen_86 rfl ?_
      refine va_get (D := (dC, dI)) (ci := 12) (v := .long v_55) (C := RX12) (T := TX12) (N := 24) hx hb hts iw_m_weighThen_X12 hown hK hP 0 rfl rfl 11 (by decide) (hts (.fieldLink RX12 176 "ThriceCountedModel" "allThen" "J") (by decide +kernel)) (fun _ h9 => h9) rfl dX12_weighThen_87 ?_
      refine lv_lload hx hb dX12_weighThen_90 (lv_at hl 0 rfl) ?_
      refine lv_ladd hx hb dX12_weighThen_92 ?_
      have hv_163 : tz_Al (k_2 + 1) jt (v_55 + r_160) := hi_111_2.step (by omega) hb_162.1 hb_162.2.1 (fun q => absurd q hx_116)
      refine va_put (D := (dC, dI)) (ci := 12) (v := .long (v_55 + r_160)) (ty := .long) (C := RX12) (T := TX12) (N := 24) hx hb hts iw_m_weighThen_X12 tyX12 tyX12_ok nmX12 hown hK hP hD hS 0 rfl rfl 11 (by decide) (hts (.fieldLink RX12 176 "ThriceCountedModel" "allThen" "J") (by decide +kernel)) (fun _ h9 => h9) rfl (by decide +kernel) rfl rfl (Nat.le_of_ble_eq_true rfl) dX12_weighThen_93 (fun H locs hP hD hS => ?_)
      have hP : va_P (dC, dI) vwCl [(mo, .inr (12, [.ref nw, .ref kp, .ref ik, .ref mr, .long la_, .long lb_, .ref mw, .long lc_, .int (nI (90 + jt)), .int cb_, .long v_56, .long (v_55 + r_160), .ref mq, .ref mz, .ref my, .int sm_, .ref mb, .int bl_, .int ta_, .int tl_, .int tk_, .int vl_, .ref mx, .ref mv])), (mw, .inl (cw_, 21, .inr (.inl fw_)))] H := hP
      have hD : va_D A [(mo, .inr (12, [.ref nw, .ref kp, .ref ik, .ref mr, .long la_, .long lb_, .ref mw, .long lc_, .int (nI (90 + jt)), .int cb_, .long v_56, .long (v_55 + r_160), .ref mq, .ref mz, .ref my, .int sm_, .ref mb, .int bl_, .int ta_, .int tl_, .int tk_, .int vl_, .ref mx, .ref mv])), (mw, .inl (cw_, 21, .inr (.inl fw_)))] := hD
      refine lv_aload_n hx hb dX12_weighThen_96 rfl (lv_at hl 2 rfl) ?_
      refine lv_iload hx hb dX12_weighThen_97 (lv_at hl 1 rfl) ?_
      refine lv_aload_n hx hb dX12_weighThen_99 rfl (lv_at hl 2 rfl) ?_
      refine va_get (D := (dC, dI)) (ci := 12) (v := .int (nI (90 + jt))) (C := RX12) (T := TX12) (N := 24) hx hb hts iw_m_weighThen_X12 hown hK hP 0 rfl rfl 8 (by decide) (hts (.fieldLink RX12 154 "ThriceCountedModel" "trulyIs" "I") (by decide +kernel)) (fun _ h9 => h9) rfl dX12_weighThen_100 ?_
      refine lv_icmp_ne (tgt := 111) hx hb dX12_weighThen_103 (by decide) (fun c_164 => ?_) (fun c_164 => ?_)
      · have hn_165 : ¬ k_2 = (90 + jt) := fun q => c_164 ((nI_eq (a := k_2) (b := (90 + jt)) (by omega) (by omega)).mpr q)
        refine lv_aload_n hx hb dX12_weighThen_111 rfl (lv_at hl 2 rfl) ?_
        refine va_get (D := (dC, dI)) (ci := 12) (v := .long v_56) (C := RX12) (T := TX12) (N := 24) hx hb hts iw_m_weighThen_X12 hown hK hP 0 rfl rfl 10 (by decide) (hts (.fieldLink RX12 183 "ThriceCountedModel" "trulyThen" "J") (by decide +kernel)) (fun _ h9 => h9) rfl dX12_weighThen_112 ?_
        refine va_put (D := (dC, dI)) (ci := 12) (v := .long v_56) (ty := .long) (C := RX12) (T := TX12) (N := 24) hx hb hts iw_m_weighThen_X12 tyX12 tyX12_ok nmX12 hown hK hP hD hS 0 rfl rfl 10 (by decide) (hts (.fieldLink RX12 183 "ThriceCountedModel" "trulyThen" "J") (by decide +kernel)) (fun _ h9 => h9) rfl (by decide +kernel) rfl rfl (Nat.le_of_ble_eq_true rfl) dX12_weighThen_115 (fun H locs hP hD hS => ?_)
        have hP : va_P (dC, dI) vwCl [(mo, .inr (12, [.ref nw, .ref kp, .ref ik, .ref mr, .long la_, .long lb_, .ref mw, .long lc_, .int (nI (90 + jt)), .int cb_, .long v_56, .long (v_55 + r_160), .ref mq, .ref mz, .ref my, .int sm_, .ref mb, .int bl_, .int ta_, .int tl_, .int tk_, .int vl_, .ref mx, .ref mv])), (mw, .inl (cw_, 21, .inr (.inl fw_)))] H := hP
        have hD : va_D A [(mo, .inr (12, [.ref nw, .ref kp, .ref ik, .ref mr, .long la_, .long lb_, .ref mw, .long lc_, .int (nI (90 + jt)), .int cb_, .long v_56, .long (v_55 + r_160), .ref mq, .ref mz, .ref my, .int sm_, .ref mb, .int bl_, .int ta_, .int tl_, .int tk_, .int vl_, .ref mx, .ref mv])), (mw, .inl (cw_, 21, .inr (.inl fw_)))] := hD
        refine lv_iinc (v := (nI (k_2 + 1))) (lv' := [(4, .int (nI (k_2 + 1))), (5, .long r_160), (0, .ref mo), (1, .int (nI ja)), (2, .int (nI jc)), (3, .int (nI jd))]) hx hb dX12_weighThen_118 hl (k := 1) rfl (nI_add k_2 1) (by decide) rfl (fun ls hl => ?_)
        refine lv_goto (tgt := 9) hx hb dX12_weighThen_121 (by decide) ?_
        exact ih_112 ((k_2 + 1), (v_55 + r_160), v_56, H, locs, ls) ⟨by dsimp only; omega, by dsimp only; omega, hv_163, hP, hD, hS, lv_sub hl [0, 2, 3, 4, 5] rfl⟩ (by dsimp only; omega)
      · have hn_166 : k_2 = (90 + jt) := (nI_eq (a := k_2) (b := (90 + jt)) (by omega) (by omega)).mp c_164
        refine lv_lload hx hb dX12_weighThen_106 (lv_at hl 0 rfl) ?_
        refine lv_goto (tgt := 115) hx hb dX12_weighThen_108 (by decide) ?_
        refine va_put (D := (dC, dI)) (ci := 12) (v := .long r_160) (ty := .long) (C := RX12) (T := TX12) (N := 24) hx hb hts iw_m_weighThen_X12 tyX12 tyX12_ok nmX12 hown hK hP hD hS 0 rfl rfl 10 (by decide) (hts (.fieldLink RX12 183 "ThriceCountedModel" "trulyThen" "J") (by decide +kernel)) (fun _ h9 => h9) rfl (by decide +kernel) rfl rfl (Nat.le_of_ble_eq_true rfl) dX12_weighThen_115 (fun H locs hP hD hS => ?_)
        have hP : va_P (dC, dI) vwCl [(mo, .inr (12, [.ref nw, .ref kp, .ref ik, .ref mr, .long la_, .long lb_, .ref mw, .long lc_, .int (nI (90 + jt)), .int cb_, .long r_160, .long (v_55 + r_160), .ref mq, .ref mz, .ref my, .int sm_, .ref mb, .int bl_, .int ta_, .int tl_, .int tk_, .int vl_, .ref mx, .ref mv])), (mw, .inl (cw_, 21, .inr (.inl fw_)))] H := hP
        have hD : va_D A [(mo, .inr (12, [.ref nw, .ref kp, .ref ik, .ref mr, .long la_, .long lb_, .ref mw, .long lc_, .int (nI (90 + jt)), .int cb_, .long r_160, .long (v_55 + r_160), .ref mq, .ref mz, .ref my, .int sm_, .ref mb, .int bl_, .int ta_, .int tl_, .int tk_, .int vl_, .ref mx, .ref mv])), (mw, .inl (cw_, 21, .inr (.inl fw_)))] := hD
        refine lv_iinc (v := (nI (k_2 + 1))) (lv' := [(4, .int (nI (k_2 + 1))), (5, .long r_160), (0, .ref mo), (1, .int (nI ja)), (2, .int (nI jc)), (3, .int (nI jd))]) hx hb dX12_weighThen_118 hl (k := 1) rfl (nI_add k_2 1) (by decide) rfl (fun ls hl => ?_)
        refine lv_goto (tgt := 9) hx hb dX12_weighThen_121 (by decide) ?_
        exact ih_112 ((k_2 + 1), (v_55 + r_160), r_160, H, locs, ls) ⟨by dsimp only; omega, by dsimp only; omega, hv_163, hP, hD, hS, lv_sub hl [0, 2, 3, 4, 5] rfl⟩ (by dsimp only; omega)
theorem dX12_isMore_0 : decode cX12_isMore 0 = .ok (.lload_n 0, 1) := by decide +kernel
theorem dX12_isMore_1 : decode cX12_isMore 1 = .ok (.lstore 8, 2) := by decide +kernel
theorem dX12_isMore_3 : decode cX12_isMore 3 = .ok (.lload_n 2, 1) := by decide +kernel
theorem dX12_isMore_4 : decode cX12_isMore 4 = .ok (.lstore 10, 2) := by decide +kernel
theorem dX12_isMore_6 : decode cX12_isMore 6 = .ok (.lload 4, 2) := by decide +kernel
theorem dX12_isMore_8 : decode cX12_isMore 8 = .ok (.lstore 12, 2) := by decide +kernel
theorem dX12_isMore_10 : decode cX12_isMore 10 = .ok (.lload 6, 2) := by decide +kernel
theorem dX12_isMore_12 : decode cX12_isMore 12 = .ok (.lstore 14, 2) := by decide +kernel
theorem dX12_isMore_14 : decode cX12_isMore 14 = .ok (.iconst 0, 1) := by decide +kernel
theorem dX12_isMore_15 : decode cX12_isMore 15 = .ok (.istore 16, 2) := by decide +kernel
theorem dX12_isMore_17 : decode cX12_isMore 17 = .ok (.iconst 1, 1) := by decide +kernel
theorem dX12_isMore_18 : decode cX12_isMore 18 = .ok (.istore 17, 2) := by decide +kernel
theorem dX12_isMore_20 : decode cX12_isMore 20 = .ok (.iconst 0, 1) := by decide +kernel
theorem dX12_isMore_21 : decode cX12_isMore 21 = .ok (.istore 18, 2) := by decide +kernel
theorem dX12_isMore_23 : decode cX12_isMore 23 = .ok (.iload 17, 2) := by decide +kernel
theorem dX12_isMore_25 : decode cX12_isMore 25 = .ok (.ifCond .eq 171, 3) := by decide +kernel
theorem dX12_isMore_28 : decode cX12_isMore 28 = .ok (.lload 8, 2) := by decide +kernel
theorem dX12_isMore_30 : decode cX12_isMore 30 = .ok (.lload 10, 2) := by decide +kernel
theorem dX12_isMore_32 : decode cX12_isMore 32 = .ok (.ldiv, 1) := by decide +kernel
theorem dX12_isMore_33 : decode cX12_isMore 33 = .ok (.lstore 19, 2) := by decide +kernel
theorem dX12_isMore_35 : decode cX12_isMore 35 = .ok (.lload 12, 2) := by decide +kernel
theorem dX12_isMore_37 : decode cX12_isMore 37 = .ok (.lload 14, 2) := by decide +kernel
theorem dX12_isMore_39 : decode cX12_isMore 39 = .ok (.ldiv, 1) := by decide +kernel
theorem dX12_isMore_40 : decode cX12_isMore 40 = .ok (.lstore 21, 2) := by decide +kernel
theorem dX12_isMore_42 : decode cX12_isMore 42 = .ok (.lload 19, 2) := by decide +kernel
theorem dX12_isMore_44 : decode cX12_isMore 44 = .ok (.lload 21, 2) := by decide +kernel
theorem dX12_isMore_46 : decode cX12_isMore 46 = .ok (.lcmp, 1) := by decide +kernel
theorem dX12_isMore_47 : decode cX12_isMore 47 = .ok (.ifCond .eq 27, 3) := by decide +kernel
theorem dX12_isMore_74 : decode cX12_isMore 74 = .ok (.lload 8, 2) := by decide +kernel
theorem dX12_isMore_76 : decode cX12_isMore 76 = .ok (.lload 19, 2) := by decide +kernel
theorem dX12_isMore_78 : decode cX12_isMore 78 = .ok (.lload 10, 2) := by decide +kernel
theorem dX12_isMore_80 : decode cX12_isMore 80 = .ok (.lmul, 1) := by decide +kernel
theorem dX12_isMore_81 : decode cX12_isMore 81 = .ok (.lsub, 1) := by decide +kernel
theorem dX12_isMore_82 : decode cX12_isMore 82 = .ok (.lstore 8, 2) := by decide +kernel
theorem dX12_isMore_84 : decode cX12_isMore 84 = .ok (.lload 12, 2) := by decide +kernel
theorem dX12_isMore_86 : decode cX12_isMore 86 = .ok (.lload 21, 2) := by decide +kernel
theorem dX12_isMore_88 : decode cX12_isMore 88 = .ok (.lload 14, 2) := by decide +kernel
theorem dX12_isMore_90 : decode cX12_isMore 90 = .ok (.lmul, 1) := by decide +kernel
theorem dX12_isMore_91 : decode cX12_isMore 91 = .ok (.lsub, 1) := by decide +kernel
theorem dX12_isMore_92 : decode cX12_isMore 92 = .ok (.lstore 12, 2) := by decide +kernel
theorem dX12_isMore_94 : decode cX12_isMore 94 = .ok (.lload 8, 2) := by decide +kernel
theorem dX12_isMore_96 : decode cX12_isMore 96 = .ok (.lconst 0, 1) := by decide +kernel
theorem dX12_isMore_97 : decode cX12_isMore 97 = .ok (.lcmp, 1) := by decide +kernel
theorem dX12_isMore_98 : decode cX12_isMore 98 = .ok (.ifCond .eq 14, 3) := by decide +kernel
theorem dX12_isMore_112 : decode cX12_isMore 112 = .ok (.iconst 0, 1) := by decide +kernel
theorem dX12_isMore_113 : decode cX12_isMore 113 = .ok (.istore 17, 2) := by decide +kernel
theorem dX12_isMore_115 : decode cX12_isMore 115 = .ok (.iload 16, 2) := by decide +kernel
theorem dX12_isMore_117 : decode cX12_isMore 117 = .ok (.ifCond .eq 18, 3) := by decide +kernel
theorem dX12_isMore_135 : decode cX12_isMore 135 = .ok (.lload 8, 2) := by decide +kernel
theorem dX12_isMore_137 : decode cX12_isMore 137 = .ok (.lconst 0, 1) := by decide +kernel
theorem dX12_isMore_138 : decode cX12_isMore 138 = .ok (.lcmp, 1) := by decide +kernel
theorem dX12_isMore_139 : decode cX12_isMore 139 = .ok (.ifCond .le 7, 3) := by decide +kernel
theorem dX12_isMore_146 : decode cX12_isMore 146 = .ok (.iconst 0, 1) := by decide +kernel
theorem dX12_isMore_147 : decode cX12_isMore 147 = .ok (.istore 18, 2) := by decide +kernel
theorem dX12_isMore_149 : decode cX12_isMore 149 = .ok (.iload 17, 2) := by decide +kernel
theorem dX12_isMore_151 : decode cX12_isMore 151 = .ok (.ifCond .ne 6, 3) := by decide +kernel
theorem dX12_isMore_154 : decode cX12_isMore 154 = .ok (.iload 18, 2) := by decide +kernel
theorem dX12_isMore_156 : decode cX12_isMore 156 = .ok (.ireturn, 1) := by decide +kernel
theorem dX12_isMore_142 : decode cX12_isMore 142 = .ok (.iconst 1, 1) := by decide +kernel
theorem dX12_isMore_143 : decode cX12_isMore 143 = .ok (.goto 4, 3) := by decide +kernel
theorem dX12_isMore_101 : decode cX12_isMore 101 = .ok (.lload 12, 2) := by decide +kernel
theorem dX12_isMore_103 : decode cX12_isMore 103 = .ok (.lconst 0, 1) := by decide +kernel
theorem dX12_isMore_104 : decode cX12_isMore 104 = .ok (.lcmp, 1) := by decide +kernel
theorem dX12_isMore_105 : decode cX12_isMore 105 = .ok (.ifCond .eq 7, 3) := by decide +kernel
theorem dX12_isMore_108 : decode cX12_isMore 108 = .ok (.iconst 1, 1) := by decide +kernel
theorem dX12_isMore_109 : decode cX12_isMore 109 = .ok (.goto 4, 3) := by decide +kernel
theorem dX12_isMore_157 : decode cX12_isMore 157 = .ok (.lload 8, 2) := by decide +kernel
theorem dX12_isMore_159 : decode cX12_isMore 159 = .ok (.lstore 23, 2) := by decide +kernel
theorem dX12_isMore_161 : decode cX12_isMore 161 = .ok (.lload 10, 2) := by decide +kernel
theorem dX12_isMore_163 : decode cX12_isMore 163 = .ok (.lstore 8, 2) := by decide +kernel
theorem dX12_isMore_165 : decode cX12_isMore 165 = .ok (.lload 23, 2) := by decide +kernel
theorem dX12_isMore_167 : decode cX12_isMore 167 = .ok (.lstore 10, 2) := by decide +kernel
theorem dX12_isMore_169 : decode cX12_isMore 169 = .ok (.lload 12, 2) := by decide +kernel
theorem dX12_isMore_171 : decode cX12_isMore 171 = .ok (.lstore 23, 2) := by decide +kernel
theorem dX12_isMore_173 : decode cX12_isMore 173 = .ok (.lload 14, 2) := by decide +kernel
theorem dX12_isMore_175 : decode cX12_isMore 175 = .ok (.lstore 12, 2) := by decide +kernel
theorem dX12_isMore_177 : decode cX12_isMore 177 = .ok (.lload 23, 2) := by decide +kernel
theorem dX12_isMore_179 : decode cX12_isMore 179 = .ok (.lstore 14, 2) := by decide +kernel
theorem dX12_isMore_181 : decode cX12_isMore 181 = .ok (.iload 16, 2) := by decide +kernel
theorem dX12_isMore_183 : decode cX12_isMore 183 = .ok (.ifCond .ne 7, 3) := by decide +kernel
theorem dX12_isMore_186 : decode cX12_isMore 186 = .ok (.iconst 1, 1) := by decide +kernel
theorem dX12_isMore_187 : decode cX12_isMore 187 = .ok (.goto 4, 3) := by decide +kernel
theorem dX12_isMore_191 : decode cX12_isMore 191 = .ok (.istore 16, 2) := by decide +kernel
theorem dX12_isMore_193 : decode cX12_isMore 193 = .ok (.goto (-170), 3) := by decide +kernel
theorem dX12_isMore_50 : decode cX12_isMore 50 = .ok (.lload 19, 2) := by decide +kernel
theorem dX12_isMore_52 : decode cX12_isMore 52 = .ok (.lload 21, 2) := by decide +kernel
theorem dX12_isMore_54 : decode cX12_isMore 54 = .ok (.lcmp, 1) := by decide +kernel
theorem dX12_isMore_55 : decode cX12_isMore 55 = .ok (.ifCond .le 7, 3) := by decide +kernel
theorem dX12_isMore_62 : decode cX12_isMore 62 = .ok (.iconst 0, 1) := by decide +kernel
theorem dX12_isMore_63 : decode cX12_isMore 63 = .ok (.iload 16, 2) := by decide +kernel
theorem dX12_isMore_65 : decode cX12_isMore 65 = .ok (.if_icmp .eq 7, 3) := by decide +kernel
theorem dX12_isMore_72 : decode cX12_isMore 72 = .ok (.iconst 0, 1) := by decide +kernel
theorem dX12_isMore_73 : decode cX12_isMore 73 = .ok (.ireturn, 1) := by decide +kernel
theorem dX12_isMore_58 : decode cX12_isMore 58 = .ok (.iconst 1, 1) := by decide +kernel
theorem dX12_isMore_59 : decode cX12_isMore 59 = .ok (.goto 4, 3) := by decide +kernel
theorem dX12_isMore_68 : decode cX12_isMore 68 = .ok (.iconst 1, 1) := by decide +kernel
theorem dX12_isMore_69 : decode cX12_isMore 69 = .ok (.goto 4, 3) := by decide +kernel
theorem dX12_isMore_120 : decode cX12_isMore 120 = .ok (.lload 12, 2) := by decide +kernel
theorem dX12_isMore_122 : decode cX12_isMore 122 = .ok (.lconst 0, 1) := by decide +kernel
theorem dX12_isMore_123 : decode cX12_isMore 123 = .ok (.lcmp, 1) := by decide +kernel
theorem dX12_isMore_124 : decode cX12_isMore 124 = .ok (.ifCond .le 7, 3) := by decide +kernel
theorem dX12_isMore_131 : decode cX12_isMore 131 = .ok (.iconst 0, 1) := by decide +kernel
theorem dX12_isMore_132 : decode cX12_isMore 132 = .ok (.goto 15, 3) := by decide +kernel
theorem dX12_isMore_127 : decode cX12_isMore 127 = .ok (.iconst 1, 1) := by decide +kernel
theorem dX12_isMore_128 : decode cX12_isMore 128 = .ok (.goto 19, 3) := by decide +kernel
theorem dX12_isMore_190 : decode cX12_isMore 190 = .ok (.iconst 0, 1) := by decide +kernel
set_option maxHeartbeats 4000000 in
set_option maxRecDepth 100000 in
theorem m_isMore (l : Launch) (dC : Nat → ClassId) (dI : Nat → Nat → Nat) (pa : Int64) (pb : Int64) (pe : Int64) (pd : Int64) (hpb : ¬ pb = 0) (hpd : ¬ pd = 0) : Met l yX12_isMore wsX12_isMore ({ frames := 0, cells := 0, slots := 0, locals := 0 }) (va_Pc [.long pa, .long pb, .long pe, .long pd] (fun _ => True)) (vp_Si (fun r => r = 0 ∨ r = 1)) 0 0 (fun _ => False) := by
  refine Met.ofW (cc := cX12_isMore) (maxL := 25) (ret := (some .boolean)) (by decide) rfl ?_
  intro p e s m args below meth c s₁ B hml hv
  obtain ⟨rfl, -⟩ := hv
  have hx := B.exec
  have hb := B.bytes
  have hr := B.returns
  have hts := atoms_spec (ws := wsX12_isMore) B.pre
  have hown : s.vm.findClass RX12 = some m.cls := findClass_of_methodNamed B.named
  have hlocks := B.notSynchronized
  have hl := lv_entry ([.long pa, .long pb, .long pe, .long pd]) (n := 25) (Nat.le_of_ble_eq_true rfl)
  rw [lg_entry_eq]
  generalize (lg_sl ([.long pa, .long pb, .long pe, .long pd]) ++ List.replicate (25 - (lg_sl ([.long pa, .long pb, .long pe, .long pd])).length) Slot.unset).toArray = ls at hl ⊢
  have hl : lv_has ls 25 [(0, .long pa), (2, .long pb), (4, .long pe), (6, .long pd)] := hl
  refine lv_lload_n hx hb dX12_isMore_0 rfl (lv_at hl 0 rfl) ?_
  refine lv_lstore (lv' := [(8, .long pa), (0, .long pa), (2, .long pb), (4, .long pe), (6, .long pd)]) hx hb dX12_isMore_1 hl (by decide) rfl (fun ls hl => ?_)
  refine lv_lload_n hx hb dX12_isMore_3 rfl (lv_at hl 2 rfl) ?_
  refine lv_lstore (lv' := [(10, .long pb), (8, .long pa), (0, .long pa), (2, .long pb), (4, .long pe), (6, .long pd)]) hx hb dX12_isMore_4 hl (by decide) rfl (fun ls hl => ?_)
  refine lv_lload hx hb dX12_isMore_6 (lv_at hl 4 rfl) ?_
  refine lv_lstore (lv' := [(12, .long pe), (10, .long pb), (8, .long pa), (0, .long pa), (2, .long pb), (4, .long pe), (6, .long pd)]) hx hb dX12_isMore_8 hl (by decide) rfl (fun ls hl => ?_)
  refine lv_lload hx hb dX12_isMore_10 (lv_at hl 6 rfl) ?_
  refine lv_lstore (lv' := [(14, .long pd), (12, .long pe), (10, .long pb), (8, .long pa), (0, .long pa), (2, .long pb), (4, .long pe), (6, .long pd)]) hx hb dX12_isMore_12 hl (by decide) rfl (fun ls hl => ?_)
  refine lv_iconst (v := 0) hx hb dX12_isMore_14 (by decide) ?_
  refine lv_istore (lv' := [(16, .int 0), (14, .long pd), (12, .long pe), (10, .long pb), (8, .long pa), (0, .long pa), (2, .long pb), (4, .long pe), (6, .long pd)]) hx hb dX12_isMore_15 hl (by decide) rfl (fun ls hl => ?_)
  refine lv_iconst (v := 1) hx hb dX12_isMore_17 (by decide) ?_
  refine lv_istore (lv' := [(17, .int 1), (16, .int 0), (14, .long pd), (12, .long pe), (10, .long pb), (8, .long pa), (0, .long pa), (2, .long pb), (4, .long pe), (6, .long pd)]) hx hb dX12_isMore_18 hl (by decide) rfl (fun ls hl => ?_)
  refine lv_iconst (v := 0) hx hb dX12_isMore_20 (by decide) ?_
  refine lv_istore (lv' := [(18, .int 0), (17, .int 1), (16, .int 0), (14, .long pd), (12, .long pe), (10, .long pb), (8, .long pa), (0, .long pa), (2, .long pb), (4, .long pe), (6, .long pd)]) hx hb dX12_isMore_21 hl (by decide) rfl (fun ls hl => ?_)
  refine tz_while (σ := Int32 × Int64 × Int64 × Int64 × Int64 × Int32 × Array Slot) (fun x => W p l e _ s m _ below meth c _ _ _ _ _ (F0 m 23 x.2.2.2.2.2.2 [])) (fun x => ¬ x.2.2.2.1 = 0 ∧ ¬ x.2.1 = 0 ∧ lv_has x.2.2.2.2.2.2 25 [(18, .int x.2.2.2.2.2.1), (17, .int 1), (16, .int x.1), (14, .long x.2.1), (12, .long x.2.2.1), (10, .long x.2.2.2.1), (8, .long x.2.2.2.2.1), (0, .long pa), (2, .long pb), (4, .long pe), (6, .long pd)]) (fun x => x.2.2.2.1.toInt.natAbs) ?_ (0, pd, pe, pb, pa, 0, ls) ⟨hpb, hpd, hl⟩
  rintro ⟨v_22, v_23, v_24, v_25, v_26, v_27, ls⟩ ⟨hi_60_0, hi_61_1, hl⟩ ih_62
  dsimp only at hi_60_0 hi_61_1 hl ih_62 ⊢
  refine lv_iload hx hb dX12_isMore_23 (lv_at hl 1 rfl) ?_
  refine lv_if_eq (tgt := 196) hx hb dX12_isMore_25 (by decide) (fun c_63 => ?_) (fun c_63 => ?_)
  · exact absurd c_63 (by decide)
  · refine lv_lload hx hb dX12_isMore_28 (lv_at hl 6 rfl) ?_
    refine lv_lload hx hb dX12_isMore_30 (lv_at hl 5 rfl) ?_
    refine lv_ldiv hx hb dX12_isMore_32 hi_60_0 ?_
    refine lv_lstore (lv' := [(19, .long (v_26 / v_25)), (18, .int v_27), (17, .int 1), (16, .int v_22), (14, .long v_23), (12, .long v_24), (10, .long v_25), (8, .long v_26), (0, .long pa), (2, .long pb), (4, .long pe), (6, .long pd)]) hx hb dX12_isMore_33 hl (by decide) rfl (fun ls hl => ?_)
    refine lv_lload hx hb dX12_isMore_35 (lv_at hl 5 rfl) ?_
    refine lv_lload hx hb dX12_isMore_37 (lv_at hl 4 rfl) ?_
    refine lv_ldiv hx hb dX12_isMore_39 hi_61_1 ?_
    refine lv_lstore (lv' := [(21, .long (v_24 / v_23)), (19, .long (v_26 / v_25)), (18, .int v_27), (17, .int 1), (16, .int v_22), (14, .long v_23), (12, .long v_24), (10, .long v_25), (8, .long v_26), (0, .long pa), (2, .long pb), (4, .long pe), (6, .long pd)]) hx hb dX12_isMore_40 hl (by decide) rfl (fun ls hl => ?_)
    refine lv_lload hx hb dX12_isMore_42 (lv_at hl 1 rfl) ?_
    refine lv_lload hx hb dX12_isMore_44 (lv_at hl 0 rfl) ?_
    refine W.lcmp hx hb dX12_isMore_46 ?_
    refine lv_if_eq (tgt := 74) hx hb dX12_isMore_47 (by decide) (fun c_64 => ?_) (fun c_64 => ?_)
    · refine lv_lload hx hb dX12_isMore_74 (lv_at hl 8 rfl) ?_
      refine lv_lload hx hb dX12_isMore_76 (lv_at hl 1 rfl) ?_
      refine lv_lload hx hb dX12_isMore_78 (lv_at hl 7 rfl) ?_
      refine lv_lmul hx hb dX12_isMore_80 ?_
      refine lv_lsub hx hb dX12_isMore_81 ?_
      refine lv_lstore (lv' := [(8, .long (v_26 - ((v_26 / v_25) * v_25))), (21, .long (v_24 / v_23)), (19, .long (v_26 / v_25)), (18, .int v_27), (17, .int 1), (16, .int v_22), (14, .long v_23), (12, .long v_24), (10, .long v_25), (0, .long pa), (2, .long pb), (4, .long pe), (6, .long pd)]) hx hb dX12_isMore_82 hl (by decide) rfl (fun ls hl => ?_)
      refine lv_lload hx hb dX12_isMore_84 (lv_at hl 7 rfl) ?_
      refine lv_lload hx hb dX12_isMore_86 (lv_at hl 1 rfl) ?_
      refine lv_lload hx hb dX12_isMore_88 (lv_at hl 6 rfl) ?_
      refine lv_lmul hx hb dX12_isMore_90 ?_
      refine lv_lsub hx hb dX12_isMore_91 ?_
      refine lv_lstore (lv' := [(12, .long (v_24 - ((v_24 / v_23) * v_23))), (8, .long (v_26 - ((v_26 / v_25) * v_25))), (21, .long (v_24 / v_23)), (19, .long (v_26 / v_25)), (18, .int v_27), (17, .int 1), (16, .int v_22), (14, .long v_23), (10, .long v_25), (0, .long pa), (2, .long pb), (4, .long pe), (6, .long pd)]) hx hb dX12_isMore_92 hl (by decide) rfl (fun ls hl => ?_)
      refine lv_lload hx hb dX12_isMore_94 (lv_at hl 1 rfl) ?_
      refine lv_lconst (v := 0) hx hb dX12_isMore_96 (by decide) ?_
      refine W.lcmp hx hb dX12_isMore_97 ?_
      refine lv_if_eq (tgt := 112) hx hb dX12_isMore_98 (by decide) (fun c_65 => ?_) (fun c_65 => ?_)
      · refine lv_iconst (v := 0) hx hb dX12_isMore_112 (by decide) ?_
        refine lv_istore (lv' := [(17, .int 0), (12, .long (v_24 - ((v_24 / v_23) * v_23))), (8, .long (v_26 - ((v_26 / v_25) * v_25))), (21, .long (v_24 / v_23)), (19, .long (v_26 / v_25)), (18, .int v_27), (16, .int v_22), (14, .long v_23), (10, .long v_25), (0, .long pa), (2, .long pb), (4, .long pe), (6, .long pd)]) hx hb dX12_isMore_113 hl (by decide) rfl (fun ls hl => ?_)
        refine lv_iload hx hb dX12_isMore_115 (lv_at hl 6 rfl) ?_
        refine lv_if_eq (tgt := 135) hx hb dX12_isMore_117 (by decide) (fun c_66 => ?_) (fun c_66 => ?_)
        · refine lv_lload hx hb dX12_isMore_135 (lv_at hl 2 rfl) ?_
          refine lv_lconst (v := 0) hx hb dX12_isMore_137 (by decide) ?_
          refine W.lcmp hx hb dX12_isMore_138 ?_
          refine lv_if_le (tgt := 146) hx hb dX12_isMore_139 (by decide) (fun c_67 => ?_) (fun c_67 => ?_)
          · refine lv_iconst (v := 0) hx hb dX12_isMore_146 (by decide) ?_
            refine lv_istore (lv' := [(18, .int 0), (17, .int 0), (12, .long (v_24 - ((v_24 / v_23) * v_23))), (8, .long (v_26 - ((v_26 / v_25) * v_25))), (21, .long (v_24 / v_23)), (19, .long (v_26 / v_25)), (16, .int v_22), (14, .long v_23), (10, .long v_25), (0, .long pa), (2, .long pb), (4, .long pe), (6, .long pd)]) hx hb dX12_isMore_147 hl (by decide) rfl (fun ls hl => ?_)
            refine lv_iload hx hb dX12_isMore_149 (lv_at hl 1 rfl) ?_
            refine lv_if_ne (tgt := 157) hx hb dX12_isMore_151 (by decide) (fun c_68 => ?_) (fun c_68 => ?_)
            · exact absurd c_68 (by decide)
            · refine lv_iload hx hb dX12_isMore_154 (lv_at hl 0 rfl) ?_
              exact W.zret (v := 0) hx hb hr (by decide) (fun t ht hW => ⟨0, rfl, Or.inl rfl, ht⟩) (fun _ h => absurd h List.not_mem_nil) dX12_isMore_156
          · refine lv_iconst (v := 1) hx hb dX12_isMore_142 (by decide) ?_
            refine lv_goto (tgt := 147) hx hb dX12_isMore_143 (by decide) ?_
            refine lv_istore (lv' := [(18, .int 1), (17, .int 0), (12, .long (v_24 - ((v_24 / v_23) * v_23))), (8, .long (v_26 - ((v_26 / v_25) * v_25))), (21, .long (v_24 / v_23)), (19, .long (v_26 / v_25)), (16, .int v_22), (14, .long v_23), (10, .long v_25), (0, .long pa), (2, .long pb), (4, .long pe), (6, .long pd)]) hx hb dX12_isMore_147 hl (by decide) rfl (fun ls hl => ?_)
            refine lv_iload hx hb dX12_isMore_149 (lv_at hl 1 rfl) ?_
            refine lv_if_ne (tgt := 157) hx hb dX12_isMore_151 (by decide) (fun c_69 => ?_) (fun c_69 => ?_)
            · exact absurd c_69 (by decide)
            · refine lv_iload hx hb dX12_isMore_154 (lv_at hl 0 rfl) ?_
              exact W.zret (v := 1) hx hb hr (by decide) (fun t ht hW => ⟨1, rfl, Or.inr rfl, ht⟩) (fun _ h => absurd h List.not_mem_nil) dX12_isMore_156
        · refine lv_lload hx hb dX12_isMore_120 (lv_at hl 1 rfl) ?_
          refine lv_lconst (v := 0) hx hb dX12_isMore_122 (by decide) ?_
          refine W.lcmp hx hb dX12_isMore_123 ?_
          refine lv_if_le (tgt := 131) hx hb dX12_isMore_124 (by decide) (fun c_70 => ?_) (fun c_70 => ?_)
          · refine lv_iconst (v := 0) hx hb dX12_isMore_131 (by decide) ?_
            refine lv_goto (tgt := 147) hx hb dX12_isMore_132 (by decide) ?_
            refine lv_istore (lv' := [(18, .int 0), (17, .int 0), (12, .long (v_24 - ((v_24 / v_23) * v_23))), (8, .long (v_26 - ((v_26 / v_25) * v_25))), (21, .long (v_24 / v_23)), (19, .long (v_26 / v_25)), (16, .int v_22), (14, .long v_23), (10, .long v_25), (0, .long pa), (2, .long pb), (4, .long pe), (6, .long pd)]) hx hb dX12_isMore_147 hl (by decide) rfl (fun ls hl => ?_)
            refine lv_iload hx hb dX12_isMore_149 (lv_at hl 1 rfl) ?_
            refine lv_if_ne (tgt := 157) hx hb dX12_isMore_151 (by decide) (fun c_71 => ?_) (fun c_71 => ?_)
            · exact absurd c_71 (by decide)
            · refine lv_iload hx hb dX12_isMore_154 (lv_at hl 0 rfl) ?_
              exact W.zret (v := 0) hx hb hr (by decide) (fun t ht hW => ⟨0, rfl, Or.inl rfl, ht⟩) (fun _ h => absurd h List.not_mem_nil) dX12_isMore_156
          · refine lv_iconst (v := 1) hx hb dX12_isMore_127 (by decide) ?_
            refine lv_goto (tgt := 147) hx hb dX12_isMore_128 (by decide) ?_
            refine lv_istore (lv' := [(18, .int 1), (17, .int 0), (12, .long (v_24 - ((v_24 / v_23) * v_23))), (8, .long (v_26 - ((v_26 / v_25) * v_25))), (21, .long (v_24 / v_23)), (19, .long (v_26 / v_25)), (16, .int v_22), (14, .long v_23), (10, .long v_25), (0, .long pa), (2, .long pb), (4, .long pe), (6, .long pd)]) hx hb dX12_isMore_147 hl (by decide) rfl (fun ls hl => ?_)
            refine lv_iload hx hb dX12_isMore_149 (lv_at hl 1 rfl) ?_
            refine lv_if_ne (tgt := 157) hx hb dX12_isMore_151 (by decide) (fun c_72 => ?_) (fun c_72 => ?_)
            · exact absurd c_72 (by decide)
            · refine lv_iload hx hb dX12_isMore_154 (lv_at hl 0 rfl) ?_
              exact W.zret (v := 1) hx hb hr (by decide) (fun t ht hW => ⟨1, rfl, Or.inr rfl, ht⟩) (fun _ h => absurd h List.not_mem_nil) dX12_isMore_156
      · refine lv_lload hx hb dX12_isMore_101 (lv_at hl 0 rfl) ?_
        refine lv_lconst (v := 0) hx hb dX12_isMore_103 (by decide) ?_
        refine W.lcmp hx hb dX12_isMore_104 ?_
        refine lv_if_eq (tgt := 112) hx hb dX12_isMore_105 (by decide) (fun c_73 => ?_) (fun c_73 => ?_)
        · refine lv_iconst (v := 0) hx hb dX12_isMore_112 (by decide) ?_
          refine lv_istore (lv' := [(17, .int 0), (12, .long (v_24 - ((v_24 / v_23) * v_23))), (8, .long (v_26 - ((v_26 / v_25) * v_25))), (21, .long (v_24 / v_23)), (19, .long (v_26 / v_25)), (18, .int v_27), (16, .int v_22), (14, .long v_23), (10, .long v_25), (0, .long pa), (2, .long pb), (4, .long pe), (6, .long pd)]) hx hb dX12_isMore_113 hl (by decide) rfl (fun ls hl => ?_)
          refine lv_iload hx hb dX12_isMore_115 (lv_at hl 6 rfl) ?_
          refine lv_if_eq (tgt := 135) hx hb dX12_isMore_117 (by decide) (fun c_74 => ?_) (fun c_74 => ?_)
          · refine lv_lload hx hb dX12_isMore_135 (lv_at hl 2 rfl) ?_
            refine lv_lconst (v := 0) hx hb dX12_isMore_137 (by decide) ?_
            refine W.lcmp hx hb dX12_isMore_138 ?_
            refine lv_if_le (tgt := 146) hx hb dX12_isMore_139 (by decide) (fun c_75 => ?_) (fun c_75 => ?_)
            · refine lv_iconst (v := 0) hx hb dX12_isMore_146 (by decide) ?_
              refine lv_istore (lv' := [(18, .int 0), (17, .int 0), (12, .long (v_24 - ((v_24 / v_23) * v_23))), (8, .long (v_26 - ((v_26 / v_25) * v_25))), (21, .long (v_24 / v_23)), (19, .long (v_26 / v_25)), (16, .int v_22), (14, .long v_23), (10, .long v_25), (0, .long pa), (2, .long pb), (4, .long pe), (6, .long pd)]) hx hb dX12_isMore_147 hl (by decide) rfl (fun ls hl => ?_)
              refine lv_iload hx hb dX12_isMore_149 (lv_at hl 1 rfl) ?_
              refine lv_if_ne (tgt := 157) hx hb dX12_isMore_151 (by decide) (fun c_76 => ?_) (fun c_76 => ?_)
              · exact absurd c_76 (by decide)
              · refine lv_iload hx hb dX12_isMore_154 (lv_at hl 0 rfl) ?_
                exact W.zret (v := 0) hx hb hr (by decide) (fun t ht hW => ⟨0, rfl, Or.inl rfl, ht⟩) (fun _ h => absurd h List.not_mem_nil) dX12_isMore_156
            · refine lv_iconst (v := 1) hx hb dX12_isMore_142 (by decide) ?_
              refine lv_goto (tgt := 147) hx hb dX12_isMore_143 (by decide) ?_
              refine lv_istore (lv' := [(18, .int 1), (17, .int 0), (12, .long (v_24 - ((v_24 / v_23) * v_23))), (8, .long (v_26 - ((v_26 / v_25) * v_25))), (21, .long (v_24 / v_23)), (19, .long (v_26 / v_25)), (16, .int v_22), (14, .long v_23), (10, .long v_25), (0, .long pa), (2, .long pb), (4, .long pe), (6, .long pd)]) hx hb dX12_isMore_147 hl (by decide) rfl (fun ls hl => ?_)
              refine lv_iload hx hb dX12_isMore_149 (lv_at hl 1 rfl) ?_
              refine lv_if_ne (tgt := 157) hx hb dX12_isMore_151 (by decide) (fun c_77 => ?_) (fun c_77 => ?_)
              · exact absurd c_77 (by decide)
              · refine lv_iload hx hb dX12_isMore_154 (lv_at hl 0 rfl) ?_
                exact W.zret (v := 1) hx hb hr (by decide) (fun t ht hW => ⟨1, rfl, Or.inr rfl, ht⟩) (fun _ h => absurd h List.not_mem_nil) dX12_isMore_156
          · refine lv_lload hx hb dX12_isMore_120 (lv_at hl 1 rfl) ?_
            refine lv_lconst (v := 0) hx hb dX12_isMore_122 (by decide) ?_
            refine W.lcmp hx hb dX12_isMore_123 ?_
            refine lv_if_le (tgt := 131) hx hb dX12_isMore_124 (by decide) (fun c_78 => ?_) (fun c_78 => ?_)
            · refine lv_iconst (v := 0) hx hb dX12_isMore_131 (by decide) ?_
              refine lv_goto (tgt := 147) hx hb dX12_isMore_132 (by decide) ?_
              refine lv_istore (lv' := [(18, .int 0), (17, .int 0), (12, .long (v_24 - ((v_24 / v_23) * v_23))), (8, .long (v_26 - ((v_26 / v_25) * v_25))), (21, .long (v_24 / v_23)), (19, .long (v_26 / v_25)), (16, .int v_22), (14, .long v_23), (10, .long v_25), (0, .long pa), (2, .long pb), (4, .long pe), (6, .long pd)]) hx hb dX12_isMore_147 hl (by decide) rfl (fun ls hl => ?_)
              refine lv_iload hx hb dX12_isMore_149 (lv_at hl 1 rfl) ?_
              refine lv_if_ne (tgt := 157) hx hb dX12_isMore_151 (by decide) (fun c_79 => ?_) (fun c_79 => ?_)
              · exact absurd c_79 (by decide)
              · refine lv_iload hx hb dX12_isMore_154 (lv_at hl 0 rfl) ?_
                exact W.zret (v := 0) hx hb hr (by decide) (fun t ht hW => ⟨0, rfl, Or.inl rfl, ht⟩) (fun _ h => absurd h List.not_mem_nil) dX12_isMore_156
            · refine lv_iconst (v := 1) hx hb dX12_isMore_127 (by decide) ?_
              refine lv_goto (tgt := 147) hx hb dX12_isMore_128 (by decide) ?_
              refine lv_istore (lv' := [(18, .int 1), (17, .int 0), (12, .long (v_24 - ((v_24 / v_23) * v_23))), (8, .long (v_26 - ((v_26 / v_25) * v_25))), (21, .long (v_24 / v_23)), (19, .long (v_26 / v_25)), (16, .int v_22), (14, .long v_23), (10, .long v_25), (0, .long pa), (2, .long pb), (4, .long pe), (6, .long pd)]) hx hb dX12_isMore_147 hl (by decide) rfl (fun ls hl => ?_)
              refine lv_iload hx hb dX12_isMore_149 (lv_at hl 1 rfl) ?_
              refine lv_if_ne (tgt := 157) hx hb dX12_isMore_151 (by decide) (fun c_80 => ?_) (fun c_80 => ?_)
              · exact absurd c_80 (by decide)
              · refine lv_iload hx hb dX12_isMore_154 (lv_at hl 0 rfl) ?_
                exact W.zret (v := 1) hx hb hr (by decide) (fun t ht hW => ⟨1, rfl, Or.inr rfl, ht⟩) (fun _ h => absurd h List.not_mem_nil) dX12_isMore_156
        · refine lv_iconst (v := 1) hx hb dX12_isMore_108 (by decide) ?_
          refine lv_goto (tgt := 113) hx hb dX12_isMore_109 (by decide) ?_
          refine lv_istore (lv' := [(17, .int 1), (12, .long (v_24 - ((v_24 / v_23) * v_23))), (8, .long (v_26 - ((v_26 / v_25) * v_25))), (21, .long (v_24 / v_23)), (19, .long (v_26 / v_25)), (18, .int v_27), (16, .int v_22), (14, .long v_23), (10, .long v_25), (0, .long pa), (2, .long pb), (4, .long pe), (6, .long pd)]) hx hb dX12_isMore_113 hl (by decide) rfl (fun ls hl => ?_)
          refine lv_iload hx hb dX12_isMore_115 (lv_at hl 6 rfl) ?_
          refine lv_if_eq (tgt := 135) hx hb dX12_isMore_117 (by decide) (fun c_81 => ?_) (fun c_81 => ?_)
          · refine lv_lload hx hb dX12_isMore_135 (lv_at hl 2 rfl) ?_
            refine lv_lconst (v := 0) hx hb dX12_isMore_137 (by decide) ?_
            refine W.lcmp hx hb dX12_isMore_138 ?_
            refine lv_if_le (tgt := 146) hx hb dX12_isMore_139 (by decide) (fun c_82 => ?_) (fun c_82 => ?_)
            · refine lv_iconst (v := 0) hx hb dX12_isMore_146 (by decide) ?_
              refine lv_istore (lv' := [(18, .int 0), (17, .int 1), (12, .long (v_24 - ((v_24 / v_23) * v_23))), (8, .long (v_26 - ((v_26 / v_25) * v_25))), (21, .long (v_24 / v_23)), (19, .long (v_26 / v_25)), (16, .int v_22), (14, .long v_23), (10, .long v_25), (0, .long pa), (2, .long pb), (4, .long pe), (6, .long pd)]) hx hb dX12_isMore_147 hl (by decide) rfl (fun ls hl => ?_)
              refine lv_iload hx hb dX12_isMore_149 (lv_at hl 1 rfl) ?_
              refine lv_if_ne (tgt := 157) hx hb dX12_isMore_151 (by decide) (fun c_83 => ?_) (fun c_83 => ?_)
              · refine lv_lload hx hb dX12_isMore_157 (lv_at hl 3 rfl) ?_
                refine lv_lstore (lv' := [(23, .long (v_26 - ((v_26 / v_25) * v_25))), (18, .int 0), (17, .int 1), (12, .long (v_24 - ((v_24 / v_23) * v_23))), (8, .long (v_26 - ((v_26 / v_25) * v_25))), (21, .long (v_24 / v_23)), (19, .long (v_26 / v_25)), (16, .int v_22), (14, .long v_23), (10, .long v_25), (0, .long pa), (2, .long pb), (4, .long pe), (6, .long pd)]) hx hb dX12_isMore_159 hl (by decide) rfl (fun ls hl => ?_)
                refine lv_lload hx hb dX12_isMore_161 (lv_at hl 9 rfl) ?_
                refine lv_lstore (lv' := [(8, .long v_25), (23, .long (v_26 - ((v_26 / v_25) * v_25))), (18, .int 0), (17, .int 1), (12, .long (v_24 - ((v_24 / v_23) * v_23))), (21, .long (v_24 / v_23)), (19, .long (v_26 / v_25)), (16, .int v_22), (14, .long v_23), (10, .long v_25), (0, .long pa), (2, .long pb), (4, .long pe), (6, .long pd)]) hx hb dX12_isMore_163 hl (by decide) rfl (fun ls hl => ?_)
                refine lv_lload hx hb dX12_isMore_165 (lv_at hl 1 rfl) ?_
                refine lv_lstore (lv' := [(10, .long (v_26 - ((v_26 / v_25) * v_25))), (8, .long v_25), (23, .long (v_26 - ((v_26 / v_25) * v_25))), (18, .int 0), (17, .int 1), (12, .long (v_24 - ((v_24 / v_23) * v_23))), (21, .long (v_24 / v_23)), (19, .long (v_26 / v_25)), (16, .int v_22), (14, .long v_23), (0, .long pa), (2, .long pb), (4, .long pe), (6, .long pd)]) hx hb dX12_isMore_167 hl (by decide) rfl (fun ls hl => ?_)
                refine lv_lload hx hb dX12_isMore_169 (lv_at hl 5 rfl) ?_
                refine lv_lstore (lv' := [(23, .long (v_24 - ((v_24 / v_23) * v_23))), (10, .long (v_26 - ((v_26 / v_25) * v_25))), (8, .long v_25), (18, .int 0), (17, .int 1), (12, .long (v_24 - ((v_24 / v_23) * v_23))), (21, .long (v_24 / v_23)), (19, .long (v_26 / v_25)), (16, .int v_22), (14, .long v_23), (0, .long pa), (2, .long pb), (4, .long pe), (6, .long pd)]) hx hb dX12_isMore_171 hl (by decide) rfl (fun ls hl => ?_)
                refine lv_lload hx hb dX12_isMore_173 (lv_at hl 9 rfl) ?_
                refine lv_lstore (lv' := [(12, .long v_23), (23, .long (v_24 - ((v_24 / v_23) * v_23))), (10, .long (v_26 - ((v_26 / v_25) * v_25))), (8, .long v_25), (18, .int 0), (17, .int 1), (21, .long (v_24 / v_23)), (19, .long (v_26 / v_25)), (16, .int v_22), (14, .long v_23), (0, .long pa), (2, .long pb), (4, .long pe), (6, .long pd)]) hx hb dX12_isMore_175 hl (by decide) rfl (fun ls hl => ?_)
                refine lv_lload hx hb dX12_isMore_177 (lv_at hl 1 rfl) ?_
                refine lv_lstore (lv' := [(14, .long (v_24 - ((v_24 / v_23) * v_23))), (12, .long v_23), (23, .long (v_24 - ((v_24 / v_23) * v_23))), (10, .long (v_26 - ((v_26 / v_25) * v_25))), (8, .long v_25), (18, .int 0), (17, .int 1), (21, .long (v_24 / v_23)), (19, .long (v_26 / v_25)), (16, .int v_22), (0, .long pa), (2, .long pb), (4, .long pe), (6, .long pd)]) hx hb dX12_isMore_179 hl (by decide) rfl (fun ls hl => ?_)
                refine lv_iload hx hb dX12_isMore_181 (lv_at hl 9 rfl) ?_
                refine lv_if_ne (tgt := 190) hx hb dX12_isMore_183 (by decide) (fun c_84 => ?_) (fun c_84 => ?_)
                · refine lv_iconst (v := 0) hx hb dX12_isMore_190 (by decide) ?_
                  refine lv_istore (lv' := [(16, .int 0), (14, .long (v_24 - ((v_24 / v_23) * v_23))), (12, .long v_23), (23, .long (v_24 - ((v_24 / v_23) * v_23))), (10, .long (v_26 - ((v_26 / v_25) * v_25))), (8, .long v_25), (18, .int 0), (17, .int 1), (21, .long (v_24 / v_23)), (19, .long (v_26 / v_25)), (0, .long pa), (2, .long pb), (4, .long pe), (6, .long pd)]) hx hb dX12_isMore_191 hl (by decide) rfl (fun ls hl => ?_)
                  refine lv_goto (tgt := 23) hx hb dX12_isMore_193 (by decide) ?_
                  exact ih_62 (0, (v_24 - ((v_24 / v_23) * v_23)), v_23, (v_26 - ((v_26 / v_25) * v_25)), v_25, 0, ls) ⟨tz_cmp_ne c_65, tz_cmp_ne c_73, lv_sub hl [6, 7, 0, 1, 2, 4, 5, 10, 11, 12, 13] rfl⟩ (tz_rem_mu hi_60_0)
                · refine lv_iconst (v := 1) hx hb dX12_isMore_186 (by decide) ?_
                  refine lv_goto (tgt := 191) hx hb dX12_isMore_187 (by decide) ?_
                  refine lv_istore (lv' := [(16, .int 1), (14, .long (v_24 - ((v_24 / v_23) * v_23))), (12, .long v_23), (23, .long (v_24 - ((v_24 / v_23) * v_23))), (10, .long (v_26 - ((v_26 / v_25) * v_25))), (8, .long v_25), (18, .int 0), (17, .int 1), (21, .long (v_24 / v_23)), (19, .long (v_26 / v_25)), (0, .long pa), (2, .long pb), (4, .long pe), (6, .long pd)]) hx hb dX12_isMore_191 hl (by decide) rfl (fun ls hl => ?_)
                  refine lv_goto (tgt := 23) hx hb dX12_isMore_193 (by decide) ?_
                  exact ih_62 (1, (v_24 - ((v_24 / v_23) * v_23)), v_23, (v_26 - ((v_26 / v_25) * v_25)), v_25, 0, ls) ⟨tz_cmp_ne c_65, tz_cmp_ne c_73, lv_sub hl [6, 7, 0, 1, 2, 4, 5, 10, 11, 12, 13] rfl⟩ (tz_rem_mu hi_60_0)
              · exact absurd c_83 (by decide)
            · refine lv_iconst (v := 1) hx hb dX12_isMore_142 (by decide) ?_
              refine lv_goto (tgt := 147) hx hb dX12_isMore_143 (by decide) ?_
              refine lv_istore (lv' := [(18, .int 1), (17, .int 1), (12, .long (v_24 - ((v_24 / v_23) * v_23))), (8, .long (v_26 - ((v_26 / v_25) * v_25))), (21, .long (v_24 / v_23)), (19, .long (v_26 / v_25)), (16, .int v_22), (14, .long v_23), (10, .long v_25), (0, .long pa), (2, .long pb), (4, .long pe), (6, .long pd)]) hx hb dX12_isMore_147 hl (by decide) rfl (fun ls hl => ?_)
              refine lv_iload hx hb dX12_isMore_149 (lv_at hl 1 rfl) ?_
              refine lv_if_ne (tgt := 157) hx hb dX12_isMore_151 (by decide) (fun c_85 => ?_) (fun c_85 => ?_)
              · refine lv_lload hx hb dX12_isMore_157 (lv_at hl 3 rfl) ?_
                refine lv_lstore (lv' := [(23, .long (v_26 - ((v_26 / v_25) * v_25))), (18, .int 1), (17, .int 1), (12, .long (v_24 - ((v_24 / v_23) * v_23))), (8, .long (v_26 - ((v_26 / v_25) * v_25))), (21, .long (v_24 / v_23)), (19, .long (v_26 / v_25)), (16, .int v_22), (14, .long v_23), (10, .long v_25), (0, .long pa), (2, .long pb), (4, .long pe), (6, .long pd)]) hx hb dX12_isMore_159 hl (by decide) rfl (fun ls hl => ?_)
                refine lv_lload hx hb dX12_isMore_161 (lv_at hl 9 rfl) ?_
                refine lv_lstore (lv' := [(8, .long v_25), (23, .long (v_26 - ((v_26 / v_25) * v_25))), (18, .int 1), (17, .int 1), (12, .long (v_24 - ((v_24 / v_23) * v_23))), (21, .long (v_24 / v_23)), (19, .long (v_26 / v_25)), (16, .int v_22), (14, .long v_23), (10, .long v_25), (0, .long pa), (2, .long pb), (4, .long pe), (6, .long pd)]) hx hb dX12_isMore_163 hl (by decide) rfl (fun ls hl => ?_)
                refine lv_lload hx hb dX12_isMore_165 (lv_at hl 1 rfl) ?_
                refine lv_lstore (lv' := [(10, .long (v_26 - ((v_26 / v_25) * v_25))), (8, .long v_25), (23, .long (v_26 - ((v_26 / v_25) * v_25))), (18, .int 1), (17, .int 1), (12, .long (v_24 - ((v_24 / v_23) * v_23))), (21, .long (v_24 / v_23)), (19, .long (v_26 / v_25)), (16, .int v_22), (14, .long v_23), (0, .long pa), (2, .long pb), (4, .long pe), (6, .long pd)]) hx hb dX12_isMore_167 hl (by decide) rfl (fun ls hl => ?_)
                refine lv_lload hx hb dX12_isMore_169 (lv_at hl 5 rfl) ?_
                refine lv_lstore (lv' := [(23, .long (v_24 - ((v_24 / v_23) * v_23))), (10, .long (v_26 - ((v_26 / v_25) * v_25))), (8, .long v_25), (18, .int 1), (17, .int 1), (12, .long (v_24 - ((v_24 / v_23) * v_23))), (21, .long (v_24 / v_23)), (19, .long (v_26 / v_25)), (16, .int v_22), (14, .long v_23), (0, .long pa), (2, .long pb), (4, .long pe), (6, .long pd)]) hx hb dX12_isMore_171 hl (by decide) rfl (fun ls hl => ?_)
                refine lv_lload hx hb dX12_isMore_173 (lv_at hl 9 rfl) ?_
                refine lv_lstore (lv' := [(12, .long v_23), (23, .long (v_24 - ((v_24 / v_23) * v_23))), (10, .long (v_26 - ((v_26 / v_25) * v_25))), (8, .long v_25), (18, .int 1), (17, .int 1), (21, .long (v_24 / v_23)), (19, .long (v_26 / v_25)), (16, .int v_22), (14, .long v_23), (0, .long pa), (2, .long pb), (4, .long pe), (6, .long pd)]) hx hb dX12_isMore_175 hl (by decide) rfl (fun ls hl => ?_)
                refine lv_lload hx hb dX12_isMore_177 (lv_at hl 1 rfl) ?_
                refine lv_lstore (lv' := [(14, .long (v_24 - ((v_24 / v_23) * v_23))), (12, .long v_23), (23, .long (v_24 - ((v_24 / v_23) * v_23))), (10, .long (v_26 - ((v_26 / v_25) * v_25))), (8, .long v_25), (18, .int 1), (17, .int 1), (21, .long (v_24 / v_23)), (19, .long (v_26 / v_25)), (16, .int v_22), (0, .long pa), (2, .long pb), (4, .long pe), (6, .long pd)]) hx hb dX12_isMore_179 hl (by decide) rfl (fun ls hl => ?_)
                refine lv_iload hx hb dX12_isMore_181 (lv_at hl 9 rfl) ?_
                refine lv_if_ne (tgt := 190) hx hb dX12_isMore_183 (by decide) (fun c_86 => ?_) (fun c_86 => ?_)
                · refine lv_iconst (v := 0) hx hb dX12_isMore_190 (by decide) ?_
                  refine lv_istore (lv' := [(16, .int 0), (14, .long (v_24 - ((v_24 / v_23) * v_23))), (12, .long v_23), (23, .long (v_24 - ((v_24 / v_23) * v_23))), (10, .long (v_26 - ((v_26 / v_25) * v_25))), (8, .long v_25), (18, .int 1), (17, .int 1), (21, .long (v_24 / v_23)), (19, .long (v_26 / v_25)), (0, .long pa), (2, .long pb), (4, .long pe), (6, .long pd)]) hx hb dX12_isMore_191 hl (by decide) rfl (fun ls hl => ?_)
                  refine lv_goto (tgt := 23) hx hb dX12_isMore_193 (by decide) ?_
                  exact ih_62 (0, (v_24 - ((v_24 / v_23) * v_23)), v_23, (v_26 - ((v_26 / v_25) * v_25)), v_25, 1, ls) ⟨tz_cmp_ne c_65, tz_cmp_ne c_73, lv_sub hl [6, 7, 0, 1, 2, 4, 5, 10, 11, 12, 13] rfl⟩ (tz_rem_mu hi_60_0)
                · refine lv_iconst (v := 1) hx hb dX12_isMore_186 (by decide) ?_
                  refine lv_goto (tgt := 191) hx hb dX12_isMore_187 (by decide) ?_
                  refine lv_istore (lv' := [(16, .int 1), (14, .long (v_24 - ((v_24 / v_23) * v_23))), (12, .long v_23), (23, .long (v_24 - ((v_24 / v_23) * v_23))), (10, .long (v_26 - ((v_26 / v_25) * v_25))), (8, .long v_25), (18, .int 1), (17, .int 1), (21, .long (v_24 / v_23)), (19, .long (v_26 / v_25)), (0, .long pa), (2, .long pb), (4, .long pe), (6, .long pd)]) hx hb dX12_isMore_191 hl (by decide) rfl (fun ls hl => ?_)
                  refine lv_goto (tgt := 23) hx hb dX12_isMore_193 (by decide) ?_
                  exact ih_62 (1, (v_24 - ((v_24 / v_23) * v_23)), v_23, (v_26 - ((v_26 / v_25) * v_25)), v_25, 1, ls) ⟨tz_cmp_ne c_65, tz_cmp_ne c_73, lv_sub hl [6, 7, 0, 1, 2, 4, 5, 10, 11, 12, 13] rfl⟩ (tz_rem_mu hi_60_0)
              · exact absurd c_85 (by decide)
          · refine lv_lload hx hb dX12_isMore_120 (lv_at hl 1 rfl) ?_
            refine lv_lconst (v := 0) hx hb dX12_isMore_122 (by decide) ?_
            refine W.lcmp hx hb dX12_isMore_123 ?_
            refine lv_if_le (tgt := 131) hx hb dX12_isMore_124 (by decide) (fun c_87 => ?_) (fun c_87 => ?_)
            · refine lv_iconst (v := 0) hx hb dX12_isMore_131 (by decide) ?_
              refine lv_goto (tgt := 147) hx hb dX12_isMore_132 (by decide) ?_
              refine lv_istore (lv' := [(18, .int 0), (17, .int 1), (12, .long (v_24 - ((v_24 / v_23) * v_23))), (8, .long (v_26 - ((v_26 / v_25) * v_25))), (21, .long (v_24 / v_23)), (19, .long (v_26 / v_25)), (16, .int v_22), (14, .long v_23), (10, .long v_25), (0, .long pa), (2, .long pb), (4, .long pe), (6, .long pd)]) hx hb dX12_isMore_147 hl (by decide) rfl (fun ls hl => ?_)
              refine lv_iload hx hb dX12_isMore_149 (lv_at hl 1 rfl) ?_
              refine lv_if_ne (tgt := 157) hx hb dX12_isMore_151 (by decide) (fun c_88 => ?_) (fun c_88 => ?_)
              · refine lv_lload hx hb dX12_isMore_157 (lv_at hl 3 rfl) ?_
                refine lv_lstore (lv' := [(23, .long (v_26 - ((v_26 / v_25) * v_25))), (18, .int 0), (17, .int 1), (12, .long (v_24 - ((v_24 / v_23) * v_23))), (8, .long (v_26 - ((v_26 / v_25) * v_25))), (21, .long (v_24 / v_23)), (19, .long (v_26 / v_25)), (16, .int v_22), (14, .long v_23), (10, .long v_25), (0, .long pa), (2, .long pb), (4, .long pe), (6, .long pd)]) hx hb dX12_isMore_159 hl (by decide) rfl (fun ls hl => ?_)
                refine lv_lload hx hb dX12_isMore_161 (lv_at hl 9 rfl) ?_
                refine lv_lstore (lv' := [(8, .long v_25), (23, .long (v_26 - ((v_26 / v_25) * v_25))), (18, .int 0), (17, .int 1), (12, .long (v_24 - ((v_24 / v_23) * v_23))), (21, .long (v_24 / v_23)), (19, .long (v_26 / v_25)), (16, .int v_22), (14, .long v_23), (10, .long v_25), (0, .long pa), (2, .long pb), (4, .long pe), (6, .long pd)]) hx hb dX12_isMore_163 hl (by decide) rfl (fun ls hl => ?_)
                refine lv_lload hx hb dX12_isMore_165 (lv_at hl 1 rfl) ?_
                refine lv_lstore (lv' := [(10, .long (v_26 - ((v_26 / v_25) * v_25))), (8, .long v_25), (23, .long (v_26 - ((v_26 / v_25) * v_25))), (18, .int 0), (17, .int 1), (12, .long (v_24 - ((v_24 / v_23) * v_23))), (21, .long (v_24 / v_23)), (19, .long (v_26 / v_25)), (16, .int v_22), (14, .long v_23), (0, .long pa), (2, .long pb), (4, .long pe), (6, .long pd)]) hx hb dX12_isMore_167 hl (by decide) rfl (fun ls hl => ?_)
                refine lv_lload hx hb dX12_isMore_169 (lv_at hl 5 rfl) ?_
                refine lv_lstore (lv' := [(23, .long (v_24 - ((v_24 / v_23) * v_23))), (10, .long (v_26 - ((v_26 / v_25) * v_25))), (8, .long v_25), (18, .int 0), (17, .int 1), (12, .long (v_24 - ((v_24 / v_23) * v_23))), (21, .long (v_24 / v_23)), (19, .long (v_26 / v_25)), (16, .int v_22), (14, .long v_23), (0, .long pa), (2, .long pb), (4, .long pe), (6, .long pd)]) hx hb dX12_isMore_171 hl (by decide) rfl (fun ls hl => ?_)
                refine lv_lload hx hb dX12_isMore_173 (lv_at hl 9 rfl) ?_
                refine lv_lstore (lv' := [(12, .long v_23), (23, .long (v_24 - ((v_24 / v_23) * v_23))), (10, .long (v_26 - ((v_26 / v_25) * v_25))), (8, .long v_25), (18, .int 0), (17, .int 1), (21, .long (v_24 / v_23)), (19, .long (v_26 / v_25)), (16, .int v_22), (14, .long v_23), (0, .long pa), (2, .long pb), (4, .long pe), (6, .long pd)]) hx hb dX12_isMore_175 hl (by decide) rfl (fun ls hl => ?_)
                refine lv_lload hx hb dX12_isMore_177 (lv_at hl 1 rfl) ?_
                refine lv_lstore (lv' := [(14, .long (v_24 - ((v_24 / v_23) * v_23))), (12, .long v_23), (23, .long (v_24 - ((v_24 / v_23) * v_23))), (10, .long (v_26 - ((v_26 / v_25) * v_25))), (8, .long v_25), (18, .int 0), (17, .int 1), (21, .long (v_24 / v_23)), (19, .long (v_26 / v_25)), (16, .int v_22), (0, .long pa), (2, .long pb), (4, .long pe), (6, .long pd)]) hx hb dX12_isMore_179 hl (by decide) rfl (fun ls hl => ?_)
                refine lv_iload hx hb dX12_isMore_181 (lv_at hl 9 rfl) ?_
                refine lv_if_ne (tgt := 190) hx hb dX12_isMore_183 (by decide) (fun c_89 => ?_) (fun c_89 => ?_)
                · refine lv_iconst (v := 0) hx hb dX12_isMore_190 (by decide) ?_
                  refine lv_istore (lv' := [(16, .int 0), (14, .long (v_24 - ((v_24 / v_23) * v_23))), (12, .long v_23), (23, .long (v_24 - ((v_24 / v_23) * v_23))), (10, .long (v_26 - ((v_26 / v_25) * v_25))), (8, .long v_25), (18, .int 0), (17, .int 1), (21, .long (v_24 / v_23)), (19, .long (v_26 / v_25)), (0, .long pa), (2, .long pb), (4, .long pe), (6, .long pd)]) hx hb dX12_isMore_191 hl (by decide) rfl (fun ls hl => ?_)
                  refine lv_goto (tgt := 23) hx hb dX12_isMore_193 (by decide) ?_
                  exact ih_62 (0, (v_24 - ((v_24 / v_23) * v_23)), v_23, (v_26 - ((v_26 / v_25) * v_25)), v_25, 0, ls) ⟨tz_cmp_ne c_65, tz_cmp_ne c_73, lv_sub hl [6, 7, 0, 1, 2, 4, 5, 10, 11, 12, 13] rfl⟩ (tz_rem_mu hi_60_0)
                · refine lv_iconst (v := 1) hx hb dX12_isMore_186 (by decide) ?_
                  refine lv_goto (tgt := 191) hx hb dX12_isMore_187 (by decide) ?_
                  refine lv_istore (lv' := [(16, .int 1), (14, .long (v_24 - ((v_24 / v_23) * v_23))), (12, .long v_23), (23, .long (v_24 - ((v_24 / v_23) * v_23))), (10, .long (v_26 - ((v_26 / v_25) * v_25))), (8, .long v_25), (18, .int 0), (17, .int 1), (21, .long (v_24 / v_23)), (19, .long (v_26 / v_25)), (0, .long pa), (2, .long pb), (4, .long pe), (6, .long pd)]) hx hb dX12_isMore_191 hl (by decide) rfl (fun ls hl => ?_)
                  refine lv_goto (tgt := 23) hx hb dX12_isMore_193 (by decide) ?_
                  exact ih_62 (1, (v_24 - ((v_24 / v_23) * v_23)), v_23, (v_26 - ((v_26 / v_25) * v_25)), v_25, 0, ls) ⟨tz_cmp_ne c_65, tz_cmp_ne c_73, lv_sub hl [6, 7, 0, 1, 2, 4, 5, 10, 11, 12, 13] rfl⟩ (tz_rem_mu hi_60_0)
              · exact absurd c_88 (by decide)
            · refine lv_iconst (v := 1) hx hb dX12_isMore_127 (by decide) ?_
              refine lv_goto (tgt := 147) hx hb dX12_isMore_128 (by decide) ?_
              refine lv_istore (lv' := [(18, .int 1), (17, .int 1), (12, .long (v_24 - ((v_24 / v_23) * v_23))), (8, .long (v_26 - ((v_26 / v_25) * v_25))), (21, .long (v_24 / v_23)), (19, .long (v_26 / v_25)), (16, .int v_22), (14, .long v_23), (10, .long v_25), (0, .long pa), (2, .long pb), (4, .long pe), (6, .long pd)]) hx hb dX12_isMore_147 hl (by decide) rfl (fun ls hl => ?_)
              refine lv_iload hx hb dX12_isMore_149 (lv_at hl 1 rfl) ?_
              refine lv_if_ne (tgt := 157) hx hb dX12_isMore_151 (by decide) (fun c_90 => ?_) (fun c_90 => ?_)
              · refine lv_lload hx hb dX12_isMore_157 (lv_at hl 3 rfl) ?_
                refine lv_lstore (lv' := [(23, .long (v_26 - ((v_26 / v_25) * v_25))), (18, .int 1), (17, .int 1), (12, .long (v_24 - ((v_24 / v_23) * v_23))), (8, .long (v_26 - ((v_26 / v_25) * v_25))), (21, .long (v_24 / v_23)), (19, .long (v_26 / v_25)), (16, .int v_22), (14, .long v_23), (10, .long v_25), (0, .long pa), (2, .long pb), (4, .long pe), (6, .long pd)]) hx hb dX12_isMore_159 hl (by decide) rfl (fun ls hl => ?_)
                refine lv_lload hx hb dX12_isMore_161 (lv_at hl 9 rfl) ?_
                refine lv_lstore (lv' := [(8, .long v_25), (23, .long (v_26 - ((v_26 / v_25) * v_25))), (18, .int 1), (17, .int 1), (12, .long (v_24 - ((v_24 / v_23) * v_23))), (21, .long (v_24 / v_23)), (19, .long (v_26 / v_25)), (16, .int v_22), (14, .long v_23), (10, .long v_25), (0, .long pa), (2, .long pb), (4, .long pe), (6, .long pd)]) hx hb dX12_isMore_163 hl (by decide) rfl (fun ls hl => ?_)
                refine lv_lload hx hb dX12_isMore_165 (lv_at hl 1 rfl) ?_
                refine lv_lstore (lv' := [(10, .long (v_26 - ((v_26 / v_25) * v_25))), (8, .long v_25), (23, .long (v_26 - ((v_26 / v_25) * v_25))), (18, .int 1), (17, .int 1), (12, .long (v_24 - ((v_24 / v_23) * v_23))), (21, .long (v_24 / v_23)), (19, .long (v_26 / v_25)), (16, .int v_22), (14, .long v_23), (0, .long pa), (2, .long pb), (4, .long pe), (6, .long pd)]) hx hb dX12_isMore_167 hl (by decide) rfl (fun ls hl => ?_)
                refine lv_lload hx hb dX12_isMore_169 (lv_at hl 5 rfl) ?_
                refine lv_lstore (lv' := [(23, .long (v_24 - ((v_24 / v_23) * v_23))), (10, .long (v_26 - ((v_26 / v_25) * v_25))), (8, .long v_25), (18, .int 1), (17, .int 1), (12, .long (v_24 - ((v_24 / v_23) * v_23))), (21, .long (v_24 / v_23)), (19, .long (v_26 / v_25)), (16, .int v_22), (14, .long v_23), (0, .long pa), (2, .long pb), (4, .long pe), (6, .long pd)]) hx hb dX12_isMore_171 hl (by decide) rfl (fun ls hl => ?_)
                refine lv_lload hx hb dX12_isMore_173 (lv_at hl 9 rfl) ?_
                refine lv_lstore (lv' := [(12, .long v_23), (23, .long (v_24 - ((v_24 / v_23) * v_23))), (10, .long (v_26 - ((v_26 / v_25) * v_25))), (8, .long v_25), (18, .int 1), (17, .int 1), (21, .long (v_24 / v_23)), (19, .long (v_26 / v_25)), (16, .int v_22), (14, .long v_23), (0, .long pa), (2, .long pb), (4, .long pe), (6, .long pd)]) hx hb dX12_isMore_175 hl (by decide) rfl (fun ls hl => ?_)
                refine lv_lload hx hb dX12_isMore_177 (lv_at hl 1 rfl) ?_
                refine lv_lstore (lv' := [(14, .long (v_24 - ((v_24 / v_23) * v_23))), (12, .long v_23), (23, .long (v_24 - ((v_24 / v_23) * v_23))), (10, .long (v_26 - ((v_26 / v_25) * v_25))), (8, .long v_25), (18, .int 1), (17, .int 1), (21, .long (v_24 / v_23)), (19, .long (v_26 / v_25)), (16, .int v_22), (0, .long pa), (2, .long pb), (4, .long pe), (6, .long pd)]) hx hb dX12_isMore_179 hl (by decide) rfl (fun ls hl => ?_)
                refine lv_iload hx hb dX12_isMore_181 (lv_at hl 9 rfl) ?_
                refine lv_if_ne (tgt := 190) hx hb dX12_isMore_183 (by decide) (fun c_91 => ?_) (fun c_91 => ?_)
                · refine lv_iconst (v := 0) hx hb dX12_isMore_190 (by decide) ?_
                  refine lv_istore (lv' := [(16, .int 0), (14, .long (v_24 - ((v_24 / v_23) * v_23))), (12, .long v_23), (23, .long (v_24 - ((v_24 / v_23) * v_23))), (10, .long (v_26 - ((v_26 / v_25) * v_25))), (8, .long v_25), (18, .int 1), (17, .int 1), (21, .long (v_24 / v_23)), (19, .long (v_26 / v_25)), (0, .long pa), (2, .long pb), (4, .long pe), (6, .long pd)]) hx hb dX12_isMore_191 hl (by decide) rfl (fun ls hl => ?_)
                  refine lv_goto (tgt := 23) hx hb dX12_isMore_193 (by decide) ?_
                  exact ih_62 (0, (v_24 - ((v_24 / v_23) * v_23)), v_23, (v_26 - ((v_26 / v_25) * v_25)), v_25, 1, ls) ⟨tz_cmp_ne c_65, tz_cmp_ne c_73, lv_sub hl [6, 7, 0, 1, 2, 4, 5, 10, 11, 12, 13] rfl⟩ (tz_rem_mu hi_60_0)
                · refine lv_iconst (v := 1) hx hb dX12_isMore_186 (by decide) ?_
                  refine lv_goto (tgt := 191) hx hb dX12_isMore_187 (by decide) ?_
                  refine lv_istore (lv' := [(16, .int 1), (14, .long (v_24 - ((v_24 / v_23) * v_23))), (12, .long v_23), (23, .long (v_24 - ((v_24 / v_23) * v_23))), (10, .long (v_26 - ((v_26 / v_25) * v_25))), (8, .long v_25), (18, .int 1), (17, .int 1), (21, .long (v_24 / v_23)), (19, .long (v_26 / v_25)), (0, .long pa), (2, .long pb), (4, .long pe), (6, .long pd)]) hx hb dX12_isMore_191 hl (by decide) rfl (fun ls hl => ?_)
                  refine lv_goto (tgt := 23) hx hb dX12_isMore_193 (by decide) ?_
                  exact ih_62 (1, (v_24 - ((v_24 / v_23) * v_23)), v_23, (v_26 - ((v_26 / v_25) * v_25)), v_25, 1, ls) ⟨tz_cmp_ne c_65, tz_cmp_ne c_73, lv_sub hl [6, 7, 0, 1, 2, 4, 5, 10, 11, 12, 13] rfl⟩ (tz_rem_mu hi_60_0)
              · exact absurd c_90 (by decide)
    · refine lv_lload hx hb dX12_isMore_50 (lv_at hl 1 rfl) ?_
      refine lv_lload hx hb dX12_isMore_52 (lv_at hl 0 rfl) ?_
      refine W.lcmp hx hb dX12_isMore_54 ?_
      refine lv_if_le (tgt := 62) hx hb dX12_isMore_55 (by decide) (fun c_92 => ?_) (fun c_92 => ?_)
      · refine lv_iconst (v := 0) hx hb dX12_isMore_62 (by decide) ?_
        refine lv_iload hx hb dX12_isMore_63 (lv_at hl 4 rfl) ?_
        refine lv_icmp_eq (tgt := 72) hx hb dX12_isMore_65 (by decide) (fun c_93 => ?_) (fun c_93 => ?_)
        · refine lv_iconst (v := 0) hx hb dX12_isMore_72 (by decide) ?_
          exact W.zret (v := 0) hx hb hr (by decide) (fun t ht hW => ⟨0, rfl, Or.inl rfl, ht⟩) (fun _ h => absurd h List.not_mem_nil) dX12_isMore_73
        · refine lv_iconst (v := 1) hx hb dX12_isMore_68 (by decide) ?_
          refine lv_goto (tgt := 73) hx hb dX12_isMore_69 (by decide) ?_
          exact W.zret (v := 1) hx hb hr (by decide) (fun t ht hW => ⟨1, rfl, Or.inr rfl, ht⟩) (fun _ h => absurd h List.not_mem_nil) dX12_isMore_73
      · refine lv_iconst (v := 1) hx hb dX12_isMore_58 (by decide) ?_
        refine lv_goto (tgt := 63) hx hb dX12_isMore_59 (by decide) ?_
        refine lv_iload hx hb dX12_isMore_63 (lv_at hl 4 rfl) ?_
        refine lv_icmp_eq (tgt := 72) hx hb dX12_isMore_65 (by decide) (fun c_94 => ?_) (fun c_94 => ?_)
        · refine lv_iconst (v := 0) hx hb dX12_isMore_72 (by decide) ?_
          exact W.zret (v := 0) hx hb hr (by decide) (fun t ht hW => ⟨0, rfl, Or.inl rfl, ht⟩) (fun _ h => absurd h List.not_mem_nil) dX12_isMore_73
        · refine lv_iconst (v := 1) hx hb dX12_isMore_68 (by decide) ?_
          refine lv_goto (tgt := 73) hx hb dX12_isMore_69 (by decide) ?_
          exact W.zret (v := 1) hx hb hr (by decide) (fun t ht hW => ⟨1, rfl, Or.inr rfl, ht⟩) (fun _ h => absurd h List.not_mem_nil) dX12_isMore_73
set_option maxRecDepth 20000 in
theorem ggX12_plan_X12_isBundle : GoodIn wsX12_plan wsX12_isBundle := goodIn_r _ [9, 10, 11, 12, 8, 13, 72, 73, 74, 75, 76, 77, 78, 79, 80, 81, 82, 83, 84, 85, 86, 87, 88, 89, 90, 91, 92, 93, 94, 95] (by decide +kernel) (by decide +kernel)
set_option maxRecDepth 20000 in
theorem gX12_plan_X12_isBundle : GoodIn wsX12_plan (wsV RX12 81 RX12 yX12_isBundle wsX12_isBundle) := goodIn_app (goodIn_of _ (by decide +kernel)) ggX12_plan_X12_isBundle
set_option maxRecDepth 20000 in
theorem ggX12_plan_X12_in : GoodIn wsX12_plan wsX12_in := goodIn_r _ [13] (by decide +kernel) (by decide +kernel)
set_option maxRecDepth 20000 in
theorem gX12_plan_X12_in : GoodIn wsX12_plan (va_wsS RX12 49 yX12_in wsX12_in) := goodIn_app (goodIn_of _ (by decide +kernel)) ggX12_plan_X12_in
set_option maxRecDepth 20000 in
theorem ggX12_plan_X12_weigh : GoodIn wsX12_plan wsX12_weigh := goodIn_r _ [22, 23, 2, 24, 25, 26, 27, 28, 8, 29, 10, 30, 31, 32, 33, 11, 12, 13, 34, 35, 36, 37, 38, 39, 40, 41, 42, 43, 44, 45, 46, 47, 48, 49, 50, 51, 72, 73, 74, 75, 76, 77, 78, 79, 80, 81, 82, 83, 84, 85, 86, 87, 88, 89, 90, 91, 92, 93, 94, 95] (by decide +kernel) (by decide +kernel)
set_option maxRecDepth 20000 in
theorem gX12_plan_X12_weigh : GoodIn wsX12_plan (wsV RX12 165 RX12 yX12_weigh wsX12_weigh) := goodIn_app (goodIn_of _ (by decide +kernel)) ggX12_plan_X12_weigh
set_option maxRecDepth 20000 in
theorem ggX12_plan_X12_weighThen : GoodIn wsX12_plan wsX12_weighThen := goodIn_r _ [59, 4, 25, 2, 3, 38, 39, 8, 40, 41, 42, 43, 44, 45, 46, 47, 48, 49, 50, 51, 11, 12, 13, 60, 61, 62, 72, 73, 74, 75, 76, 77, 78, 79, 80, 81, 82, 83, 84, 85, 86, 87, 88, 89, 90, 91, 92, 93, 94, 95] (by decide +kernel) (by decide +kernel)
set_option maxRecDepth 20000 in
theorem gX12_plan_X12_weighThen : GoodIn wsX12_plan (wsV RX12 194 RX12 yX12_weighThen wsX12_weighThen) := goodIn_app (goodIn_of _ (by decide +kernel)) ggX12_plan_X12_weighThen
set_option maxRecDepth 20000 in
theorem ggX12_plan_X12_isMore : GoodIn wsX12_plan wsX12_isMore := goodIn_r _ [65] (by decide +kernel) (by decide +kernel)
set_option maxRecDepth 20000 in
theorem gX12_plan_X12_isMore : GoodIn wsX12_plan (va_wsS RX12 198 yX12_isMore wsX12_isMore) := goodIn_app (goodIn_of _ (by decide +kernel)) ggX12_plan_X12_isMore
set_option maxRecDepth 20000 in
theorem ggX12_plan_X12_fraction : GoodIn wsX12_plan wsX12_fraction := goodIn_r _ [69, 70, 71, 72, 73, 74, 75, 76, 77, 78, 79, 80, 81, 82, 83, 84, 85, 86, 87, 88, 89, 90, 91, 92, 93, 94, 95] (by decide +kernel) (by decide +kernel)
set_option maxRecDepth 20000 in
theorem gX12_plan_X12_fraction : GoodIn wsX12_plan (wsV RX12 169 RX12 yX12_fraction wsX12_fraction) := goodIn_app (goodIn_of _ (by decide +kernel)) ggX12_plan_X12_fraction
set_option maxRecDepth 20000 in
theorem ggX12_plan_X12_no : GoodIn wsX12_plan wsX12_no := goodIn_r _ [55, 18, 72, 73, 74, 75, 76, 77, 78, 79, 80, 81, 82, 83, 84, 85, 86, 87, 88, 89, 90, 91, 92, 93, 94, 95] (by decide +kernel) (by decide +kernel)
set_option maxRecDepth 20000 in
theorem gX12_plan_X12_no : GoodIn wsX12_plan (wsV RX12 113 RX12 yX12_no wsX12_no) := goodIn_app (goodIn_of _ (by decide +kernel)) ggX12_plan_X12_no
set_option maxRecDepth 20000 in
theorem ggX12_plan_X12_bad : GoodIn wsX12_plan wsX12_bad := goodIn_r _ [17, 18, 72, 73, 74, 75, 76, 77, 78, 79, 80, 81, 82, 83, 84, 85, 86, 87, 88, 89, 90, 91, 92, 93, 94, 95] (by decide +kernel) (by decide +kernel)
set_option maxRecDepth 20000 in
theorem gX12_plan_X12_bad : GoodIn wsX12_plan (wsV RX12 61 RX12 yX12_bad wsX12_bad) := goodIn_app (goodIn_of _ (by decide +kernel)) ggX12_plan_X12_bad
theorem dX12_plan_0 : decode cX12_plan 0 = .ok (.aload_n 0, 1) := by decide +kernel
theorem dX12_plan_1 : decode cX12_plan 1 = .ok (.iload_n 1, 1) := by decide +kernel
theorem dX12_plan_2 : decode cX12_plan 2 = .ok (.invokevirtual 81, 3) := by decide +kernel
theorem dX12_plan_5 : decode cX12_plan 5 = .ok (.ifCond .eq 15, 3) := by decide +kernel
theorem dX12_plan_8 : decode cX12_plan 8 = .ok (.iload_n 2, 1) := by decide +kernel
theorem dX12_plan_9 : decode cX12_plan 9 = .ok (.i2l, 1) := by decide +kernel
theorem dX12_plan_10 : decode cX12_plan 10 = .ok (.lconst 0, 1) := by decide +kernel
theorem dX12_plan_11 : decode cX12_plan 11 = .ok (.ldc2_w 192, 3) := by decide +kernel
theorem dX12_plan_14 : decode cX12_plan 14 = .ok (.invokestatic 49, 3) := by decide +kernel
theorem dX12_plan_17 : decode cX12_plan 17 = .ok (.ifCond .ne 10, 3) := by decide +kernel
theorem dX12_plan_27 : decode cX12_plan 27 = .ok (.aload_n 0, 1) := by decide +kernel
theorem dX12_plan_28 : decode cX12_plan 28 = .ok (.iload_n 1, 1) := by decide +kernel
theorem dX12_plan_29 : decode cX12_plan 29 = .ok (.invokevirtual 165, 3) := by decide +kernel
theorem dX12_plan_32 : decode cX12_plan 32 = .ok (.aload_n 0, 1) := by decide +kernel
theorem dX12_plan_33 : decode cX12_plan 33 = .ok (.getfield 154, 3) := by decide +kernel
theorem dX12_plan_36 : decode cX12_plan 36 = .ok (.iconst (-1), 1) := by decide +kernel
theorem dX12_plan_37 : decode cX12_plan 37 = .ok (.if_icmp .ne 8, 3) := by decide +kernel
theorem dX12_plan_45 : decode cX12_plan 45 = .ok (.iconst 0, 1) := by decide +kernel
theorem dX12_plan_46 : decode cX12_plan 46 = .ok (.istore_n 3, 1) := by decide +kernel
theorem dX12_plan_47 : decode cX12_plan 47 = .ok (.lconst 0, 1) := by decide +kernel
theorem dX12_plan_48 : decode cX12_plan 48 = .ok (.lstore 4, 2) := by decide +kernel
theorem dX12_plan_50 : decode cX12_plan 50 = .ok (.lconst 1, 1) := by decide +kernel
theorem dX12_plan_51 : decode cX12_plan 51 = .ok (.lstore 6, 2) := by decide +kernel
theorem dX12_plan_53 : decode cX12_plan 53 = .ok (.iconst 0, 1) := by decide +kernel
theorem dX12_plan_54 : decode cX12_plan 54 = .ok (.istore 8, 2) := by decide +kernel
theorem dX12_plan_56 : decode cX12_plan 56 = .ok (.iload 8, 2) := by decide +kernel
theorem dX12_plan_58 : decode cX12_plan 58 = .ok (.bipush 64, 2) := by decide +kernel
theorem dX12_plan_60 : decode cX12_plan 60 = .ok (.if_icmp .ge 113, 3) := by decide +kernel
theorem dX12_plan_63 : decode cX12_plan 63 = .ok (.iload 8, 2) := by decide +kernel
theorem dX12_plan_65 : decode cX12_plan 65 = .ok (.bipush 16, 2) := by decide +kernel
theorem dX12_plan_67 : decode cX12_plan 67 = .ok (.idiv, 1) := by decide +kernel
theorem dX12_plan_68 : decode cX12_plan 68 = .ok (.istore 9, 2) := by decide +kernel
theorem dX12_plan_70 : decode cX12_plan 70 = .ok (.iload 8, 2) := by decide +kernel
theorem dX12_plan_72 : decode cX12_plan 72 = .ok (.iconst 4, 1) := by decide +kernel
theorem dX12_plan_73 : decode cX12_plan 73 = .ok (.idiv, 1) := by decide +kernel
theorem dX12_plan_74 : decode cX12_plan 74 = .ok (.iconst 4, 1) := by decide +kernel
theorem dX12_plan_75 : decode cX12_plan 75 = .ok (.irem, 1) := by decide +kernel
theorem dX12_plan_76 : decode cX12_plan 76 = .ok (.istore 10, 2) := by decide +kernel
theorem dX12_plan_78 : decode cX12_plan 78 = .ok (.iload 8, 2) := by decide +kernel
theorem dX12_plan_80 : decode cX12_plan 80 = .ok (.iconst 4, 1) := by decide +kernel
theorem dX12_plan_81 : decode cX12_plan 81 = .ok (.irem, 1) := by decide +kernel
theorem dX12_plan_82 : decode cX12_plan 82 = .ok (.istore 11, 2) := by decide +kernel
theorem dX12_plan_84 : decode cX12_plan 84 = .ok (.iload 9, 2) := by decide +kernel
theorem dX12_plan_86 : decode cX12_plan 86 = .ok (.iload 10, 2) := by decide +kernel
theorem dX12_plan_88 : decode cX12_plan 88 = .ok (.iadd, 1) := by decide +kernel
theorem dX12_plan_89 : decode cX12_plan 89 = .ok (.iload 11, 2) := by decide +kernel
theorem dX12_plan_91 : decode cX12_plan 91 = .ok (.iadd, 1) := by decide +kernel
theorem dX12_plan_92 : decode cX12_plan 92 = .ok (.iconst 4, 1) := by decide +kernel
theorem dX12_plan_93 : decode cX12_plan 93 = .ok (.if_icmp .ge 74, 3) := by decide +kernel
theorem dX12_plan_167 : decode cX12_plan 167 = .ok (.iinc 8 1, 3) := by decide +kernel
theorem dX12_plan_170 : decode cX12_plan 170 = .ok (.goto (-114), 3) := by decide +kernel
theorem dX12_plan_96 : decode cX12_plan 96 = .ok (.iconst 5, 1) := by decide +kernel
theorem dX12_plan_97 : decode cX12_plan 97 = .ok (.iload 9, 2) := by decide +kernel
theorem dX12_plan_99 : decode cX12_plan 99 = .ok (.imul, 1) := by decide +kernel
theorem dX12_plan_100 : decode cX12_plan 100 = .ok (.iconst 3, 1) := by decide +kernel
theorem dX12_plan_101 : decode cX12_plan 101 = .ok (.iload 10, 2) := by decide +kernel
theorem dX12_plan_103 : decode cX12_plan 103 = .ok (.imul, 1) := by decide +kernel
theorem dX12_plan_104 : decode cX12_plan 104 = .ok (.iadd, 1) := by decide +kernel
theorem dX12_plan_105 : decode cX12_plan 105 = .ok (.iload 11, 2) := by decide +kernel
theorem dX12_plan_107 : decode cX12_plan 107 = .ok (.iadd, 1) := by decide +kernel
theorem dX12_plan_108 : decode cX12_plan 108 = .ok (.iload_n 2, 1) := by decide +kernel
theorem dX12_plan_109 : decode cX12_plan 109 = .ok (.if_icmp .gt 58, 3) := by decide +kernel
theorem dX12_plan_112 : decode cX12_plan 112 = .ok (.aload_n 0, 1) := by decide +kernel
theorem dX12_plan_113 : decode cX12_plan 113 = .ok (.iload 9, 2) := by decide +kernel
theorem dX12_plan_115 : decode cX12_plan 115 = .ok (.iload 10, 2) := by decide +kernel
theorem dX12_plan_117 : decode cX12_plan 117 = .ok (.iload 11, 2) := by decide +kernel
theorem dX12_plan_119 : decode cX12_plan 119 = .ok (.invokevirtual 194, 3) := by decide +kernel
theorem dX12_plan_122 : decode cX12_plan 122 = .ok (.aload_n 0, 1) := by decide +kernel
theorem dX12_plan_123 : decode cX12_plan 123 = .ok (.getfield 183, 3) := by decide +kernel
theorem dX12_plan_126 : decode cX12_plan 126 = .ok (.aload_n 0, 1) := by decide +kernel
theorem dX12_plan_127 : decode cX12_plan 127 = .ok (.getfield 176, 3) := by decide +kernel
theorem dX12_plan_130 : decode cX12_plan 130 = .ok (.lload 4, 2) := by decide +kernel
theorem dX12_plan_132 : decode cX12_plan 132 = .ok (.lload 6, 2) := by decide +kernel
theorem dX12_plan_134 : decode cX12_plan 134 = .ok (.invokestatic 198, 3) := by decide +kernel
theorem dX12_plan_137 : decode cX12_plan 137 = .ok (.ifCond .eq 30, 3) := by decide +kernel
theorem dX12_plan_140 : decode cX12_plan 140 = .ok (.bipush 100, 2) := by decide +kernel
theorem dX12_plan_142 : decode cX12_plan 142 = .ok (.iload 9, 2) := by decide +kernel
theorem dX12_plan_144 : decode cX12_plan 144 = .ok (.imul, 1) := by decide +kernel
theorem dX12_plan_145 : decode cX12_plan 145 = .ok (.bipush 10, 2) := by decide +kernel
theorem dX12_plan_147 : decode cX12_plan 147 = .ok (.iload 10, 2) := by decide +kernel
theorem dX12_plan_149 : decode cX12_plan 149 = .ok (.imul, 1) := by decide +kernel
theorem dX12_plan_150 : decode cX12_plan 150 = .ok (.iadd, 1) := by decide +kernel
theorem dX12_plan_151 : decode cX12_plan 151 = .ok (.iload 11, 2) := by decide +kernel
theorem dX12_plan_153 : decode cX12_plan 153 = .ok (.iadd, 1) := by decide +kernel
theorem dX12_plan_154 : decode cX12_plan 154 = .ok (.istore_n 3, 1) := by decide +kernel
theorem dX12_plan_155 : decode cX12_plan 155 = .ok (.aload_n 0, 1) := by decide +kernel
theorem dX12_plan_156 : decode cX12_plan 156 = .ok (.getfield 183, 3) := by decide +kernel
theorem dX12_plan_159 : decode cX12_plan 159 = .ok (.lstore 4, 2) := by decide +kernel
theorem dX12_plan_161 : decode cX12_plan 161 = .ok (.aload_n 0, 1) := by decide +kernel
theorem dX12_plan_162 : decode cX12_plan 162 = .ok (.getfield 176, 3) := by decide +kernel
theorem dX12_plan_165 : decode cX12_plan 165 = .ok (.lstore 6, 2) := by decide +kernel
theorem dX12_plan_173 : decode cX12_plan 173 = .ok (.aload_n 0, 1) := by decide +kernel
theorem dX12_plan_174 : decode cX12_plan 174 = .ok (.lload 4, 2) := by decide +kernel
theorem dX12_plan_176 : decode cX12_plan 176 = .ok (.lload 6, 2) := by decide +kernel
theorem dX12_plan_178 : decode cX12_plan 178 = .ok (.invokevirtual 169, 3) := by decide +kernel
theorem dX12_plan_181 : decode cX12_plan 181 = .ok (.iload_n 3, 1) := by decide +kernel
theorem dX12_plan_182 : decode cX12_plan 182 = .ok (.ireturn, 1) := by decide +kernel
theorem dX12_plan_40 : decode cX12_plan 40 = .ok (.aload_n 0, 1) := by decide +kernel
theorem dX12_plan_41 : decode cX12_plan 41 = .ok (.invokevirtual 113, 3) := by decide +kernel
theorem dX12_plan_44 : decode cX12_plan 44 = .ok (.ireturn, 1) := by decide +kernel
theorem dX12_plan_20 : decode cX12_plan 20 = .ok (.aload_n 0, 1) := by decide +kernel
theorem dX12_plan_21 : decode cX12_plan 21 = .ok (.bipush (-2), 2) := by decide +kernel
theorem dX12_plan_23 : decode cX12_plan 23 = .ok (.invokevirtual 61, 3) := by decide +kernel
theorem dX12_plan_26 : decode cX12_plan 26 = .ok (.ireturn, 1) := by decide +kernel
set_option maxRecDepth 20000 in
theorem iw_m_plan_X12 : ∀ w ∈ wsX120, w ∈ wsX12_plan := by decide +kernel
set_option maxHeartbeats 4000000 in
set_option maxRecDepth 100000 in
theorem m_plan (l : Launch) (dC : Nat → ClassId) (dI : Nat → Nat → Nat) (mo : Nat) (nw : Nat) (kp : Nat) (ik : Nat) (mr : Nat) (la_ : Int64) (lb_ : Int64) (mw : Nat) (lc_ : Int64) (ti_ : Int32) (cb_ : Int32) (ld_ : Int64) (le_ : Int64) (mq : Nat) (mz : Nat) (my : Nat) (sm_ : Int32) (mb : Nat) (bl_ : Int32) (ta_ : Int32) (tl_ : Int32) (tk_ : Int32) (vl_ : Int32) (mx : Nat) (mv : Nat) (cn_ : ClassId) (fn : Nat → Int32) (cw_ : ClassId) (fw_ : Nat → Int64) (cr_ : ClassId) (fr_ : Nat → Int32) (na : Int32) (nb : Int32) (sz : Nat) (hOn : tz_OK 350 fn) : Met l yX12_plan wsX12_plan ({ frames := 5, cells := 0, slots := 0, locals := 121 }) (va_Pc [.ref mo, .int na, .int nb] (fun U => U.heap.size = sz ∧ va_P (dC, dI) vwCl [(mo, .inr (12, [.ref nw, .ref kp, .ref ik, .ref mr, .long la_, .long lb_, .ref mw, .long lc_, .int ti_, .int cb_, .long ld_, .long le_, .ref mq, .ref mz, .ref my, .int sm_, .ref mb, .int bl_, .int ta_, .int tl_, .int tk_, .int vl_, .ref mx, .ref mv])), (nw, .inl (cn_, 350, .inl fn)), (mw, .inl (cw_, 21, .inr (.inl fw_))), (mr, .inl (cr_, 3, .inl fr_))] U.heap ∧ va_K (dC, dI) vwCl [(cn_, .int), (cw_, .long), (cr_, .int)] U ∧ va_D (fun _ => True) [(mo, .inr (12, [.ref nw, .ref kp, .ref ik, .ref mr, .long la_, .long lb_, .ref mw, .long lc_, .int ti_, .int cb_, .long ld_, .long le_, .ref mq, .ref mz, .ref my, .int sm_, .ref mb, .int bl_, .int ta_, .int tl_, .int tk_, .int vl_, .ref mx, .ref mv])), (nw, .inl (cn_, 350, .inl fn)), (mw, .inl (cw_, 21, .inr (.inl fw_))), (mr, .inl (cr_, 3, .inl fr_))])) (va_Qi (fun (r : Int32) (_ : Unit) => True) (fun _ t => ∃ (h_allWeights : Int64) (h_trulyIs : Int32) (h_canBe : Int32) (h_above : Int64) (h_below : Int64) (h_trulyThen : Int64) (h_allThen : Int64) (gw_ : Nat → Int64) (gr_ : Nat → Int32), va_P (dC, dI) vwCl [(mo, .inr (12, [.ref nw, .ref kp, .ref ik, .ref mr, .long h_above, .long h_below, .ref mw, .long h_allWeights, .int h_trulyIs, .int h_canBe, .long h_trulyThen, .long h_allThen, .ref mq, .ref mz, .ref my, .int sm_, .ref mb, .int bl_, .int ta_, .int tl_, .int tk_, .int vl_, .ref mx, .ref mv])), (nw, .inl (cn_, 350, .inl fn)), (mw, .inl (cw_, 21, .inr (.inl gw_))), (mr, .inl (cr_, 3, .inl gr_))] t.heap ∧ va_K (dC, dI) vwCl [(cn_, .int), (cw_, .long), (cr_, .int)] t ∧ va_D (va_A [(mo, .inr (12, [.ref nw, .ref kp, .ref ik, .ref mr, .long la_, .long lb_, .ref mw, .long lc_, .int ti_, .int cb_, .long ld_, .long le_, .ref mq, .ref mz, .ref my, .int sm_, .ref mb, .int bl_, .int ta_, .int tl_, .int tk_, .int vl_, .ref mx, .ref mv])), (nw, .inl (cn_, 350, .inl fn)), (mw, .inl (cw_, 21, .inr (.inl fw_))), (mr, .inl (cr_, 3, .inl fr_))] sz) [(mo, .inr (12, [.ref nw, .ref kp, .ref ik, .ref mr, .long h_above, .long h_below, .ref mw, .long h_allWeights, .int h_trulyIs, .int h_canBe, .long h_trulyThen, .long h_allThen, .ref mq, .ref mz, .ref my, .int sm_, .ref mb, .int bl_, .int ta_, .int tl_, .int tk_, .int vl_, .ref mx, .ref mv])), (nw, .inl (cn_, 350, .inl fn)), (mw, .inl (cw_, 21, .inr (.inl gw_))), (mr, .inl (cr_, 3, .inl gr_))]) (va_A [(mo, .inr (12, [.ref nw, .ref kp, .ref ik, .ref mr, .long la_, .long lb_, .ref mw, .long lc_, .int ti_, .int cb_, .long ld_, .long le_, .ref mq, .ref mz, .ref my, .int sm_, .ref mb, .int bl_, .int ta_, .int tl_, .int tk_, .int vl_, .ref mx, .ref mv])), (nw, .inl (cn_, 350, .inl fn)), (mw, .inl (cw_, 21, .inr (.inl fw_))), (mr, .inl (cr_, 3, .inl fr_))] sz)) 0 0 (va_A [(mo, .inr (12, [.ref nw, .ref kp, .ref ik, .ref mr, .long la_, .long lb_, .ref mw, .long lc_, .int ti_, .int cb_, .long ld_, .long le_, .ref mq, .ref mz, .ref my, .int sm_, .ref mb, .int bl_, .int ta_, .int tl_, .int tk_, .int vl_, .ref mx, .ref mv])), (nw, .inl (cn_, 350, .inl fn)), (mw, .inl (cw_, 21, .inr (.inl fw_))), (mr, .inl (cr_, 3, .inl fr_))] sz) := by
  refine Met.ofW (cc := cX12_plan) (maxL := 12) (ret := (some .int)) (by decide) rfl ?_
  intro p e s m args below meth c s₁ B hml hv
  obtain ⟨rfl, hsz, hP, hK, hD0⟩ := hv
  have hx := B.exec
  have hb := B.bytes
  have hr := B.returns
  have hts := atoms_spec (ws := wsX12_plan) B.pre
  have hown : s.vm.findClass RX12 = some m.cls := findClass_of_methodNamed B.named
  have hlocks := B.notSynchronized
  subst hsz
  have hD := hD0.self (sz := s.heap.size)
  generalize hAe : va_A [(mo, .inr (12, [.ref nw, .ref kp, .ref ik, .ref mr, .long la_, .long lb_, .ref mw, .long lc_, .int ti_, .int cb_, .long ld_, .long le_, .ref mq, .ref mz, .ref my, .int sm_, .ref mb, .int bl_, .int ta_, .int tl_, .int tk_, .int vl_, .ref mx, .ref mv])), (nw, .inl (cn_, 350, .inl fn)), (mw, .inl (cw_, 21, .inr (.inl fw_))), (mr, .inl (cr_, 3, .inl fr_))] s.heap.size = A at hD ⊢
  have hA : ∀ q : Nat, s.heap.size ≤ q → A q := fun q h => by rw [← hAe]; exact Or.inr h
  have hS : va_S A s.heap s.heap [] := va_S.rf
  have hP : va_P (dC, dI) vwCl [(mo, .inr (12, [.ref nw, .ref kp, .ref ik, .ref mr, .long la_, .long lb_, .ref mw, .long lc_, .int ti_, .int cb_, .long ld_, .long le_, .ref mq, .ref mz, .ref my, .int sm_, .ref mb, .int bl_, .int ta_, .int tl_, .int tk_, .int vl_, .ref mx, .ref mv])), (nw, .inl (cn_, 350, .inl fn)), (mw, .inl (cw_, 21, .inr (.inl fw_))), (mr, .inl (cr_, 3, .inl fr_))] s.heap := hP
  have hl := lv_entry ([.ref mo, .int na, .int nb]) (n := 12) (Nat.le_of_ble_eq_true rfl)
  rw [lg_entry_eq]
  generalize (lg_sl ([.ref mo, .int na, .int nb]) ++ List.replicate (12 - (lg_sl ([.ref mo, .int na, .int nb])).length) Slot.unset).toArray = ls at hl ⊢
  have hl : lv_has ls 12 [(0, .ref mo), (1, .int na), (2, .int nb)] := hl
  have hk_1 : ¬ (1 : Int64) = 0 := by decide
  refine lv_aload_n hx hb dX12_plan_0 rfl (lv_at hl 0 rfl) ?_
  refine lv_iload_n hx hb dX12_plan_1 rfl (lv_at hl 1 rfl) ?_
  have hPc_2 := hP.sub (ws' := [(mo, .inr (12, [.ref nw, .ref kp, .ref ik, .ref mr, .long la_, .long lb_, .ref mw, .long lc_, .int ti_, .int cb_, .long ld_, .long le_, .ref mq, .ref mz, .ref my, .int sm_, .ref mb, .int bl_, .int ta_, .int tl_, .int tk_, .int vl_, .ref mx, .ref mv])), (nw, .inl (cn_, 350, .inl fn))]) [0, 1] rfl
  have hKc_3 := hK.sub (tys' := [(cn_, .int)]) [0] rfl
  refine vp_callSi (va_Run.run (va_runV (As := [.int na]) (rest := []) ⟨hx, hb, hml, hown, hts⟩ (m_isBundle l dC dI mo nw kp ik mr la_ lb_ mw lc_ ti_ cb_ ld_ le_ mq mz my sm_ mb bl_ ta_ tl_ tk_ vl_ mx mv cn_ fn na hOn) (cwV 1 hts gX12_plan_X12_isBundle rfl rfl rfl (by decide +kernel) ⟨Nat.le_of_ble_eq_true rfl, Nat.le_of_ble_eq_true rfl⟩) ⟨fun a U g mk q => by obtain ⟨q0, qP, qK⟩ := q; exact ⟨q0, qP, va_K.moved (u := U) (U := U.calling g mk a) (Vm.Alike.refl U.vm) qK⟩, va_recv hK hP (ci := 12) (q0 := 0) rfl rfl, fun U hU hW => ⟨rfl, by rw [hU]; exact hPc_2, va_K.moved hW.alike hKc_3⟩⟩ rfl rfl hl.1 rfl (lv_room (Nat.le_of_ble_eq_true rfl)) dX12_plan_2 ⟨Nat.le_of_ble_eq_true rfl, Nat.le_of_ble_eq_true rfl⟩)) (fun r_4 hw_5 => ?_)
  by_cases hc_6 : 0 ≤ na ∧ na < (fn 1)
  · obtain rfl : 1 = r_4 := (hw_5.trans (if_pos hc_6)).symm
    obtain ⟨j_8, hj_9, ej_10⟩ := hOn.nat (K := 1) (n := 5) (by omega) (show tz_b 1 = (0, 5) from by decide)
    obtain ⟨j_7, hj_11, rfl⟩ := tz_idx2 (J := j_8) hc_6 ej_10 (by omega)
    refine lv_if_eq (tgt := 20) hx hb dX12_plan_5 (by decide) (fun c_12 => ?_) (fun c_12 => ?_)
    · exact absurd c_12 (by decide)
    · refine lv_iload_n hx hb dX12_plan_8 rfl (lv_at hl 2 rfl) ?_
      refine lv_i2l (v := nb.toInt64) hx hb dX12_plan_9 rfl ?_
      refine lv_lconst (v := 0) hx hb dX12_plan_10 (by decide) ?_
      refine lv_ldc2 hx hb hown (hts (.constantLong RX12 192 (30)) (by decide +kernel)) dX12_plan_11 ?_
      refine vp_callSi (va_Run.run (va_runS (As := [.long nb.toInt64, .long 0, .long 30]) (rest := []) ⟨hx, hb, hml, hown, hts⟩ (m_in l dC dI nb.toInt64 0 30) (va_cwS 3 hts gX12_plan_X12_in rfl rfl rfl (by decide +kernel) ⟨Nat.le_of_ble_eq_true rfl, Nat.le_of_ble_eq_true rfl⟩) ⟨fun a U g mk q => ⟨q.1, trivial⟩, fun U hU hW => ⟨rfl, trivial⟩⟩ rfl rfl hl.1 rfl (lv_room (Nat.le_of_ble_eq_true rfl)) dX12_plan_14 ⟨Nat.le_of_ble_eq_true rfl, Nat.le_of_ble_eq_true rfl⟩)) (fun r_13 hw_14 => ?_)
      by_cases hc_15 : 0 ≤ nb ∧ nb ≤ 30
      · obtain rfl : 1 = r_13 := (hw_14.trans (if_pos ((tz_in64 (by first | rfl | decide) rfl (by first | rfl | decide)).mpr hc_15))).symm
        obtain ⟨j_16, hj_17, hj_18, rfl⟩ := tz_pickL (l := 0) (n := 30) hc_15 (by decide) (by decide)
        refine lv_if_ne (tgt := 27) hx hb dX12_plan_17 (by decide) (fun c_19 => ?_) (fun c_19 => ?_)
        · refine lv_aload_n hx hb dX12_plan_27 rfl (lv_at hl 0 rfl) ?_
          refine lv_iload_n hx hb dX12_plan_28 rfl (lv_at hl 1 rfl) ?_
          have hPc := hP.sub (ws' := [(mo, .inr (12, [.ref nw, .ref kp, .ref ik, .ref mr, .long la_, .long lb_, .ref mw, .long lc_, .int ti_, .int cb_, .long ld_, .long le_, .ref mq, .ref mz, .ref my, .int sm_, .ref mb, .int bl_, .int ta_, .int tl_, .int tk_, .int vl_, .ref mx, .ref mv])), (nw, .inl (cn_, 350, .inl fn)), (mw, .inl (cw_, 21, .inr (.inl fw_)))]) [0, 1, 2] rfl
          have hDc := hD.sub (ws' := [(mo, .inr (12, [.ref nw, .ref kp, .ref ik, .ref mr, .long la_, .long lb_, .ref mw, .long lc_, .int ti_, .int cb_, .long ld_, .long le_, .ref mq, .ref mz, .ref my, .int sm_, .ref mb, .int bl_, .int ta_, .int tl_, .int tk_, .int vl_, .ref mx, .ref mv])), (nw, .inl (cn_, 350, .inl fn)), (mw, .inl (cw_, 21, .inr (.inl fw_)))]) [0, 1, 2] (by decide) rfl
          have hKc := hK.sub (tys' := [(cn_, .int), (cw_, .long)]) [0, 1] rfl
          have hFc := va_free (wc := [(mo, .inr (12, [.ref nw, .ref kp, .ref ik, .ref mr, .long la_, .long lb_, .ref mw, .long lc_, .int ti_, .int cb_, .long ld_, .long le_, .ref mq, .ref mz, .ref my, .int sm_, .ref mb, .int bl_, .int ta_, .int tl_, .int tk_, .int vl_, .ref mx, .ref mv])), (nw, .inl (cn_, 350, .inl fn)), (mw, .inl (cw_, 21, .inr (.inl fw_)))]) hD hS hA [0, 1, 2] rfl
          refine va_callv (va_runV (As := [.int (nI j_7)]) (rest := []) ⟨hx, hb, hml, hown, hts⟩ (m_weigh l dC dI mo nw kp ik mr la_ lb_ mw lc_ ti_ cb_ ld_ le_ mq mz my sm_ mb bl_ ta_ tl_ tk_ vl_ mx mv cn_ fn cw_ fw_ j_7 s.heap.size hOn (by omega)) (cwV 1 hts gX12_plan_X12_weigh rfl rfl rfl (by decide +kernel) ⟨Nat.le_of_ble_eq_true rfl, Nat.le_of_ble_eq_true rfl⟩) ⟨fun a U g mk q => by obtain ⟨q0, q1, qP, qK, qD⟩ := q; exact ⟨q0, q1, qP, va_K.moved (u := U) (U := U.calling g mk a) (Vm.Alike.refl U.vm) qK, qD⟩, va_recv hK hP (ci := 12) (q0 := 0) rfl rfl, fun U hU hW => ⟨rfl, by rw [hU], by rw [hU]; exact hPc, va_K.moved hW.alike hKc, hDc.weaken (fun _ _ _ _ => trivial)⟩⟩ rfl rfl hl.1 rfl (lv_room (Nat.le_of_ble_eq_true rfl)) dX12_plan_29 ⟨Nat.le_of_ble_eq_true rfl, Nat.le_of_ble_eq_true rfl⟩) hS (fun q _ h => hFc q h) hFc (fun u_ t H1 locs ht hvm hw_21 hB hz1 hk1 hS => ?_)
          obtain ⟨h_allWeights_22, h_trulyIs_23, h_canBe_24, gw__25, hf_26, hP1, hK1, hD1⟩ := hB
          rw [ht] at hP1
          have hK1 := va_K.moved hvm.symm hK1
          obtain ⟨hP, hD⟩ := va_join (wr := [(mr, .inl (cr_, 3, .inl fr_))]) (w1 := [(mo, .inr (12, [.ref nw, .ref kp, .ref ik, .ref mr, .long la_, .long lb_, .ref mw, .long h_allWeights_22, .int h_trulyIs_23, .int h_canBe_24, .long ld_, .long le_, .ref mq, .ref mz, .ref my, .int sm_, .ref mb, .int bl_, .int ta_, .int tl_, .int tk_, .int vl_, .ref mx, .ref mv])), (nw, .inl (cn_, 350, .inl fn)), (mw, .inl (cw_, 21, .inr (.inl gw__25)))]) hP hD [0, 1, 2] [3] rfl rfl (by decide) (by decide) hk1 hFc hP1 hD1
          generalize H1 = H at hP hS ⊢
          have hP : va_P (dC, dI) vwCl [(mr, .inl (cr_, 3, .inl fr_)), (mo, .inr (12, [.ref nw, .ref kp, .ref ik, .ref mr, .long la_, .long lb_, .ref mw, .long h_allWeights_22, .int h_trulyIs_23, .int h_canBe_24, .long ld_, .long le_, .ref mq, .ref mz, .ref my, .int sm_, .ref mb, .int bl_, .int ta_, .int tl_, .int tk_, .int vl_, .ref mx, .ref mv])), (nw, .inl (cn_, 350, .inl fn)), (mw, .inl (cw_, 21, .inr (.inl gw__25)))] H := hP
          have hD : va_D A [(mr, .inl (cr_, 3, .inl fr_)), (mo, .inr (12, [.ref nw, .ref kp, .ref ik, .ref mr, .long la_, .long lb_, .ref mw, .long h_allWeights_22, .int h_trulyIs_23, .int h_canBe_24, .long ld_, .long le_, .ref mq, .ref mz, .ref my, .int sm_, .ref mb, .int bl_, .int ta_, .int tl_, .int tk_, .int vl_, .ref mx, .ref mv])), (nw, .inl (cn_, 350, .inl fn)), (mw, .inl (cw_, 21, .inr (.inl gw__25)))] := hD
          refine lv_aload_n hx hb dX12_plan_32 rfl (lv_at hl 0 rfl) ?_
          refine va_get (D := (dC, dI)) (ci := 12) (v := .int h_trulyIs_23) (C := RX12) (T := TX12) (N := 24) hx hb hts iw_m_plan_X12 hown hK hP 1 rfl rfl 8 (by decide) (hts (.fieldLink RX12 154 "ThriceCountedModel" "trulyIs" "I") (by decide +kernel)) (fun _ h9 => h9) rfl dX12_plan_33 ?_
          refine lv_iconst (v := (-1)) hx hb dX12_plan_36 (by decide) ?_
          refine lv_icmp_ne (tgt := 45) hx hb dX12_plan_37 (by decide) (fun c_27 => ?_) (fun c_27 => ?_)
          · obtain ⟨t_28, ht_31, rfl, hp_30⟩ := hf_26.ex c_27
            refine lv_iconst (v := 0) hx hb dX12_plan_45 (by decide) ?_
            refine lv_istore_n (lv' := [(3, .int 0), (0, .ref mo), (1, .int (nI j_7)), (2, .int (nI j_16))]) hx hb dX12_plan_46 rfl hl (by decide) rfl (fun ls hl => ?_)
            refine lv_lconst (v := 0) hx hb dX12_plan_47 (by decide) ?_
            refine lv_lstore (lv' := [(4, .long 0), (3, .int 0), (0, .ref mo), (1, .int (nI j_7)), (2, .int (nI j_16))]) hx hb dX12_plan_48 hl (by decide) rfl (fun ls hl => ?_)
            refine lv_lconst (v := 1) hx hb dX12_plan_50 (by decide) ?_
            refine lv_lstore (lv' := [(6, .long 1), (4, .long 0), (3, .int 0), (0, .ref mo), (1, .int (nI j_7)), (2, .int (nI j_16))]) hx hb dX12_plan_51 hl (by decide) rfl (fun ls hl => ?_)
            refine lv_iconst (v := 0) hx hb dX12_plan_53 (by decide) ?_
            refine lv_istore (lv' := [(8, .int 0), (6, .long 1), (4, .long 0), (3, .int 0), (0, .ref mo), (1, .int (nI j_7)), (2, .int (nI j_16))]) hx hb dX12_plan_54 hl (by decide) rfl (fun ls hl => ?_)
            refine tz_while (σ := Nat × Int64 × Int64 × Int64 × Int64 × Int32 × Heap × List Loc × Array Slot) (fun x => W p l e _ s m _ below meth c x.2.2.2.2.2.2.1 x.2.2.2.2.2.2.2.1 _ _ _ (F0 m 56 x.2.2.2.2.2.2.2.2 [])) (fun x => ¬ x.2.2.2.1 = 0 ∧ x.1 ≤ 64 ∧ va_P (dC, dI) vwCl [(mr, .inl (cr_, 3, .inl fr_)), (mo, .inr (12, [.ref nw, .ref kp, .ref ik, .ref mr, .long la_, .long lb_, .ref mw, .long h_allWeights_22, .int (nI (90 + t_28)), .int h_canBe_24, .long x.2.1, .long x.2.2.1, .ref mq, .ref mz, .ref my, .int sm_, .ref mb, .int bl_, .int ta_, .int tl_, .int tk_, .int vl_, .ref mx, .ref mv])), (nw, .inl (cn_, 350, .inl fn)), (mw, .inl (cw_, 21, .inr (.inl gw__25)))] x.2.2.2.2.2.2.1 ∧ va_D A [(mr, .inl (cr_, 3, .inl fr_)), (mo, .inr (12, [.ref nw, .ref kp, .ref ik, .ref mr, .long la_, .long lb_, .ref mw, .long h_allWeights_22, .int (nI (90 + t_28)), .int h_canBe_24, .long x.2.1, .long x.2.2.1, .ref mq, .ref mz, .ref my, .int sm_, .ref mb, .int bl_, .int ta_, .int tl_, .int tk_, .int vl_, .ref mx, .ref mv])), (nw, .inl (cn_, 350, .inl fn)), (mw, .inl (cw_, 21, .inr (.inl gw__25)))] ∧ va_S A s.heap x.2.2.2.2.2.2.1 x.2.2.2.2.2.2.2.1 ∧ lv_has x.2.2.2.2.2.2.2.2 12 [(8, .int (nI x.1)), (6, .long x.2.2.2.1), (4, .long x.2.2.2.2.1), (3, .int x.2.2.2.2.2.1), (0, .ref mo), (1, .int (nI j_7)), (2, .int (nI j_16))]) (fun x => 64 - x.1) ?_ (0, ld_, le_, 1, 0, 0, H, locs, ls) ⟨(show ¬ (1 : Int64) = 0 by decide), by (try dsimp only); omega, hP, hD, hS, hl⟩
            rintro ⟨k_32, v_50, v_51, v_52, v_53, v_54, H, locs, ls⟩ ⟨hi_72_0, hi_73_1, hP, hD, hS, hl⟩ ih_74
            dsimp only at hi_72_0 hi_73_1 hP hD hS hl ih_74 ⊢
            refine lv_iload hx hb dX12_plan_56 (lv_at hl 0 rfl) ?_
            refine lv_bipush (v := 64) hx hb dX12_plan_58 (by decide) ?_
            refine lv_icmp_ge (tgt := 173) hx hb dX12_plan_60 (by decide) (fun c_75 => ?_) (fun c_75 => ?_)
            · have hn_76 : 64 ≤ k_32 := (nI_leI (a := 64) (b := k_32) (by omega) (by omega)).mp c_75
              refine lv_aload_n hx hb dX12_plan_173 rfl (lv_at hl 4 rfl) ?_
              refine lv_lload hx hb dX12_plan_174 (lv_at hl 2 rfl) ?_
              refine lv_lload hx hb dX12_plan_176 (lv_at hl 1 rfl) ?_
              have hPc := hP.sub (ws' := [(mo, .inr (12, [.ref nw, .ref kp, .ref ik, .ref mr, .long la_, .long lb_, .ref mw, .long h_allWeights_22, .int (nI (90 + t_28)), .int h_canBe_24, .long v_50, .long v_51, .ref mq, .ref mz, .ref my, .int sm_, .ref mb, .int bl_, .int ta_, .int tl_, .int tk_, .int vl_, .ref mx, .ref mv]))]) [1] rfl
              have hDc := hD.sub (ws' := [(mo, .inr (12, [.ref nw, .ref kp, .ref ik, .ref mr, .long la_, .long lb_, .ref mw, .long h_allWeights_22, .int (nI (90 + t_28)), .int h_canBe_24, .long v_50, .long v_51, .ref mq, .ref mz, .ref my, .int sm_, .ref mb, .int bl_, .int ta_, .int tl_, .int tk_, .int vl_, .ref mx, .ref mv]))]) [1] (by decide) rfl
              have hKc := hK.sub (tys' := []) [] rfl
              have hFc := va_free (wc := [(mo, .inr (12, [.ref nw, .ref kp, .ref ik, .ref mr, .long la_, .long lb_, .ref mw, .long h_allWeights_22, .int (nI (90 + t_28)), .int h_canBe_24, .long v_50, .long v_51, .ref mq, .ref mz, .ref my, .int sm_, .ref mb, .int bl_, .int ta_, .int tl_, .int tk_, .int vl_, .ref mx, .ref mv]))]) hD hS hA [1] rfl
              refine va_callv (va_runV (As := [.long v_53, .long v_52]) (rest := []) ⟨hx, hb, hml, hown, hts⟩ (m_fraction l dC dI mo nw kp ik mr la_ lb_ mw h_allWeights_22 (nI (90 + t_28)) h_canBe_24 v_50 v_51 mq mz my sm_ mb bl_ ta_ tl_ tk_ vl_ mx mv v_53 v_52 H.size hi_72_0) (cwV 2 hts gX12_plan_X12_fraction rfl rfl rfl (by decide +kernel) ⟨Nat.le_of_ble_eq_true rfl, Nat.le_of_ble_eq_true rfl⟩) ⟨fun a U g mk q => by obtain ⟨q0, q1, qP, qK, qD⟩ := q; exact ⟨q0, q1, qP, va_K.moved (u := U) (U := U.calling g mk a) (Vm.Alike.refl U.vm) qK, qD⟩, va_recv hK hP (ci := 12) (q0 := 1) rfl rfl, fun U hU hW => ⟨rfl, by rw [hU], by rw [hU]; exact hPc, va_K.moved hW.alike hKc, hDc.weaken (fun _ _ _ _ => trivial)⟩⟩ rfl rfl hl.1 rfl (lv_room (Nat.le_of_ble_eq_true rfl)) dX12_plan_178 ⟨Nat.le_of_ble_eq_true rfl, Nat.le_of_ble_eq_true rfl⟩) hS (fun q _ h => hFc q h) hFc (fun u_ t H1 locs ht hvm hw_78 hB hz1 hk1 hS => ?_)
              obtain ⟨h_above_79, h_below_80, hP1, hK1, hD1⟩ := hB
              rw [ht] at hP1
              have hK1 := va_K.moved hvm.symm hK1
              obtain ⟨hP, hD⟩ := va_join (wr := [(mr, .inl (cr_, 3, .inl fr_)), (nw, .inl (cn_, 350, .inl fn)), (mw, .inl (cw_, 21, .inr (.inl gw__25)))]) (w1 := [(mo, .inr (12, [.ref nw, .ref kp, .ref ik, .ref mr, .long h_above_79, .long h_below_80, .ref mw, .long h_allWeights_22, .int (nI (90 + t_28)), .int h_canBe_24, .long v_50, .long v_51, .ref mq, .ref mz, .ref my, .int sm_, .ref mb, .int bl_, .int ta_, .int tl_, .int tk_, .int vl_, .ref mx, .ref mv]))]) hP hD [1] [0, 2, 3] rfl rfl (by decide) (by decide) hk1 hFc hP1 hD1
              generalize H1 = H at hP hS ⊢
              have hP : va_P (dC, dI) vwCl [(mr, .inl (cr_, 3, .inl fr_)), (nw, .inl (cn_, 350, .inl fn)), (mw, .inl (cw_, 21, .inr (.inl gw__25))), (mo, .inr (12, [.ref nw, .ref kp, .ref ik, .ref mr, .long h_above_79, .long h_below_80, .ref mw, .long h_allWeights_22, .int (nI (90 + t_28)), .int h_canBe_24, .long v_50, .long v_51, .ref mq, .ref mz, .ref my, .int sm_, .ref mb, .int bl_, .int ta_, .int tl_, .int tk_, .int vl_, .ref mx, .ref mv]))] H := hP
              have hD : va_D A [(mr, .inl (cr_, 3, .inl fr_)), (nw, .inl (cn_, 350, .inl fn)), (mw, .inl (cw_, 21, .inr (.inl gw__25))), (mo, .inr (12, [.ref nw, .ref kp, .ref ik, .ref mr, .long h_above_79, .long h_below_80, .ref mw, .long h_allWeights_22, .int (nI (90 + t_28)), .int h_canBe_24, .long v_50, .long v_51, .ref mq, .ref mz, .ref my, .int sm_, .ref mb, .int bl_, .int ta_, .int tl_, .int tk_, .int vl_, .ref mx, .ref mv]))] := hD
              refine lv_iload_n hx hb dX12_plan_181 rfl (lv_at hl 3 rfl) ?_
              have hP9 := hP.sub (ws' := [(mo, .inr (12, [.ref nw, .ref kp, .ref ik, .ref mr, .long h_above_79, .long h_below_80, .ref mw, .long h_allWeights_22, .int (nI (90 + t_28)), .int h_canBe_24, .long v_50, .long v_51, .ref mq, .ref mz, .ref my, .int sm_, .ref mb, .int bl_, .int ta_, .int tl_, .int tk_, .int vl_, .ref mx, .ref mv])), (nw, .inl (cn_, 350, .inl fn)), (mw, .inl (cw_, 21, .inr (.inl gw__25))), (mr, .inl (cr_, 3, .inl fr_))]) [3, 1, 2, 0] rfl
              have hD9 := hD.sub (ws' := [(mo, .inr (12, [.ref nw, .ref kp, .ref ik, .ref mr, .long h_above_79, .long h_below_80, .ref mw, .long h_allWeights_22, .int (nI (90 + t_28)), .int h_canBe_24, .long v_50, .long v_51, .ref mq, .ref mz, .ref my, .int sm_, .ref mb, .int bl_, .int ta_, .int tl_, .int tk_, .int vl_, .ref mx, .ref mv])), (nw, .inl (cn_, 350, .inl fn)), (mw, .inl (cw_, 21, .inr (.inl gw__25))), (mr, .inl (cr_, 3, .inl fr_))]) [3, 1, 2, 0] (by decide) rfl
              have hK9 := hK.sub (tys' := [(cn_, .int), (cw_, .long), (cr_, .int)]) [0, 1, 2] rfl
              exact W.iret (v := v_54) hx hb hr (fun t ht hW => ⟨⟨v_54, (), rfl, trivial, h_allWeights_22, (nI (90 + t_28)), h_canBe_24, h_above_79, h_below_80, v_50, v_51, gw__25, fr_, by rw [ht]; exact hP9, va_K.moved hW.alike hK9, hD9⟩, hS.F ht⟩) hS.2.2 dX12_plan_182
            · have hn_81 : ¬ 64 ≤ k_32 := fun q => c_75 ((nI_leI (a := 64) (b := k_32) (by omega) (by omega)).mpr q)
              refine lv_iload hx hb dX12_plan_63 (lv_at hl 0 rfl) ?_
              refine lv_bipush (v := 16) hx hb dX12_plan_65 (by decide) ?_
              refine lv_idiv hx hb dX12_plan_67 (by decide) ?_
              refine tz_i (nI (k_32 / 16)) (pk_div (a := k_32) (d := 16) (by omega) (by decide) (by decide)) ?_
              refine lv_istore (lv' := [(9, .int (nI (k_32 / 16))), (8, .int (nI k_32)), (6, .long v_52), (4, .long v_53), (3, .int v_54), (0, .ref mo), (1, .int (nI j_7)), (2, .int (nI j_16))]) hx hb dX12_plan_68 hl (by decide) rfl (fun ls hl => ?_)
              refine lv_iload hx hb dX12_plan_70 (lv_at hl 1 rfl) ?_
              refine lv_iconst (v := 4) hx hb dX12_plan_72 (by decide) ?_
              refine lv_idiv hx hb dX12_plan_73 (by decide) ?_
              refine tz_i (nI (k_32 / 4)) (pk_div (a := k_32) (d := 4) (by omega) (by decide) (by decide)) ?_
              refine lv_iconst (v := 4) hx hb dX12_plan_74 (by decide) ?_
              refine lv_irem hx hb dX12_plan_75 (by decide) ?_
              refine tz_i (nI ((k_32 / 4) % 4)) (pk_rem (a := (k_32 / 4)) (d := 4) (by omega) (by decide) (by decide)) ?_
              refine lv_istore (lv' := [(10, .int (nI ((k_32 / 4) % 4))), (9, .int (nI (k_32 / 16))), (8, .int (nI k_32)), (6, .long v_52), (4, .long v_53), (3, .int v_54), (0, .ref mo), (1, .int (nI j_7)), (2, .int (nI j_16))]) hx hb dX12_plan_76 hl (by decide) rfl (fun ls hl => ?_)
              refine lv_iload hx hb dX12_plan_78 (lv_at hl 2 rfl) ?_
              refine lv_iconst (v := 4) hx hb dX12_plan_80 (by decide) ?_
              refine lv_irem hx hb dX12_plan_81 (by decide) ?_
              refine tz_i (nI (k_32 % 4)) (pk_rem (a := k_32) (d := 4) (by omega) (by decide) (by decide)) ?_
              refine lv_istore (lv' := [(11, .int (nI (k_32 % 4))), (10, .int (nI ((k_32 / 4) % 4))), (9, .int (nI (k_32 / 16))), (8, .int (nI k_32)), (6, .long v_52), (4, .long v_53), (3, .int v_54), (0, .ref mo), (1, .int (nI j_7)), (2, .int (nI j_16))]) hx hb dX12_plan_82 hl (by decide) rfl (fun ls hl => ?_)
              refine lv_iload hx hb dX12_plan_84 (lv_at hl 2 rfl) ?_
              refine lv_iload hx hb dX12_plan_86 (lv_at hl 1 rfl) ?_
              refine lv_iadd hx hb dX12_plan_88 ?_
              refine tz_i (nI ((k_32 / 16) + ((k_32 / 4) % 4))) (nI_add (k_32 / 16) ((k_32 / 4) % 4)) ?_
              refine lv_iload hx hb dX12_plan_89 (lv_at hl 0 rfl) ?_
              refine lv_iadd hx hb dX12_plan_91 ?_
              refine tz_i (nI (((k_32 / 16) + ((k_32 / 4) % 4)) + (k_32 % 4))) (nI_add ((k_32 / 16) + ((k_32 / 4) % 4)) (k_32 % 4)) ?_
              refine lv_iconst (v := 4) hx hb dX12_plan_92 (by decide) ?_
              refine lv_icmp_ge (tgt := 167) hx hb dX12_plan_93 (by decide) (fun c_82 => ?_) (fun c_82 => ?_)
              · have hn_83 : 4 ≤ (((k_32 / 16) + ((k_32 / 4) % 4)) + (k_32 % 4)) := (nI_leI (a := 4) (b := (((k_32 / 16) + ((k_32 / 4) % 4)) + (k_32 % 4))) (by omega) (by omega)).mp c_82
                refine lv_iinc (v := (nI (k_32 + 1))) (lv' := [(8, .int (nI (k_32 + 1))), (11, .int (nI (k_32 % 4))), (10, .int (nI ((k_32 / 4) % 4))), (9, .int (nI (k_32 / 16))), (6, .long v_52), (4, .long v_53), (3, .int v_54), (0, .ref mo), (1, .int (nI j_7)), (2, .int (nI j_16))]) hx hb dX12_plan_167 hl (k := 3) rfl (nI_add k_32 1) (by decide) rfl (fun ls hl => ?_)
                refine lv_goto (tgt := 56) hx hb dX12_plan_170 (by decide) ?_
                exact ih_74 ((k_32 + 1), v_50, v_51, v_52, v_53, v_54, H, locs, ls) ⟨hi_72_0, by dsimp only; omega, hP, hD, hS, lv_sub hl [0, 4, 5, 6, 7, 8, 9] rfl⟩ (by dsimp only; omega)
              · have hn_84 : ¬ 4 ≤ (((k_32 / 16) + ((k_32 / 4) % 4)) + (k_32 % 4)) := fun q => c_82 ((nI_leI (a := 4) (b := (((k_32 / 16) + ((k_32 / 4) % 4)) + (k_32 % 4))) (by omega) (by omega)).mpr q)
                refine lv_iconst (v := 5) hx hb dX12_plan_96 (by decide) ?_
                refine lv_iload hx hb dX12_plan_97 (lv_at hl 2 rfl) ?_
                refine lv_imul hx hb dX12_plan_99 ?_
                refine tz_i (nI (5 * (k_32 / 16))) (pk_mul 5 (k_32 / 16)) ?_
                refine lv_iconst (v := 3) hx hb dX12_plan_100 (by decide) ?_
                refine lv_iload hx hb dX12_plan_101 (lv_at hl 1 rfl) ?_
                refine lv_imul hx hb dX12_plan_103 ?_
                refine tz_i (nI (3 * ((k_32 / 4) % 4))) (pk_mul 3 ((k_32 / 4) % 4)) ?_
                refine lv_iadd hx hb dX12_plan_104 ?_
                refine tz_i (nI ((5 * (k_32 / 16)) + (3 * ((k_32 / 4) % 4)))) (nI_add (5 * (k_32 / 16)) (3 * ((k_32 / 4) % 4))) ?_
                refine lv_iload hx hb dX12_plan_105 (lv_at hl 0 rfl) ?_
                refine lv_iadd hx hb dX12_plan_107 ?_
                refine tz_i (nI (((5 * (k_32 / 16)) + (3 * ((k_32 / 4) % 4))) + (k_32 % 4))) (nI_add ((5 * (k_32 / 16)) + (3 * ((k_32 / 4) % 4))) (k_32 % 4)) ?_
                refine lv_iload_n hx hb dX12_plan_108 rfl (lv_at hl 9 rfl) ?_
                refine lv_icmp_gt (tgt := 167) hx hb dX12_plan_109 (by decide) (fun c_85 => ?_) (fun c_85 => ?_)
                · have hn_86 : j_16 < (((5 * (k_32 / 16)) + (3 * ((k_32 / 4) % 4))) + (k_32 % 4)) := (nI_ltI (a := j_16) (b := (((5 * (k_32 / 16)) + (3 * ((k_32 / 4) % 4))) + (k_32 % 4))) (by omega) (by omega)).mp c_85
                  refine lv_iinc (v := (nI (k_32 + 1))) (lv' := [(8, .int (nI (k_32 + 1))), (11, .int (nI (k_32 % 4))), (10, .int (nI ((k_32 / 4) % 4))), (9, .int (nI (k_32 / 16))), (6, .long v_52), (4, .long v_53), (3, .int v_54), (0, .ref mo), (1, .int (nI j_7)), (2, .int (nI j_16))]) hx hb dX12_plan_167 hl (k := 3) rfl (nI_add k_32 1) (by decide) rfl (fun ls hl => ?_)
                  refine lv_goto (tgt := 56) hx hb dX12_plan_170 (by decide) ?_
                  exact ih_74 ((k_32 + 1), v_50, v_51, v_52, v_53, v_54, H, locs, ls) ⟨hi_72_0, by dsimp only; omega, hP, hD, hS, lv_sub hl [0, 4, 5, 6, 7, 8, 9] rfl⟩ (by dsimp only; omega)
                · have hn_87 : ¬ j_16 < (((5 * (k_32 / 16)) + (3 * ((k_32 / 4) % 4))) + (k_32 % 4)) := fun q => c_85 ((nI_ltI (a := j_16) (b := (((5 * (k_32 / 16)) + (3 * ((k_32 / 4) % 4))) + (k_32 % 4))) (by omega) (by omega)).mpr q)
                  refine lv_aload_n hx hb dX12_plan_112 rfl (lv_at hl 7 rfl) ?_
                  refine lv_iload hx hb dX12_plan_113 (lv_at hl 2 rfl) ?_
                  refine lv_iload hx hb dX12_plan_115 (lv_at hl 1 rfl) ?_
                  refine lv_iload hx hb dX12_plan_117 (lv_at hl 0 rfl) ?_
                  have hPc := hP.sub (ws' := [(mo, .inr (12, [.ref nw, .ref kp, .ref ik, .ref mr, .long la_, .long lb_, .ref mw, .long h_allWeights_22, .int (nI (90 + t_28)), .int h_canBe_24, .long v_50, .long v_51, .ref mq, .ref mz, .ref my, .int sm_, .ref mb, .int bl_, .int ta_, .int tl_, .int tk_, .int vl_, .ref mx, .ref mv])), (mw, .inl (cw_, 21, .inr (.inl gw__25)))]) [1, 3] rfl
                  have hDc := hD.sub (ws' := [(mo, .inr (12, [.ref nw, .ref kp, .ref ik, .ref mr, .long la_, .long lb_, .ref mw, .long h_allWeights_22, .int (nI (90 + t_28)), .int h_canBe_24, .long v_50, .long v_51, .ref mq, .ref mz, .ref my, .int sm_, .ref mb, .int bl_, .int ta_, .int tl_, .int tk_, .int vl_, .ref mx, .ref mv])), (mw, .inl (cw_, 21, .inr (.inl gw__25)))]) [1, 3] (by decide) rfl
                  have hKc := hK.sub (tys' := [(cw_, .long)]) [1] rfl
                  have hFc := va_free (wc := [(mo, .inr (12, [.ref nw, .ref kp, .ref ik, .ref mr, .long la_, .long lb_, .ref mw, .long h_allWeights_22, .int (nI (90 + t_28)), .int h_canBe_24, .long v_50, .long v_51, .ref mq, .ref mz, .ref my, .int sm_, .ref mb, .int bl_, .int ta_, .int tl_, .int tk_, .int vl_, .ref mx, .ref mv])), (mw, .inl (cw_, 21, .inr (.inl gw__25)))]) hD hS hA [1, 3] rfl
                  refine va_callv (va_runV (As := [.int (nI (k_32 / 16)), .int (nI ((k_32 / 4) % 4)), .int (nI (k_32 % 4))]) (rest := []) ⟨hx, hb, hml, hown, hts⟩ (m_weighThen l dC dI mo nw kp ik mr la_ lb_ mw h_allWeights_22 h_canBe_24 v_50 v_51 mq mz my sm_ mb bl_ ta_ tl_ tk_ vl_ mx mv cw_ gw__25 (k_32 / 16) ((k_32 / 4) % 4) (k_32 % 4) t_28 H.size (by omega) hf_26 (by omega) hp_30) (cwV 3 hts gX12_plan_X12_weighThen rfl rfl rfl (by decide +kernel) ⟨Nat.le_of_ble_eq_true rfl, Nat.le_of_ble_eq_true rfl⟩) ⟨fun a U g mk q => by obtain ⟨q0, q1, qP, qK, qD⟩ := q; exact ⟨q0, q1, qP, va_K.moved (u := U) (U := U.calling g mk a) (Vm.Alike.refl U.vm) qK, qD⟩, va_recv hK hP (ci := 12) (q0 := 1) rfl rfl, fun U hU hW => ⟨rfl, by rw [hU], by rw [hU]; exact hPc, va_K.moved hW.alike hKc, hDc.weaken (fun _ _ _ _ => trivial)⟩⟩ rfl rfl hl.1 rfl (lv_room (Nat.le_of_ble_eq_true rfl)) dX12_plan_119 ⟨Nat.le_of_ble_eq_true rfl, Nat.le_of_ble_eq_true rfl⟩) hS (fun q _ h => hFc q h) hFc (fun u_ t H1 locs ht hvm hw_89 hB hz1 hk1 hS => ?_)
                  obtain ⟨h_allThen_90, h_trulyThen_91, hf_92, hP1, hK1, hD1⟩ := hB
                  rw [ht] at hP1
                  have hK1 := va_K.moved hvm.symm hK1
                  obtain ⟨hP, hD⟩ := va_join (wr := [(mr, .inl (cr_, 3, .inl fr_)), (nw, .inl (cn_, 350, .inl fn))]) (w1 := [(mo, .inr (12, [.ref nw, .ref kp, .ref ik, .ref mr, .long la_, .long lb_, .ref mw, .long h_allWeights_22, .int (nI (90 + t_28)), .int h_canBe_24, .long h_trulyThen_91, .long h_allThen_90, .ref mq, .ref mz, .ref my, .int sm_, .ref mb, .int bl_, .int ta_, .int tl_, .int tk_, .int vl_, .ref mx, .ref mv])), (mw, .inl (cw_, 21, .inr (.inl gw__25)))]) hP hD [1, 3] [0, 2] rfl rfl (by decide) (by decide) hk1 hFc hP1 hD1
                  generalize H1 = H at hP hS ⊢
                  have hP : va_P (dC, dI) vwCl [(mr, .inl (cr_, 3, .inl fr_)), (nw, .inl (cn_, 350, .inl fn)), (mo, .inr (12, [.ref nw, .ref kp, .ref ik, .ref mr, .long la_, .long lb_, .ref mw, .long h_allWeights_22, .int (nI (90 + t_28)), .int h_canBe_24, .long h_trulyThen_91, .long h_allThen_90, .ref mq, .ref mz, .ref my, .int sm_, .ref mb, .int bl_, .int ta_, .int tl_, .int tk_, .int vl_, .ref mx, .ref mv])), (mw, .inl (cw_, 21, .inr (.inl gw__25)))] H := hP
                  have hD : va_D A [(mr, .inl (cr_, 3, .inl fr_)), (nw, .inl (cn_, 350, .inl fn)), (mo, .inr (12, [.ref nw, .ref kp, .ref ik, .ref mr, .long la_, .long lb_, .ref mw, .long h_allWeights_22, .int (nI (90 + t_28)), .int h_canBe_24, .long h_trulyThen_91, .long h_allThen_90, .ref mq, .ref mz, .ref my, .int sm_, .ref mb, .int bl_, .int ta_, .int tl_, .int tk_, .int vl_, .ref mx, .ref mv])), (mw, .inl (cw_, 21, .inr (.inl gw__25)))] := hD
                  refine lv_aload_n hx hb dX12_plan_122 rfl (lv_at hl 7 rfl) ?_
                  refine va_get (D := (dC, dI)) (ci := 12) (v := .long h_trulyThen_91) (C := RX12) (T := TX12) (N := 24) hx hb hts iw_m_plan_X12 hown hK hP 2 rfl rfl 10 (by decide) (hts (.fieldLink RX12 183 "ThriceCountedModel" "trulyThen" "J") (by decide +kernel)) (fun _ h9 => h9) rfl dX12_plan_123 ?_
                  refine lv_aload_n hx hb dX12_plan_126 rfl (lv_at hl 7 rfl) ?_
                  refine va_get (D := (dC, dI)) (ci := 12) (v := .long h_allThen_90) (C := RX12) (T := TX12) (N := 24) hx hb hts iw_m_plan_X12 hown hK hP 2 rfl rfl 11 (by decide) (hts (.fieldLink RX12 176 "ThriceCountedModel" "allThen" "J") (by decide +kernel)) (fun _ h9 => h9) rfl dX12_plan_127 ?_
                  refine lv_lload hx hb dX12_plan_130 (lv_at hl 5 rfl) ?_
                  refine lv_lload hx hb dX12_plan_132 (lv_at hl 4 rfl) ?_
                  refine vp_callSi (va_Run.run (va_runS (As := [.long h_trulyThen_91, .long h_allThen_90, .long v_53, .long v_52]) (rest := []) ⟨hx, hb, hml, hown, hts⟩ (m_isMore l dC dI h_trulyThen_91 h_allThen_90 v_53 v_52 hf_92 hi_72_0) (va_cwS 4 hts gX12_plan_X12_isMore rfl rfl rfl (by decide +kernel) ⟨Nat.le_of_ble_eq_true rfl, Nat.le_of_ble_eq_true rfl⟩) ⟨fun a U g mk q => ⟨q.1, trivial⟩, fun U hU hW => ⟨rfl, trivial⟩⟩ rfl rfl hl.1 rfl (lv_room (Nat.le_of_ble_eq_true rfl)) dX12_plan_134 ⟨Nat.le_of_ble_eq_true rfl, Nat.le_of_ble_eq_true rfl⟩)) (fun r_93 hw_94 => ?_)
                  refine lv_if_eq (tgt := 167) hx hb dX12_plan_137 (by decide) (fun c_95 => ?_) (fun c_95 => ?_)
                  · refine lv_iinc (v := (nI (k_32 + 1))) (lv' := [(8, .int (nI (k_32 + 1))), (11, .int (nI (k_32 % 4))), (10, .int (nI ((k_32 / 4) % 4))), (9, .int (nI (k_32 / 16))), (6, .long v_52), (4, .long v_53), (3, .int v_54), (0, .ref mo), (1, .int (nI j_7)), (2, .int (nI j_16))]) hx hb dX12_plan_167 hl (k := 3) rfl (nI_add k_32 1) (by decide) rfl (fun ls hl => ?_)
                    refine lv_goto (tgt := 56) hx hb dX12_plan_170 (by decide) ?_
                    have hP := hP.sub (ws' := [(mr, .inl (cr_, 3, .inl fr_)), (mo, .inr (12, [.ref nw, .ref kp, .ref ik, .ref mr, .long la_, .long lb_, .ref mw, .long h_allWeights_22, .int (nI (90 + t_28)), .int h_canBe_24, .long h_trulyThen_91, .long h_allThen_90, .ref mq, .ref mz, .ref my, .int sm_, .ref mb, .int bl_, .int ta_, .int tl_, .int tk_, .int vl_, .ref mx, .ref mv])), (nw, .inl (cn_, 350, .inl fn)), (mw, .inl (cw_, 21, .inr (.inl gw__25)))]) [0, 2, 1, 3] rfl
                    have hD := hD.sub (ws' := [(mr, .inl (cr_, 3, .inl fr_)), (mo, .inr (12, [.ref nw, .ref kp, .ref ik, .ref mr, .long la_, .long lb_, .ref mw, .long h_allWeights_22, .int (nI (90 + t_28)), .int h_canBe_24, .long h_trulyThen_91, .long h_allThen_90, .ref mq, .ref mz, .ref my, .int sm_, .ref mb, .int bl_, .int ta_, .int tl_, .int tk_, .int vl_, .ref mx, .ref mv])), (nw, .inl (cn_, 350, .inl fn)), (mw, .inl (cw_, 21, .inr (.inl gw__25)))]) [0, 2, 1, 3] (by decide) rfl
                    exact ih_74 ((k_32 + 1), h_trulyThen_91, h_allThen_90, v_52, v_53, v_54, H, locs, ls) ⟨hi_72_0, by dsimp only; omega, hP, hD, hS, lv_sub hl [0, 4, 5, 6, 7, 8, 9] rfl⟩ (by dsimp only; omega)
                  · refine lv_bipush (v := 100) hx hb dX12_plan_140 (by decide) ?_
                    refine lv_iload hx hb dX12_plan_142 (lv_at hl 2 rfl) ?_
                    refine lv_imul hx hb dX12_plan_144 ?_
                    refine tz_i (nI (100 * (k_32 / 16))) (pk_mul 100 (k_32 / 16)) ?_
                    refine lv_bipush (v := 10) hx hb dX12_plan_145 (by decide) ?_
                    refine lv_iload hx hb dX12_plan_147 (lv_at hl 1 rfl) ?_
                    refine lv_imul hx hb dX12_plan_149 ?_
                    refine tz_i (nI (10 * ((k_32 / 4) % 4))) (pk_mul 10 ((k_32 / 4) % 4)) ?_
                    refine lv_iadd hx hb dX12_plan_150 ?_
                    refine tz_i (nI ((100 * (k_32 / 16)) + (10 * ((k_32 / 4) % 4)))) (nI_add (100 * (k_32 / 16)) (10 * ((k_32 / 4) % 4))) ?_
                    refine lv_iload hx hb dX12_plan_151 (lv_at hl 0 rfl) ?_
                    refine lv_iadd hx hb dX12_plan_153 ?_
                    refine tz_i (nI (((100 * (k_32 / 16)) + (10 * ((k_32 / 4) % 4))) + (k_32 % 4))) (nI_add ((100 * (k_32 / 16)) + (10 * ((k_32 / 4) % 4))) (k_32 % 4)) ?_
                    refine lv_istore_n (lv' := [(3, .int (nI (((100 * (k_32 / 16)) + (10 * ((k_32 / 4) % 4))) + (k_32 % 4)))), (11, .int (nI (k_32 % 4))), (10, .int (nI ((k_32 / 4) % 4))), (9, .int (nI (k_32 / 16))), (8, .int (nI k_32)), (6, .long v_52), (4, .long v_53), (0, .ref mo), (1, .int (nI j_7)), (2, .int (nI j_16))]) hx hb dX12_plan_154 rfl hl (by decide) rfl (fun ls hl => ?_)
                    refine lv_aload_n hx hb dX12_plan_155 rfl (lv_at hl 7 rfl) ?_
                    refine va_get (D := (dC, dI)) (ci := 12) (v := .long h_trulyThen_91) (C := RX12) (T := TX12) (N := 24) hx hb hts iw_m_plan_X12 hown hK hP 2 rfl rfl 10 (by decide) (hts (.fieldLink RX12 183 "ThriceCountedModel" "trulyThen" "J") (by decide +kernel)) (fun _ h9 => h9) rfl dX12_plan_156 ?_
                    refine lv_lstore (lv' := [(4, .long h_trulyThen_91), (3, .int (nI (((100 * (k_32 / 16)) + (10 * ((k_32 / 4) % 4))) + (k_32 % 4)))), (11, .int (nI (k_32 % 4))), (10, .int (nI ((k_32 / 4) % 4))), (9, .int (nI (k_32 / 16))), (8, .int (nI k_32)), (6, .long v_52), (0, .ref mo), (1, .int (nI j_7)), (2, .int (nI j_16))]) hx hb dX12_plan_159 hl (by decide) rfl (fun ls hl => ?_)
                    refine lv_aload_n hx hb dX12_plan_161 rfl (lv_at hl 7 rfl) ?_
                    refine va_get (D := (dC, dI)) (ci := 12) (v := .long h_allThen_90) (C := RX12) (T := TX12) (N := 24) hx hb hts iw_m_plan_X12 hown hK hP 2 rfl rfl 11 (by decide) (hts (.fieldLink RX12 176 "ThriceCountedModel" "allThen" "J") (by decide +kernel)) (fun _ h9 => h9) rfl dX12_plan_162 ?_
                    refine lv_lstore (lv' := [(6, .long h_allThen_90), (4, .long h_trulyThen_91), (3, .int (nI (((100 * (k_32 / 16)) + (10 * ((k_32 / 4) % 4))) + (k_32 % 4)))), (11, .int (nI (k_32 % 4))), (10, .int (nI ((k_32 / 4) % 4))), (9, .int (nI (k_32 / 16))), (8, .int (nI k_32)), (0, .ref mo), (1, .int (nI j_7)), (2, .int (nI j_16))]) hx hb dX12_plan_165 hl (by decide) rfl (fun ls hl => ?_)
                    refine lv_iinc (v := (nI (k_32 + 1))) (lv' := [(8, .int (nI (k_32 + 1))), (6, .long h_allThen_90), (4, .long h_trulyThen_91), (3, .int (nI (((100 * (k_32 / 16)) + (10 * ((k_32 / 4) % 4))) + (k_32 % 4)))), (11, .int (nI (k_32 % 4))), (10, .int (nI ((k_32 / 4) % 4))), (9, .int (nI (k_32 / 16))), (0, .ref mo), (1, .int (nI j_7)), (2, .int (nI j_16))]) hx hb dX12_plan_167 hl (k := 6) rfl (nI_add k_32 1) (by decide) rfl (fun ls hl => ?_)
                    refine lv_goto (tgt := 56) hx hb dX12_plan_170 (by decide) ?_
                    have hP := hP.sub (ws' := [(mr, .inl (cr_, 3, .inl fr_)), (mo, .inr (12, [.ref nw, .ref kp, .ref ik, .ref mr, .long la_, .long lb_, .ref mw, .long h_allWeights_22, .int (nI (90 + t_28)), .int h_canBe_24, .long h_trulyThen_91, .long h_allThen_90, .ref mq, .ref mz, .ref my, .int sm_, .ref mb, .int bl_, .int ta_, .int tl_, .int tk_, .int vl_, .ref mx, .ref mv])), (nw, .inl (cn_, 350, .inl fn)), (mw, .inl (cw_, 21, .inr (.inl gw__25)))]) [0, 2, 1, 3] rfl
                    have hD := hD.sub (ws' := [(mr, .inl (cr_, 3, .inl fr_)), (mo, .inr (12, [.ref nw, .ref kp, .ref ik, .ref mr, .long la_, .long lb_, .ref mw, .long h_allWeights_22, .int (nI (90 + t_28)), .int h_canBe_24, .long h_trulyThen_91, .long h_allThen_90, .ref mq, .ref mz, .ref my, .int sm_, .ref mb, .int bl_, .int ta_, .int tl_, .int tk_, .int vl_, .ref mx, .ref mv])), (nw, .inl (cn_, 350, .inl fn)), (mw, .inl (cw_, 21, .inr (.inl gw__25)))]) [0, 2, 1, 3] (by decide) rfl
                    exact ih_74 ((k_32 + 1), h_trulyThen_91, h_allThen_90, h_allThen_90, h_trulyThen_91, (nI (((100 * (k_32 / 16)) + (10 * ((k_32 / 4) % 4))) + (k_32 % 4))), H, locs, ls) ⟨hf_92, by dsimp only; omega, hP, hD, hS, lv_sub hl [0, 1, 2, 3, 7, 8, 9] rfl⟩ (by dsimp only; omega)
          · refine lv_aload_n hx hb dX12_plan_40 rfl (lv_at hl 0 rfl) ?_
            have hPc := hP.sub (ws' := [(mo, .inr (12, [.ref nw, .ref kp, .ref ik, .ref mr, .long la_, .long lb_, .ref mw, .long h_allWeights_22, .int h_trulyIs_23, .int h_canBe_24, .long ld_, .long le_, .ref mq, .ref mz, .ref my, .int sm_, .ref mb, .int bl_, .int ta_, .int tl_, .int tk_, .int vl_, .ref mx, .ref mv])), (mr, .inl (cr_, 3, .inl fr_))]) [1, 0] rfl
            have hDc := hD.sub (ws' := [(mo, .inr (12, [.ref nw, .ref kp, .ref ik, .ref mr, .long la_, .long lb_, .ref mw, .long h_allWeights_22, .int h_trulyIs_23, .int h_canBe_24, .long ld_, .long le_, .ref mq, .ref mz, .ref my, .int sm_, .ref mb, .int bl_, .int ta_, .int tl_, .int tk_, .int vl_, .ref mx, .ref mv])), (mr, .inl (cr_, 3, .inl fr_))]) [1, 0] (by decide) rfl
            have hKc := hK.sub (tys' := [(cr_, .int)]) [2] rfl
            have hFc := va_free (wc := [(mo, .inr (12, [.ref nw, .ref kp, .ref ik, .ref mr, .long la_, .long lb_, .ref mw, .long h_allWeights_22, .int h_trulyIs_23, .int h_canBe_24, .long ld_, .long le_, .ref mq, .ref mz, .ref my, .int sm_, .ref mb, .int bl_, .int ta_, .int tl_, .int tk_, .int vl_, .ref mx, .ref mv])), (mr, .inl (cr_, 3, .inl fr_))]) hD hS hA [1, 0] rfl
            refine va_calli (va_runV (As := []) (rest := []) ⟨hx, hb, hml, hown, hts⟩ (m_no l dC dI mo nw kp ik mr la_ lb_ mw h_allWeights_22 h_trulyIs_23 h_canBe_24 ld_ le_ mq mz my sm_ mb bl_ ta_ tl_ tk_ vl_ mx mv cr_ fr_ H.size) (cwV 0 hts gX12_plan_X12_no rfl rfl rfl (by decide +kernel) ⟨Nat.le_of_ble_eq_true rfl, Nat.le_of_ble_eq_true rfl⟩) ⟨fun a U g mk q => by obtain ⟨q0, q1, qP, qK, qD⟩ := q; exact ⟨q0, q1, qP, va_K.moved (u := U) (U := U.calling g mk a) (Vm.Alike.refl U.vm) qK, qD⟩, va_recv hK hP (ci := 12) (q0 := 1) rfl rfl, fun U hU hW => ⟨rfl, by rw [hU], by rw [hU]; exact hPc, va_K.moved hW.alike hKc, hDc.weaken (fun _ _ _ _ => trivial)⟩⟩ rfl rfl hl.1 rfl (lv_room (Nat.le_of_ble_eq_true rfl)) dX12_plan_41 ⟨Nat.le_of_ble_eq_true rfl, Nat.le_of_ble_eq_true rfl⟩) hS (fun q _ h => hFc q h) hFc (fun r_96 u_ t H1 locs ht hvm hw_97 hB hz1 hk1 hS => ?_)
            obtain ⟨gr__98, hP1, hK1, hD1⟩ := hB
            rw [ht] at hP1
            have hK1 := va_K.moved hvm.symm hK1
            obtain ⟨hP, hD⟩ := va_join (wr := [(nw, .inl (cn_, 350, .inl fn)), (mw, .inl (cw_, 21, .inr (.inl gw__25)))]) (w1 := [(mo, .inr (12, [.ref nw, .ref kp, .ref ik, .ref mr, .long la_, .long lb_, .ref mw, .long h_allWeights_22, .int h_trulyIs_23, .int h_canBe_24, .long ld_, .long le_, .ref mq, .ref mz, .ref my, .int sm_, .ref mb, .int bl_, .int ta_, .int tl_, .int tk_, .int vl_, .ref mx, .ref mv])), (mr, .inl (cr_, 3, .inl gr__98))]) hP hD [1, 0] [2, 3] rfl rfl (by decide) (by decide) hk1 hFc hP1 hD1
            generalize H1 = H at hP hS ⊢
            have hP : va_P (dC, dI) vwCl [(nw, .inl (cn_, 350, .inl fn)), (mw, .inl (cw_, 21, .inr (.inl gw__25))), (mo, .inr (12, [.ref nw, .ref kp, .ref ik, .ref mr, .long la_, .long lb_, .ref mw, .long h_allWeights_22, .int h_trulyIs_23, .int h_canBe_24, .long ld_, .long le_, .ref mq, .ref mz, .ref my, .int sm_, .ref mb, .int bl_, .int ta_, .int tl_, .int tk_, .int vl_, .ref mx, .ref mv])), (mr, .inl (cr_, 3, .inl gr__98))] H := hP
            have hD : va_D A [(nw, .inl (cn_, 350, .inl fn)), (mw, .inl (cw_, 21, .inr (.inl gw__25))), (mo, .inr (12, [.ref nw, .ref kp, .ref ik, .ref mr, .long la_, .long lb_, .ref mw, .long h_allWeights_22, .int h_trulyIs_23, .int h_canBe_24, .long ld_, .long le_, .ref mq, .ref mz, .ref my, .int sm_, .ref mb, .int bl_, .int ta_, .int tl_, .int tk_, .int vl_, .ref mx, .ref mv])), (mr, .inl (cr_, 3, .inl gr__98))] := hD
            obtain rfl : (-3) = r_96 := hw_97.symm
            have hP9 := hP.sub (ws' := [(mo, .inr (12, [.ref nw, .ref kp, .ref ik, .ref mr, .long la_, .long lb_, .ref mw, .long h_allWeights_22, .int h_trulyIs_23, .int h_canBe_24, .long ld_, .long le_, .ref mq, .ref mz, .ref my, .int sm_, .ref mb, .int bl_, .int ta_, .int tl_, .int tk_, .int vl_, .ref mx, .ref mv])), (nw, .inl (cn_, 350, .inl fn)), (mw, .inl (cw_, 21, .inr (.inl gw__25))), (mr, .inl (cr_, 3, .inl gr__98))]) [2, 0, 1, 3] rfl
            have hD9 := hD.sub (ws' := [(mo, .inr (12, [.ref nw, .ref kp, .ref ik, .ref mr, .long la_, .long lb_, .ref mw, .long h_allWeights_22, .int h_trulyIs_23, .int h_canBe_24, .long ld_, .long le_, .ref mq, .ref mz, .ref my, .int sm_, .ref mb, .int bl_, .int ta_, .int tl_, .int tk_, .int vl_, .ref mx, .ref mv])), (nw, .inl (cn_, 350, .inl fn)), (mw, .inl (cw_, 21, .inr (.inl gw__25))), (mr, .inl (cr_, 3, .inl gr__98))]) [2, 0, 1, 3] (by decide) rfl
            have hK9 := hK.sub (tys' := [(cn_, .int), (cw_, .long), (cr_, .int)]) [0, 1, 2] rfl
            exact W.iret (v := (-3)) hx hb hr (fun t ht hW => ⟨⟨(-3), (), rfl, trivial, h_allWeights_22, h_trulyIs_23, h_canBe_24, la_, lb_, ld_, le_, gw__25, gr__98, by rw [ht]; exact hP9, va_K.moved hW.alike hK9, hD9⟩, hS.F ht⟩) hS.2.2 dX12_plan_44
        · exact absurd c_19 (by decide)
      · obtain rfl : 0 = r_13 := (hw_14.trans (if_neg (fun z => hc_15 ((tz_in64 (by first | rfl | decide) rfl (by first | rfl | decide)).mp z)))).symm
        refine lv_if_ne (tgt := 27) hx hb dX12_plan_17 (by decide) (fun c_99 => ?_) (fun c_99 => ?_)
        · exact absurd c_99 (by decide)
        · refine lv_aload_n hx hb dX12_plan_20 rfl (lv_at hl 0 rfl) ?_
          refine lv_bipush (v := (-2)) hx hb dX12_plan_21 (by decide) ?_
          have hPc := hP.sub (ws' := [(mo, .inr (12, [.ref nw, .ref kp, .ref ik, .ref mr, .long la_, .long lb_, .ref mw, .long lc_, .int ti_, .int cb_, .long ld_, .long le_, .ref mq, .ref mz, .ref my, .int sm_, .ref mb, .int bl_, .int ta_, .int tl_, .int tk_, .int vl_, .ref mx, .ref mv])), (mr, .inl (cr_, 3, .inl fr_))]) [0, 3] rfl
          have hDc := hD.sub (ws' := [(mo, .inr (12, [.ref nw, .ref kp, .ref ik, .ref mr, .long la_, .long lb_, .ref mw, .long lc_, .int ti_, .int cb_, .long ld_, .long le_, .ref mq, .ref mz, .ref my, .int sm_, .ref mb, .int bl_, .int ta_, .int tl_, .int tk_, .int vl_, .ref mx, .ref mv])), (mr, .inl (cr_, 3, .inl fr_))]) [0, 3] (by decide) rfl
          have hKc := hK.sub (tys' := [(cr_, .int)]) [2] rfl
          have hFc := va_free (wc := [(mo, .inr (12, [.ref nw, .ref kp, .ref ik, .ref mr, .long la_, .long lb_, .ref mw, .long lc_, .int ti_, .int cb_, .long ld_, .long le_, .ref mq, .ref mz, .ref my, .int sm_, .ref mb, .int bl_, .int ta_, .int tl_, .int tk_, .int vl_, .ref mx, .ref mv])), (mr, .inl (cr_, 3, .inl fr_))]) hD hS hA [0, 3] rfl
          refine va_calli (va_runV (As := [.int (-2)]) (rest := []) ⟨hx, hb, hml, hown, hts⟩ (m_bad l dC dI mo nw kp ik mr la_ lb_ mw lc_ ti_ cb_ ld_ le_ mq mz my sm_ mb bl_ ta_ tl_ tk_ vl_ mx mv cr_ fr_ (-2) s.heap.size) (cwV 1 hts gX12_plan_X12_bad rfl rfl rfl (by decide +kernel) ⟨Nat.le_of_ble_eq_true rfl, Nat.le_of_ble_eq_true rfl⟩) ⟨fun a U g mk q => by obtain ⟨q0, q1, qP, qK, qD⟩ := q; exact ⟨q0, q1, qP, va_K.moved (u := U) (U := U.calling g mk a) (Vm.Alike.refl U.vm) qK, qD⟩, va_recv hK hP (ci := 12) (q0 := 0) rfl rfl, fun U hU hW => ⟨rfl, by rw [hU], by rw [hU]; exact hPc, va_K.moved hW.alike hKc, hDc.weaken (fun _ _ _ _ => trivial)⟩⟩ rfl rfl hl.1 rfl (lv_room (Nat.le_of_ble_eq_true rfl)) dX12_plan_23 ⟨Nat.le_of_ble_eq_true rfl, Nat.le_of_ble_eq_true rfl⟩) hS (fun q _ h => hFc q h) hFc (fun r_100 u_ t H1 locs ht hvm hw_101 hB hz1 hk1 hS => ?_)
          obtain ⟨gr__102, hP1, hK1, hD1⟩ := hB
          rw [ht] at hP1
          have hK1 := va_K.moved hvm.symm hK1
          obtain ⟨hP, hD⟩ := va_join (wr := [(nw, .inl (cn_, 350, .inl fn)), (mw, .inl (cw_, 21, .inr (.inl fw_)))]) (w1 := [(mo, .inr (12, [.ref nw, .ref kp, .ref ik, .ref mr, .long la_, .long lb_, .ref mw, .long lc_, .int ti_, .int cb_, .long ld_, .long le_, .ref mq, .ref mz, .ref my, .int sm_, .ref mb, .int bl_, .int ta_, .int tl_, .int tk_, .int vl_, .ref mx, .ref mv])), (mr, .inl (cr_, 3, .inl gr__102))]) hP hD [0, 3] [1, 2] rfl rfl (by decide) (by decide) hk1 hFc hP1 hD1
          generalize H1 = H at hP hS ⊢
          have hP : va_P (dC, dI) vwCl [(nw, .inl (cn_, 350, .inl fn)), (mw, .inl (cw_, 21, .inr (.inl fw_))), (mo, .inr (12, [.ref nw, .ref kp, .ref ik, .ref mr, .long la_, .long lb_, .ref mw, .long lc_, .int ti_, .int cb_, .long ld_, .long le_, .ref mq, .ref mz, .ref my, .int sm_, .ref mb, .int bl_, .int ta_, .int tl_, .int tk_, .int vl_, .ref mx, .ref mv])), (mr, .inl (cr_, 3, .inl gr__102))] H := hP
          have hD : va_D A [(nw, .inl (cn_, 350, .inl fn)), (mw, .inl (cw_, 21, .inr (.inl fw_))), (mo, .inr (12, [.ref nw, .ref kp, .ref ik, .ref mr, .long la_, .long lb_, .ref mw, .long lc_, .int ti_, .int cb_, .long ld_, .long le_, .ref mq, .ref mz, .ref my, .int sm_, .ref mb, .int bl_, .int ta_, .int tl_, .int tk_, .int vl_, .ref mx, .ref mv])), (mr, .inl (cr_, 3, .inl gr__102))] := hD
          obtain rfl : (-2) = r_100 := hw_101.symm
          have hP9 := hP.sub (ws' := [(mo, .inr (12, [.ref nw, .ref kp, .ref ik, .ref mr, .long la_, .long lb_, .ref mw, .long lc_, .int ti_, .int cb_, .long ld_, .long le_, .ref mq, .ref mz, .ref my, .int sm_, .ref mb, .int bl_, .int ta_, .int tl_, .int tk_, .int vl_, .ref mx, .ref mv])), (nw, .inl (cn_, 350, .inl fn)), (mw, .inl (cw_, 21, .inr (.inl fw_))), (mr, .inl (cr_, 3, .inl gr__102))]) [2, 0, 1, 3] rfl
          have hD9 := hD.sub (ws' := [(mo, .inr (12, [.ref nw, .ref kp, .ref ik, .ref mr, .long la_, .long lb_, .ref mw, .long lc_, .int ti_, .int cb_, .long ld_, .long le_, .ref mq, .ref mz, .ref my, .int sm_, .ref mb, .int bl_, .int ta_, .int tl_, .int tk_, .int vl_, .ref mx, .ref mv])), (nw, .inl (cn_, 350, .inl fn)), (mw, .inl (cw_, 21, .inr (.inl fw_))), (mr, .inl (cr_, 3, .inl gr__102))]) [2, 0, 1, 3] (by decide) rfl
          have hK9 := hK.sub (tys' := [(cn_, .int), (cw_, .long), (cr_, .int)]) [0, 1, 2] rfl
          exact W.iret (v := (-2)) hx hb hr (fun t ht hW => ⟨⟨(-2), (), rfl, trivial, lc_, ti_, cb_, la_, lb_, ld_, le_, fw_, gr__102, by rw [ht]; exact hP9, va_K.moved hW.alike hK9, hD9⟩, hS.F ht⟩) hS.2.2 dX12_plan_26
  · obtain rfl : 0 = r_4 := (hw_5.trans (if_neg hc_6)).symm
    refine lv_if_eq (tgt := 20) hx hb dX12_plan_5 (by decide) (fun c_103 => ?_) (fun c_103 => ?_)
    · refine lv_aload_n hx hb dX12_plan_20 rfl (lv_at hl 0 rfl) ?_
      refine lv_bipush (v := (-2)) hx hb dX12_plan_21 (by decide) ?_
      have hPc := hP.sub (ws' := [(mo, .inr (12, [.ref nw, .ref kp, .ref ik, .ref mr, .long la_, .long lb_, .ref mw, .long lc_, .int ti_, .int cb_, .long ld_, .long le_, .ref mq, .ref mz, .ref my, .int sm_, .ref mb, .int bl_, .int ta_, .int tl_, .int tk_, .int vl_, .ref mx, .ref mv])), (mr, .inl (cr_, 3, .inl fr_))]) [0, 3] rfl
      have hDc := hD.sub (ws' := [(mo, .inr (12, [.ref nw, .ref kp, .ref ik, .ref mr, .long la_, .long lb_, .ref mw, .long lc_, .int ti_, .int cb_, .long ld_, .long le_, .ref mq, .ref mz, .ref my, .int sm_, .ref mb, .int bl_, .int ta_, .int tl_, .int tk_, .int vl_, .ref mx, .ref mv])), (mr, .inl (cr_, 3, .inl fr_))]) [0, 3] (by decide) rfl
      have hKc := hK.sub (tys' := [(cr_, .int)]) [2] rfl
      have hFc := va_free (wc := [(mo, .inr (12, [.ref nw, .ref kp, .ref ik, .ref mr, .long la_, .long lb_, .ref mw, .long lc_, .int ti_, .int cb_, .long ld_, .long le_, .ref mq, .ref mz, .ref my, .int sm_, .ref mb, .int bl_, .int ta_, .int tl_, .int tk_, .int vl_, .ref mx, .ref mv])), (mr, .inl (cr_, 3, .inl fr_))]) hD hS hA [0, 3] rfl
      refine va_calli (va_runV (As := [.int (-2)]) (rest := []) ⟨hx, hb, hml, hown, hts⟩ (m_bad l dC dI mo nw kp ik mr la_ lb_ mw lc_ ti_ cb_ ld_ le_ mq mz my sm_ mb bl_ ta_ tl_ tk_ vl_ mx mv cr_ fr_ (-2) s.heap.size) (cwV 1 hts gX12_plan_X12_bad rfl rfl rfl (by decide +kernel) ⟨Nat.le_of_ble_eq_true rfl, Nat.le_of_ble_eq_true rfl⟩) ⟨fun a U g mk q => by obtain ⟨q0, q1, qP, qK, qD⟩ := q; exact ⟨q0, q1, qP, va_K.moved (u := U) (U := U.calling g mk a) (Vm.Alike.refl U.vm) qK, qD⟩, va_recv hK hP (ci := 12) (q0 := 0) rfl rfl, fun U hU hW => ⟨rfl, by rw [hU], by rw [hU]; exact hPc, va_K.moved hW.alike hKc, hDc.weaken (fun _ _ _ _ => trivial)⟩⟩ rfl rfl hl.1 rfl (lv_room (Nat.le_of_ble_eq_true rfl)) dX12_plan_23 ⟨Nat.le_of_ble_eq_true rfl, Nat.le_of_ble_eq_true rfl⟩) hS (fun q _ h => hFc q h) hFc (fun r_104 u_ t H1 locs ht hvm hw_105 hB hz1 hk1 hS => ?_)
      obtain ⟨gr__106, hP1, hK1, hD1⟩ := hB
      rw [ht] at hP1
      have hK1 := va_K.moved hvm.symm hK1
      obtain ⟨hP, hD⟩ := va_join (wr := [(nw, .inl (cn_, 350, .inl fn)), (mw, .inl (cw_, 21, .inr (.inl fw_)))]) (w1 := [(mo, .inr (12, [.ref nw, .ref kp, .ref ik, .ref mr, .long la_, .long lb_, .ref mw, .long lc_, .int ti_, .int cb_, .long ld_, .long le_, .ref mq, .ref mz, .ref my, .int sm_, .ref mb, .int bl_, .int ta_, .int tl_, .int tk_, .int vl_, .ref mx, .ref mv])), (mr, .inl (cr_, 3, .inl gr__106))]) hP hD [0, 3] [1, 2] rfl rfl (by decide) (by decide) hk1 hFc hP1 hD1
      generalize H1 = H at hP hS ⊢
      have hP : va_P (dC, dI) vwCl [(nw, .inl (cn_, 350, .inl fn)), (mw, .inl (cw_, 21, .inr (.inl fw_))), (mo, .inr (12, [.ref nw, .ref kp, .ref ik, .ref mr, .long la_, .long lb_, .ref mw, .long lc_, .int ti_, .int cb_, .long ld_, .long le_, .ref mq, .ref mz, .ref my, .int sm_, .ref mb, .int bl_, .int ta_, .int tl_, .int tk_, .int vl_, .ref mx, .ref mv])), (mr, .inl (cr_, 3, .inl gr__106))] H := hP
      have hD : va_D A [(nw, .inl (cn_, 350, .inl fn)), (mw, .inl (cw_, 21, .inr (.inl fw_))), (mo, .inr (12, [.ref nw, .ref kp, .ref ik, .ref mr, .long la_, .long lb_, .ref mw, .long lc_, .int ti_, .int cb_, .long ld_, .long le_, .ref mq, .ref mz, .ref my, .int sm_, .ref mb, .int bl_, .int ta_, .int tl_, .int tk_, .int vl_, .ref mx, .ref mv])), (mr, .inl (cr_, 3, .inl gr__106))] := hD
      obtain rfl : (-2) = r_104 := hw_105.symm
      have hP9 := hP.sub (ws' := [(mo, .inr (12, [.ref nw, .ref kp, .ref ik, .ref mr, .long la_, .long lb_, .ref mw, .long lc_, .int ti_, .int cb_, .long ld_, .long le_, .ref mq, .ref mz, .ref my, .int sm_, .ref mb, .int bl_, .int ta_, .int tl_, .int tk_, .int vl_, .ref mx, .ref mv])), (nw, .inl (cn_, 350, .inl fn)), (mw, .inl (cw_, 21, .inr (.inl fw_))), (mr, .inl (cr_, 3, .inl gr__106))]) [2, 0, 1, 3] rfl
      have hD9 := hD.sub (ws' := [(mo, .inr (12, [.ref nw, .ref kp, .ref ik, .ref mr, .long la_, .long lb_, .ref mw, .long lc_, .int ti_, .int cb_, .long ld_, .long le_, .ref mq, .ref mz, .ref my, .int sm_, .ref mb, .int bl_, .int ta_, .int tl_, .int tk_, .int vl_, .ref mx, .ref mv])), (nw, .inl (cn_, 350, .inl fn)), (mw, .inl (cw_, 21, .inr (.inl fw_))), (mr, .inl (cr_, 3, .inl gr__106))]) [2, 0, 1, 3] (by decide) rfl
      have hK9 := hK.sub (tys' := [(cn_, .int), (cw_, .long), (cr_, .int)]) [0, 1, 2] rfl
      exact W.iret (v := (-2)) hx hb hr (fun t ht hW => ⟨⟨(-2), (), rfl, trivial, lc_, ti_, cb_, la_, lb_, ld_, le_, fw_, gr__106, by rw [ht]; exact hP9, va_K.moved hW.alike hK9, hD9⟩, hS.F ht⟩) hS.2.2 dX12_plan_26
    · exact absurd c_103 (by decide)
