theorem dX12_in_0 : decode cX12_in 0 = .ok (.lload_n 0, 1) := by decide +kernel
theorem dX12_in_1 : decode cX12_in 1 = .ok (.lload_n 2, 1) := by decide +kernel
theorem dX12_in_2 : decode cX12_in 2 = .ok (.lcmp, 1) := by decide +kernel
theorem dX12_in_3 : decode cX12_in 3 = .ok (.ifCond .lt 14, 3) := by decide +kernel
theorem dX12_in_17 : decode cX12_in 17 = .ok (.iconst 0, 1) := by decide +kernel
theorem dX12_in_18 : decode cX12_in 18 = .ok (.ireturn, 1) := by decide +kernel
theorem dX12_in_6 : decode cX12_in 6 = .ok (.lload_n 0, 1) := by decide +kernel
theorem dX12_in_7 : decode cX12_in 7 = .ok (.lload 4, 2) := by decide +kernel
theorem dX12_in_9 : decode cX12_in 9 = .ok (.lcmp, 1) := by decide +kernel
theorem dX12_in_10 : decode cX12_in 10 = .ok (.ifCond .gt 7, 3) := by decide +kernel
theorem dX12_in_13 : decode cX12_in 13 = .ok (.iconst 1, 1) := by decide +kernel
theorem dX12_in_14 : decode cX12_in 14 = .ok (.goto 4, 3) := by decide +kernel
set_option maxHeartbeats 4000000 in
set_option maxRecDepth 100000 in
theorem m_in (l : Launch) (dC : Nat → ClassId) (dI : Nat → Nat → Nat) (v : Int64) (lo : Int64) (hi : Int64) : Met l yX12_in wsX12_in ({ frames := 0, cells := 0, slots := 0, locals := 0 }) (va_Pc [.long v, .long lo, .long hi] (fun _ => True)) (vp_Si (fun r => r = if lo ≤ v ∧ v ≤ hi then 1 else 0)) 0 0 (fun _ => False) := by
  refine Met.ofW (cc := cX12_in) (maxL := 6) (ret := (some .boolean)) (by decide) rfl ?_
  intro p e s m args below meth c s₁ B hml hv
  obtain ⟨rfl, -⟩ := hv
  have hx := B.exec
  have hb := B.bytes
  have hr := B.returns
  have hts := atoms_spec (ws := wsX12_in) B.pre
  have hown : s.vm.findClass RX12 = some m.cls := findClass_of_methodNamed B.named
  have hlocks := B.notSynchronized
  have hl := lv_entry ([.long v, .long lo, .long hi]) (n := 6) (Nat.le_of_ble_eq_true rfl)
  rw [lg_entry_eq]
  generalize (lg_sl ([.long v, .long lo, .long hi]) ++ List.replicate (6 - (lg_sl ([.long v, .long lo, .long hi])).length) Slot.unset).toArray = ls at hl ⊢
  have hl : lv_has ls 6 [(0, .long v), (2, .long lo), (4, .long hi)] := hl
  refine lv_lload_n hx hb dX12_in_0 rfl (lv_at hl 0 rfl) ?_
  refine lv_lload_n hx hb dX12_in_1 rfl (lv_at hl 1 rfl) ?_
  refine W.lcmp hx hb dX12_in_2 ?_
  refine lv_if_lt (tgt := 17) hx hb dX12_in_3 (by decide) (fun c_1 => ?_) (fun c_1 => ?_)
  · refine lv_iconst (v := 0) hx hb dX12_in_17 (by decide) ?_
    exact W.zret (v := 0) hx hb hr (by decide) (fun t ht hW => ⟨0, rfl, (if_neg (fun z => tz_cmp_lt c_1 z.1)).symm, ht⟩) (fun _ h => absurd h List.not_mem_nil) dX12_in_18
  · refine lv_lload_n hx hb dX12_in_6 rfl (lv_at hl 0 rfl) ?_
    refine lv_lload hx hb dX12_in_7 (lv_at hl 2 rfl) ?_
    refine W.lcmp hx hb dX12_in_9 ?_
    refine lv_if_gt (tgt := 17) hx hb dX12_in_10 (by decide) (fun c_2 => ?_) (fun c_2 => ?_)
    · refine lv_iconst (v := 0) hx hb dX12_in_17 (by decide) ?_
      exact W.zret (v := 0) hx hb hr (by decide) (fun t ht hW => ⟨0, rfl, (if_neg (fun z => tz_cmp_gt c_2 z.2)).symm, ht⟩) (fun _ h => absurd h List.not_mem_nil) dX12_in_18
    · refine lv_iconst (v := 1) hx hb dX12_in_13 (by decide) ?_
      refine lv_goto (tgt := 18) hx hb dX12_in_14 (by decide) ?_
      exact W.zret (v := 1) hx hb hr (by decide) (fun t ht hW => ⟨1, rfl, (if_pos ⟨tz_cmp_nlt c_1, tz_cmp_ngt c_2⟩).symm, ht⟩) (fun _ h => absurd h List.not_mem_nil) dX12_in_18
theorem dX12_bad_0 : decode cX12_bad 0 = .ok (.aload_n 0, 1) := by decide +kernel
theorem dX12_bad_1 : decode cX12_bad 1 = .ok (.getfield 20, 3) := by decide +kernel
theorem dX12_bad_4 : decode cX12_bad 4 = .ok (.iconst 0, 1) := by decide +kernel
theorem dX12_bad_5 : decode cX12_bad 5 = .ok (.dup2, 1) := by decide +kernel
theorem dX12_bad_6 : decode cX12_bad 6 = .ok (.iaload, 1) := by decide +kernel
theorem dX12_bad_7 : decode cX12_bad 7 = .ok (.iconst 1, 1) := by decide +kernel
theorem dX12_bad_8 : decode cX12_bad 8 = .ok (.iadd, 1) := by decide +kernel
theorem dX12_bad_9 : decode cX12_bad 9 = .ok (.iastore, 1) := by decide +kernel
theorem dX12_bad_10 : decode cX12_bad 10 = .ok (.iload_n 1, 1) := by decide +kernel
theorem dX12_bad_11 : decode cX12_bad 11 = .ok (.ireturn, 1) := by decide +kernel
set_option maxRecDepth 20000 in
theorem iw_m_bad_X12 : ∀ w ∈ wsX120, w ∈ wsX12_bad := by decide +kernel
set_option maxHeartbeats 4000000 in
set_option maxRecDepth 100000 in
theorem m_bad (l : Launch) (dC : Nat → ClassId) (dI : Nat → Nat → Nat) (mo : Nat) (nw : Nat) (kp : Nat) (ik : Nat) (mr : Nat) (la_ : Int64) (lb_ : Int64) (mw : Nat) (lc_ : Int64) (ti_ : Int32) (cb_ : Int32) (ld_ : Int64) (le_ : Int64) (mq : Nat) (mz : Nat) (my : Nat) (sm_ : Int32) (mb : Nat) (bl_ : Int32) (ta_ : Int32) (tl_ : Int32) (tk_ : Int32) (vl_ : Int32) (mx : Nat) (mv : Nat) (cr_ : ClassId) (fr_ : Nat → Int32) (na : Int32) (sz : Nat) : Met l yX12_bad wsX12_bad ({ frames := 0, cells := 0, slots := 0, locals := 0 }) (va_Pc [.ref mo, .int na] (fun U => U.heap.size = sz ∧ va_P (dC, dI) vwCl [(mo, .inr (12, [.ref nw, .ref kp, .ref ik, .ref mr, .long la_, .long lb_, .ref mw, .long lc_, .int ti_, .int cb_, .long ld_, .long le_, .ref mq, .ref mz, .ref my, .int sm_, .ref mb, .int bl_, .int ta_, .int tl_, .int tk_, .int vl_, .ref mx, .ref mv])), (mr, .inl (cr_, 3, .inl fr_))] U.heap ∧ va_K (dC, dI) vwCl [(cr_, .int)] U ∧ va_D (fun _ => True) [(mo, .inr (12, [.ref nw, .ref kp, .ref ik, .ref mr, .long la_, .long lb_, .ref mw, .long lc_, .int ti_, .int cb_, .long ld_, .long le_, .ref mq, .ref mz, .ref my, .int sm_, .ref mb, .int bl_, .int ta_, .int tl_, .int tk_, .int vl_, .ref mx, .ref mv])), (mr, .inl (cr_, 3, .inl fr_))])) (va_Qi (fun (r : Int32) (_ : Unit) => r = na) (fun _ t => ∃ (gr_ : Nat → Int32), va_P (dC, dI) vwCl [(mo, .inr (12, [.ref nw, .ref kp, .ref ik, .ref mr, .long la_, .long lb_, .ref mw, .long lc_, .int ti_, .int cb_, .long ld_, .long le_, .ref mq, .ref mz, .ref my, .int sm_, .ref mb, .int bl_, .int ta_, .int tl_, .int tk_, .int vl_, .ref mx, .ref mv])), (mr, .inl (cr_, 3, .inl gr_))] t.heap ∧ va_K (dC, dI) vwCl [(cr_, .int)] t ∧ va_D (va_A [(mo, .inr (12, [.ref nw, .ref kp, .ref ik, .ref mr, .long la_, .long lb_, .ref mw, .long lc_, .int ti_, .int cb_, .long ld_, .long le_, .ref mq, .ref mz, .ref my, .int sm_, .ref mb, .int bl_, .int ta_, .int tl_, .int tk_, .int vl_, .ref mx, .ref mv])), (mr, .inl (cr_, 3, .inl fr_))] sz) [(mo, .inr (12, [.ref nw, .ref kp, .ref ik, .ref mr, .long la_, .long lb_, .ref mw, .long lc_, .int ti_, .int cb_, .long ld_, .long le_, .ref mq, .ref mz, .ref my, .int sm_, .ref mb, .int bl_, .int ta_, .int tl_, .int tk_, .int vl_, .ref mx, .ref mv])), (mr, .inl (cr_, 3, .inl gr_))]) (va_A [(mo, .inr (12, [.ref nw, .ref kp, .ref ik, .ref mr, .long la_, .long lb_, .ref mw, .long lc_, .int ti_, .int cb_, .long ld_, .long le_, .ref mq, .ref mz, .ref my, .int sm_, .ref mb, .int bl_, .int ta_, .int tl_, .int tk_, .int vl_, .ref mx, .ref mv])), (mr, .inl (cr_, 3, .inl fr_))] sz)) 0 0 (va_A [(mo, .inr (12, [.ref nw, .ref kp, .ref ik, .ref mr, .long la_, .long lb_, .ref mw, .long lc_, .int ti_, .int cb_, .long ld_, .long le_, .ref mq, .ref mz, .ref my, .int sm_, .ref mb, .int bl_, .int ta_, .int tl_, .int tk_, .int vl_, .ref mx, .ref mv])), (mr, .inl (cr_, 3, .inl fr_))] sz) := by
  refine Met.ofW (cc := cX12_bad) (maxL := 2) (ret := (some .int)) (by decide) rfl ?_
  intro p e s m args below meth c s₁ B hml hv
  obtain ⟨rfl, hsz, hP, hK, hD0⟩ := hv
  have hx := B.exec
  have hb := B.bytes
  have hr := B.returns
  have hts := atoms_spec (ws := wsX12_bad) B.pre
  have hown : s.vm.findClass RX12 = some m.cls := findClass_of_methodNamed B.named
  have hlocks := B.notSynchronized
  subst hsz
  have hD := hD0.self (sz := s.heap.size)
  generalize hAe : va_A [(mo, .inr (12, [.ref nw, .ref kp, .ref ik, .ref mr, .long la_, .long lb_, .ref mw, .long lc_, .int ti_, .int cb_, .long ld_, .long le_, .ref mq, .ref mz, .ref my, .int sm_, .ref mb, .int bl_, .int ta_, .int tl_, .int tk_, .int vl_, .ref mx, .ref mv])), (mr, .inl (cr_, 3, .inl fr_))] s.heap.size = A at hD ⊢
  have hA : ∀ q : Nat, s.heap.size ≤ q → A q := fun q h => by rw [← hAe]; exact Or.inr h
  have hS : va_S A s.heap s.heap [] := va_S.rf
  have hP : va_P (dC, dI) vwCl [(mo, .inr (12, [.ref nw, .ref kp, .ref ik, .ref mr, .long la_, .long lb_, .ref mw, .long lc_, .int ti_, .int cb_, .long ld_, .long le_, .ref mq, .ref mz, .ref my, .int sm_, .ref mb, .int bl_, .int ta_, .int tl_, .int tk_, .int vl_, .ref mx, .ref mv])), (mr, .inl (cr_, 3, .inl fr_))] s.heap := hP
  have hl := lv_entry ([.ref mo, .int na]) (n := 2) (Nat.le_of_ble_eq_true rfl)
  rw [lg_entry_eq]
  generalize (lg_sl ([.ref mo, .int na]) ++ List.replicate (2 - (lg_sl ([.ref mo, .int na])).length) Slot.unset).toArray = ls at hl ⊢
  have hl : lv_has ls 2 [(0, .ref mo), (1, .int na)] := hl
  refine lv_aload_n hx hb dX12_bad_0 rfl (lv_at hl 0 rfl) ?_
  refine va_get (D := (dC, dI)) (ci := 12) (v := .ref mr) (C := RX12) (T := TX12) (N := 24) hx hb hts iw_m_bad_X12 hown hK hP 0 rfl rfl 3 (by decide) (hts (.fieldLink RX12 20 "ThriceCountedModel" "refused" "[I") (by decide +kernel)) (fun _ h9 => h9) rfl dX12_bad_1 ?_
  refine lv_iconst (v := 0) hx hb dX12_bad_4 (by decide) ?_
  refine lv_dup2_11 hx hb dX12_bad_5 rfl rfl ?_
  refine va_iald hx hb hK hP 1 0 rfl rfl (show ¬ ((0 : Int32) < 0 ∨ 3 ≤ (0 : Int32).toNatClampNeg) by decide) dX12_bad_6 ?_
  refine lv_topi (fun x_1 _ => ?_)
  refine lv_iconst (v := 1) hx hb dX12_bad_7 (by decide) ?_
  refine lv_iadd hx hb dX12_bad_8 ?_
  refine lv_topi (fun x_2 _ => ?_)
  refine va_iast hx hb hK hP hD hS 1 0 rfl rfl (show ¬ ((0 : Int32) < 0 ∨ 3 ≤ (0 : Int32).toNatClampNeg) by decide) dX12_bad_9 (fun H locs hP hD hS => ?_)
  generalize (upd fr_ (Int32.toNatClampNeg 0) x_2) = f_3 at hP hD
  have hP : va_P (dC, dI) vwCl [(mo, .inr (12, [.ref nw, .ref kp, .ref ik, .ref mr, .long la_, .long lb_, .ref mw, .long lc_, .int ti_, .int cb_, .long ld_, .long le_, .ref mq, .ref mz, .ref my, .int sm_, .ref mb, .int bl_, .int ta_, .int tl_, .int tk_, .int vl_, .ref mx, .ref mv])), (mr, .inl (cr_, 3, .inl f_3))] H := hP
  have hD : va_D A [(mo, .inr (12, [.ref nw, .ref kp, .ref ik, .ref mr, .long la_, .long lb_, .ref mw, .long lc_, .int ti_, .int cb_, .long ld_, .long le_, .ref mq, .ref mz, .ref my, .int sm_, .ref mb, .int bl_, .int ta_, .int tl_, .int tk_, .int vl_, .ref mx, .ref mv])), (mr, .inl (cr_, 3, .inl f_3))] := hD
  refine lv_iload_n hx hb dX12_bad_10 rfl (lv_at hl 1 rfl) ?_
  have hP9 := hP.sub (ws' := [(mo, .inr (12, [.ref nw, .ref kp, .ref ik, .ref mr, .long la_, .long lb_, .ref mw, .long lc_, .int ti_, .int cb_, .long ld_, .long le_, .ref mq, .ref mz, .ref my, .int sm_, .ref mb, .int bl_, .int ta_, .int tl_, .int tk_, .int vl_, .ref mx, .ref mv])), (mr, .inl (cr_, 3, .inl f_3))]) [0, 1] rfl
  have hD9 := hD.sub (ws' := [(mo, .inr (12, [.ref nw, .ref kp, .ref ik, .ref mr, .long la_, .long lb_, .ref mw, .long lc_, .int ti_, .int cb_, .long ld_, .long le_, .ref mq, .ref mz, .ref my, .int sm_, .ref mb, .int bl_, .int ta_, .int tl_, .int tk_, .int vl_, .ref mx, .ref mv])), (mr, .inl (cr_, 3, .inl f_3))]) [0, 1] (by decide) rfl
  have hK9 := hK.sub (tys' := [(cr_, .int)]) [0] rfl
  exact W.iret (v := na) hx hb hr (fun t ht hW => ⟨⟨na, (), rfl, rfl, f_3, by rw [ht]; exact hP9, va_K.moved hW.alike hK9, hD9⟩, hS.F ht⟩) hS.2.2 dX12_bad_11
theorem dX12_no_0 : decode cX12_no 0 = .ok (.aload_n 0, 1) := by decide +kernel
theorem dX12_no_1 : decode cX12_no 1 = .ok (.getfield 20, 3) := by decide +kernel
theorem dX12_no_4 : decode cX12_no 4 = .ok (.iconst 1, 1) := by decide +kernel
theorem dX12_no_5 : decode cX12_no 5 = .ok (.dup2, 1) := by decide +kernel
theorem dX12_no_6 : decode cX12_no 6 = .ok (.iaload, 1) := by decide +kernel
theorem dX12_no_7 : decode cX12_no 7 = .ok (.iconst 1, 1) := by decide +kernel
theorem dX12_no_8 : decode cX12_no 8 = .ok (.iadd, 1) := by decide +kernel
theorem dX12_no_9 : decode cX12_no 9 = .ok (.iastore, 1) := by decide +kernel
theorem dX12_no_10 : decode cX12_no 10 = .ok (.bipush (-3), 2) := by decide +kernel
theorem dX12_no_12 : decode cX12_no 12 = .ok (.ireturn, 1) := by decide +kernel
set_option maxRecDepth 20000 in
theorem iw_m_no_X12 : ∀ w ∈ wsX120, w ∈ wsX12_no := by decide +kernel
set_option maxHeartbeats 4000000 in
set_option maxRecDepth 100000 in
theorem m_no (l : Launch) (dC : Nat → ClassId) (dI : Nat → Nat → Nat) (mo : Nat) (nw : Nat) (kp : Nat) (ik : Nat) (mr : Nat) (la_ : Int64) (lb_ : Int64) (mw : Nat) (lc_ : Int64) (ti_ : Int32) (cb_ : Int32) (ld_ : Int64) (le_ : Int64) (mq : Nat) (mz : Nat) (my : Nat) (sm_ : Int32) (mb : Nat) (bl_ : Int32) (ta_ : Int32) (tl_ : Int32) (tk_ : Int32) (vl_ : Int32) (mx : Nat) (mv : Nat) (cr_ : ClassId) (fr_ : Nat → Int32) (sz : Nat) : Met l yX12_no wsX12_no ({ frames := 0, cells := 0, slots := 0, locals := 0 }) (va_Pc [.ref mo] (fun U => U.heap.size = sz ∧ va_P (dC, dI) vwCl [(mo, .inr (12, [.ref nw, .ref kp, .ref ik, .ref mr, .long la_, .long lb_, .ref mw, .long lc_, .int ti_, .int cb_, .long ld_, .long le_, .ref mq, .ref mz, .ref my, .int sm_, .ref mb, .int bl_, .int ta_, .int tl_, .int tk_, .int vl_, .ref mx, .ref mv])), (mr, .inl (cr_, 3, .inl fr_))] U.heap ∧ va_K (dC, dI) vwCl [(cr_, .int)] U ∧ va_D (fun _ => True) [(mo, .inr (12, [.ref nw, .ref kp, .ref ik, .ref mr, .long la_, .long lb_, .ref mw, .long lc_, .int ti_, .int cb_, .long ld_, .long le_, .ref mq, .ref mz, .ref my, .int sm_, .ref mb, .int bl_, .int ta_, .int tl_, .int tk_, .int vl_, .ref mx, .ref mv])), (mr, .inl (cr_, 3, .inl fr_))])) (va_Qi (fun (r : Int32) (_ : Unit) => r = (-3)) (fun _ t => ∃ (gr_ : Nat → Int32), va_P (dC, dI) vwCl [(mo, .inr (12, [.ref nw, .ref kp, .ref ik, .ref mr, .long la_, .long lb_, .ref mw, .long lc_, .int ti_, .int cb_, .long ld_, .long le_, .ref mq, .ref mz, .ref my, .int sm_, .ref mb, .int bl_, .int ta_, .int tl_, .int tk_, .int vl_, .ref mx, .ref mv])), (mr, .inl (cr_, 3, .inl gr_))] t.heap ∧ va_K (dC, dI) vwCl [(cr_, .int)] t ∧ va_D (va_A [(mo, .inr (12, [.ref nw, .ref kp, .ref ik, .ref mr, .long la_, .long lb_, .ref mw, .long lc_, .int ti_, .int cb_, .long ld_, .long le_, .ref mq, .ref mz, .ref my, .int sm_, .ref mb, .int bl_, .int ta_, .int tl_, .int tk_, .int vl_, .ref mx, .ref mv])), (mr, .inl (cr_, 3, .inl fr_))] sz) [(mo, .inr (12, [.ref nw, .ref kp, .ref ik, .ref mr, .long la_, .long lb_, .ref mw, .long lc_, .int ti_, .int cb_, .long ld_, .long le_, .ref mq, .ref mz, .ref my, .int sm_, .ref mb, .int bl_, .int ta_, .int tl_, .int tk_, .int vl_, .ref mx, .ref mv])), (mr, .inl (cr_, 3, .inl gr_))]) (va_A [(mo, .inr (12, [.ref nw, .ref kp, .ref ik, .ref mr, .long la_, .long lb_, .ref mw, .long lc_, .int ti_, .int cb_, .long ld_, .long le_, .ref mq, .ref mz, .ref my, .int sm_, .ref mb, .int bl_, .int ta_, .int tl_, .int tk_, .int vl_, .ref mx, .ref mv])), (mr, .inl (cr_, 3, .inl fr_))] sz)) 0 0 (va_A [(mo, .inr (12, [.ref nw, .ref kp, .ref ik, .ref mr, .long la_, .long lb_, .ref mw, .long lc_, .int ti_, .int cb_, .long ld_, .long le_, .ref mq, .ref mz, .ref my, .int sm_, .ref mb, .int bl_, .int ta_, .int tl_, .int tk_, .int vl_, .ref mx, .ref mv])), (mr, .inl (cr_, 3, .inl fr_))] sz) := by
  refine Met.ofW (cc := cX12_no) (maxL := 1) (ret := (some .int)) (by decide) rfl ?_
  intro p e s m args below meth c s₁ B hml hv
  obtain ⟨rfl, hsz, hP, hK, hD0⟩ := hv
  have hx := B.exec
  have hb := B.bytes
  have hr := B.returns
  have hts := atoms_spec (ws := wsX12_no) B.pre
  have hown : s.vm.findClass RX12 = some m.cls := findClass_of_methodNamed B.named
  have hlocks := B.notSynchronized
  subst hsz
  have hD := hD0.self (sz := s.heap.size)
  generalize hAe : va_A [(mo, .inr (12, [.ref nw, .ref kp, .ref ik, .ref mr, .long la_, .long lb_, .ref mw, .long lc_, .int ti_, .int cb_, .long ld_, .long le_, .ref mq, .ref mz, .ref my, .int sm_, .ref mb, .int bl_, .int ta_, .int tl_, .int tk_, .int vl_, .ref mx, .ref mv])), (mr, .inl (cr_, 3, .inl fr_))] s.heap.size = A at hD ⊢
  have hA : ∀ q : Nat, s.heap.size ≤ q → A q := fun q h => by rw [← hAe]; exact Or.inr h
  have hS : va_S A s.heap s.heap [] := va_S.rf
  have hP : va_P (dC, dI) vwCl [(mo, .inr (12, [.ref nw, .ref kp, .ref ik, .ref mr, .long la_, .long lb_, .ref mw, .long lc_, .int ti_, .int cb_, .long ld_, .long le_, .ref mq, .ref mz, .ref my, .int sm_, .ref mb, .int bl_, .int ta_, .int tl_, .int tk_, .int vl_, .ref mx, .ref mv])), (mr, .inl (cr_, 3, .inl fr_))] s.heap := hP
  have hl := lv_entry ([.ref mo]) (n := 1) (Nat.le_of_ble_eq_true rfl)
  rw [lg_entry_eq]
  generalize (lg_sl ([.ref mo]) ++ List.replicate (1 - (lg_sl ([.ref mo])).length) Slot.unset).toArray = ls at hl ⊢
  have hl : lv_has ls 1 [(0, .ref mo)] := hl
  refine lv_aload_n hx hb dX12_no_0 rfl (lv_at hl 0 rfl) ?_
  refine va_get (D := (dC, dI)) (ci := 12) (v := .ref mr) (C := RX12) (T := TX12) (N := 24) hx hb hts iw_m_no_X12 hown hK hP 0 rfl rfl 3 (by decide) (hts (.fieldLink RX12 20 "ThriceCountedModel" "refused" "[I") (by decide +kernel)) (fun _ h9 => h9) rfl dX12_no_1 ?_
  refine lv_iconst (v := 1) hx hb dX12_no_4 (by decide) ?_
  refine lv_dup2_11 hx hb dX12_no_5 rfl rfl ?_
  refine va_iald hx hb hK hP 1 0 rfl rfl (show ¬ ((1 : Int32) < 0 ∨ 3 ≤ (1 : Int32).toNatClampNeg) by decide) dX12_no_6 ?_
  refine lv_topi (fun x_1 _ => ?_)
  refine lv_iconst (v := 1) hx hb dX12_no_7 (by decide) ?_
  refine lv_iadd hx hb dX12_no_8 ?_
  refine lv_topi (fun x_2 _ => ?_)
  refine va_iast hx hb hK hP hD hS 1 0 rfl rfl (show ¬ ((1 : Int32) < 0 ∨ 3 ≤ (1 : Int32).toNatClampNeg) by decide) dX12_no_9 (fun H locs hP hD hS => ?_)
  generalize (upd fr_ (Int32.toNatClampNeg 1) x_2) = f_3 at hP hD
  have hP : va_P (dC, dI) vwCl [(mo, .inr (12, [.ref nw, .ref kp, .ref ik, .ref mr, .long la_, .long lb_, .ref mw, .long lc_, .int ti_, .int cb_, .long ld_, .long le_, .ref mq, .ref mz, .ref my, .int sm_, .ref mb, .int bl_, .int ta_, .int tl_, .int tk_, .int vl_, .ref mx, .ref mv])), (mr, .inl (cr_, 3, .inl f_3))] H := hP
  have hD : va_D A [(mo, .inr (12, [.ref nw, .ref kp, .ref ik, .ref mr, .long la_, .long lb_, .ref mw, .long lc_, .int ti_, .int cb_, .long ld_, .long le_, .ref mq, .ref mz, .ref my, .int sm_, .ref mb, .int bl_, .int ta_, .int tl_, .int tk_, .int vl_, .ref mx, .ref mv])), (mr, .inl (cr_, 3, .inl f_3))] := hD
  refine lv_bipush (v := (-3)) hx hb dX12_no_10 (by decide) ?_
  have hP9 := hP.sub (ws' := [(mo, .inr (12, [.ref nw, .ref kp, .ref ik, .ref mr, .long la_, .long lb_, .ref mw, .long lc_, .int ti_, .int cb_, .long ld_, .long le_, .ref mq, .ref mz, .ref my, .int sm_, .ref mb, .int bl_, .int ta_, .int tl_, .int tk_, .int vl_, .ref mx, .ref mv])), (mr, .inl (cr_, 3, .inl f_3))]) [0, 1] rfl
  have hD9 := hD.sub (ws' := [(mo, .inr (12, [.ref nw, .ref kp, .ref ik, .ref mr, .long la_, .long lb_, .ref mw, .long lc_, .int ti_, .int cb_, .long ld_, .long le_, .ref mq, .ref mz, .ref my, .int sm_, .ref mb, .int bl_, .int ta_, .int tl_, .int tk_, .int vl_, .ref mx, .ref mv])), (mr, .inl (cr_, 3, .inl f_3))]) [0, 1] (by decide) rfl
  have hK9 := hK.sub (tys' := [(cr_, .int)]) [0] rfl
  exact W.iret (v := (-3)) hx hb hr (fun t ht hW => ⟨⟨(-3), (), rfl, rfl, f_3, by rw [ht]; exact hP9, va_K.moved hW.alike hK9, hD9⟩, hS.F ht⟩) hS.2.2 dX12_no_12
theorem dX12_full_0 : decode cX12_full 0 = .ok (.aload_n 0, 1) := by decide +kernel
theorem dX12_full_1 : decode cX12_full 1 = .ok (.getfield 20, 3) := by decide +kernel
theorem dX12_full_4 : decode cX12_full 4 = .ok (.iconst 2, 1) := by decide +kernel
theorem dX12_full_5 : decode cX12_full 5 = .ok (.dup2, 1) := by decide +kernel
theorem dX12_full_6 : decode cX12_full 6 = .ok (.iaload, 1) := by decide +kernel
theorem dX12_full_7 : decode cX12_full 7 = .ok (.iconst 1, 1) := by decide +kernel
theorem dX12_full_8 : decode cX12_full 8 = .ok (.iadd, 1) := by decide +kernel
theorem dX12_full_9 : decode cX12_full 9 = .ok (.iastore, 1) := by decide +kernel
theorem dX12_full_10 : decode cX12_full 10 = .ok (.bipush (-4), 2) := by decide +kernel
theorem dX12_full_12 : decode cX12_full 12 = .ok (.ireturn, 1) := by decide +kernel
set_option maxRecDepth 20000 in
theorem iw_m_full_X12 : ∀ w ∈ wsX120, w ∈ wsX12_full := by decide +kernel
set_option maxHeartbeats 4000000 in
set_option maxRecDepth 100000 in
theorem m_full (l : Launch) (dC : Nat → ClassId) (dI : Nat → Nat → Nat) (mo : Nat) (nw : Nat) (kp : Nat) (ik : Nat) (mr : Nat) (la_ : Int64) (lb_ : Int64) (mw : Nat) (lc_ : Int64) (ti_ : Int32) (cb_ : Int32) (ld_ : Int64) (le_ : Int64) (mq : Nat) (mz : Nat) (my : Nat) (sm_ : Int32) (mb : Nat) (bl_ : Int32) (ta_ : Int32) (tl_ : Int32) (tk_ : Int32) (vl_ : Int32) (mx : Nat) (mv : Nat) (cr_ : ClassId) (fr_ : Nat → Int32) (sz : Nat) : Met l yX12_full wsX12_full ({ frames := 0, cells := 0, slots := 0, locals := 0 }) (va_Pc [.ref mo] (fun U => U.heap.size = sz ∧ va_P (dC, dI) vwCl [(mo, .inr (12, [.ref nw, .ref kp, .ref ik, .ref mr, .long la_, .long lb_, .ref mw, .long lc_, .int ti_, .int cb_, .long ld_, .long le_, .ref mq, .ref mz, .ref my, .int sm_, .ref mb, .int bl_, .int ta_, .int tl_, .int tk_, .int vl_, .ref mx, .ref mv])), (mr, .inl (cr_, 3, .inl fr_))] U.heap ∧ va_K (dC, dI) vwCl [(cr_, .int)] U ∧ va_D (fun _ => True) [(mo, .inr (12, [.ref nw, .ref kp, .ref ik, .ref mr, .long la_, .long lb_, .ref mw, .long lc_, .int ti_, .int cb_, .long ld_, .long le_, .ref mq, .ref mz, .ref my, .int sm_, .ref mb, .int bl_, .int ta_, .int tl_, .int tk_, .int vl_, .ref mx, .ref mv])), (mr, .inl (cr_, 3, .inl fr_))])) (va_Qi (fun (r : Int32) (_ : Unit) => r = (-4)) (fun _ t => ∃ (gr_ : Nat → Int32), va_P (dC, dI) vwCl [(mo, .inr (12, [.ref nw, .ref kp, .ref ik, .ref mr, .long la_, .long lb_, .ref mw, .long lc_, .int ti_, .int cb_, .long ld_, .long le_, .ref mq, .ref mz, .ref my, .int sm_, .ref mb, .int bl_, .int ta_, .int tl_, .int tk_, .int vl_, .ref mx, .ref mv])), (mr, .inl (cr_, 3, .inl gr_))] t.heap ∧ va_K (dC, dI) vwCl [(cr_, .int)] t ∧ va_D (va_A [(mo, .inr (12, [.ref nw, .ref kp, .ref ik, .ref mr, .long la_, .long lb_, .ref mw, .long lc_, .int ti_, .int cb_, .long ld_, .long le_, .ref mq, .ref mz, .ref my, .int sm_, .ref mb, .int bl_, .int ta_, .int tl_, .int tk_, .int vl_, .ref mx, .ref mv])), (mr, .inl (cr_, 3, .inl fr_))] sz) [(mo, .inr (12, [.ref nw, .ref kp, .ref ik, .ref mr, .long la_, .long lb_, .ref mw, .long lc_, .int ti_, .int cb_, .long ld_, .long le_, .ref mq, .ref mz, .ref my, .int sm_, .ref mb, .int bl_, .int ta_, .int tl_, .int tk_, .int vl_, .ref mx, .ref mv])), (mr, .inl (cr_, 3, .inl gr_))]) (va_A [(mo, .inr (12, [.ref nw, .ref kp, .ref ik, .ref mr, .long la_, .long lb_, .ref mw, .long lc_, .int ti_, .int cb_, .long ld_, .long le_, .ref mq, .ref mz, .ref my, .int sm_, .ref mb, .int bl_, .int ta_, .int tl_, .int tk_, .int vl_, .ref mx, .ref mv])), (mr, .inl (cr_, 3, .inl fr_))] sz)) 0 0 (va_A [(mo, .inr (12, [.ref nw, .ref kp, .ref ik, .ref mr, .long la_, .long lb_, .ref mw, .long lc_, .int ti_, .int cb_, .long ld_, .long le_, .ref mq, .ref mz, .ref my, .int sm_, .ref mb, .int bl_, .int ta_, .int tl_, .int tk_, .int vl_, .ref mx, .ref mv])), (mr, .inl (cr_, 3, .inl fr_))] sz) := by
  refine Met.ofW (cc := cX12_full) (maxL := 1) (ret := (some .int)) (by decide) rfl ?_
  intro p e s m args below meth c s₁ B hml hv
  obtain ⟨rfl, hsz, hP, hK, hD0⟩ := hv
  have hx := B.exec
  have hb := B.bytes
  have hr := B.returns
  have hts := atoms_spec (ws := wsX12_full) B.pre
  have hown : s.vm.findClass RX12 = some m.cls := findClass_of_methodNamed B.named
  have hlocks := B.notSynchronized
  subst hsz
  have hD := hD0.self (sz := s.heap.size)
  generalize hAe : va_A [(mo, .inr (12, [.ref nw, .ref kp, .ref ik, .ref mr, .long la_, .long lb_, .ref mw, .long lc_, .int ti_, .int cb_, .long ld_, .long le_, .ref mq, .ref mz, .ref my, .int sm_, .ref mb, .int bl_, .int ta_, .int tl_, .int tk_, .int vl_, .ref mx, .ref mv])), (mr, .inl (cr_, 3, .inl fr_))] s.heap.size = A at hD ⊢
  have hA : ∀ q : Nat, s.heap.size ≤ q → A q := fun q h => by rw [← hAe]; exact Or.inr h
  have hS : va_S A s.heap s.heap [] := va_S.rf
  have hP : va_P (dC, dI) vwCl [(mo, .inr (12, [.ref nw, .ref kp, .ref ik, .ref mr, .long la_, .long lb_, .ref mw, .long lc_, .int ti_, .int cb_, .long ld_, .long le_, .ref mq, .ref mz, .ref my, .int sm_, .ref mb, .int bl_, .int ta_, .int tl_, .int tk_, .int vl_, .ref mx, .ref mv])), (mr, .inl (cr_, 3, .inl fr_))] s.heap := hP
  have hl := lv_entry ([.ref mo]) (n := 1) (Nat.le_of_ble_eq_true rfl)
  rw [lg_entry_eq]
  generalize (lg_sl ([.ref mo]) ++ List.replicate (1 - (lg_sl ([.ref mo])).length) Slot.unset).toArray = ls at hl ⊢
  have hl : lv_has ls 1 [(0, .ref mo)] := hl
  refine lv_aload_n hx hb dX12_full_0 rfl (lv_at hl 0 rfl) ?_
  refine va_get (D := (dC, dI)) (ci := 12) (v := .ref mr) (C := RX12) (T := TX12) (N := 24) hx hb hts iw_m_full_X12 hown hK hP 0 rfl rfl 3 (by decide) (hts (.fieldLink RX12 20 "ThriceCountedModel" "refused" "[I") (by decide +kernel)) (fun _ h9 => h9) rfl dX12_full_1 ?_
  refine lv_iconst (v := 2) hx hb dX12_full_4 (by decide) ?_
  refine lv_dup2_11 hx hb dX12_full_5 rfl rfl ?_
  refine va_iald hx hb hK hP 1 0 rfl rfl (show ¬ ((2 : Int32) < 0 ∨ 3 ≤ (2 : Int32).toNatClampNeg) by decide) dX12_full_6 ?_
  refine lv_topi (fun x_1 _ => ?_)
  refine lv_iconst (v := 1) hx hb dX12_full_7 (by decide) ?_
  refine lv_iadd hx hb dX12_full_8 ?_
  refine lv_topi (fun x_2 _ => ?_)
  refine va_iast hx hb hK hP hD hS 1 0 rfl rfl (show ¬ ((2 : Int32) < 0 ∨ 3 ≤ (2 : Int32).toNatClampNeg) by decide) dX12_full_9 (fun H locs hP hD hS => ?_)
  generalize (upd fr_ (Int32.toNatClampNeg 2) x_2) = f_3 at hP hD
  have hP : va_P (dC, dI) vwCl [(mo, .inr (12, [.ref nw, .ref kp, .ref ik, .ref mr, .long la_, .long lb_, .ref mw, .long lc_, .int ti_, .int cb_, .long ld_, .long le_, .ref mq, .ref mz, .ref my, .int sm_, .ref mb, .int bl_, .int ta_, .int tl_, .int tk_, .int vl_, .ref mx, .ref mv])), (mr, .inl (cr_, 3, .inl f_3))] H := hP
  have hD : va_D A [(mo, .inr (12, [.ref nw, .ref kp, .ref ik, .ref mr, .long la_, .long lb_, .ref mw, .long lc_, .int ti_, .int cb_, .long ld_, .long le_, .ref mq, .ref mz, .ref my, .int sm_, .ref mb, .int bl_, .int ta_, .int tl_, .int tk_, .int vl_, .ref mx, .ref mv])), (mr, .inl (cr_, 3, .inl f_3))] := hD
  refine lv_bipush (v := (-4)) hx hb dX12_full_10 (by decide) ?_
  have hP9 := hP.sub (ws' := [(mo, .inr (12, [.ref nw, .ref kp, .ref ik, .ref mr, .long la_, .long lb_, .ref mw, .long lc_, .int ti_, .int cb_, .long ld_, .long le_, .ref mq, .ref mz, .ref my, .int sm_, .ref mb, .int bl_, .int ta_, .int tl_, .int tk_, .int vl_, .ref mx, .ref mv])), (mr, .inl (cr_, 3, .inl f_3))]) [0, 1] rfl
  have hD9 := hD.sub (ws' := [(mo, .inr (12, [.ref nw, .ref kp, .ref ik, .ref mr, .long la_, .long lb_, .ref mw, .long lc_, .int ti_, .int cb_, .long ld_, .long le_, .ref mq, .ref mz, .ref my, .int sm_, .ref mb, .int bl_, .int ta_, .int tl_, .int tk_, .int vl_, .ref mx, .ref mv])), (mr, .inl (cr_, 3, .inl f_3))]) [0, 1] (by decide) rfl
  have hK9 := hK.sub (tys' := [(cr_, .int)]) [0] rfl
  exact W.iret (v := (-4)) hx hb hr (fun t ht hW => ⟨⟨(-4), (), rfl, rfl, f_3, by rw [ht]; exact hP9, va_K.moved hW.alike hK9, hD9⟩, hS.F ht⟩) hS.2.2 dX12_full_12
set_option maxRecDepth 20000 in
theorem ggX12_isClerk_X12_in : GoodIn wsX12_isClerk wsX12_in := goodIn_r _ [5] (by decide +kernel) (by decide +kernel)
set_option maxRecDepth 20000 in
theorem gX12_isClerk_X12_in : GoodIn wsX12_isClerk (va_wsS RX12 49 yX12_in wsX12_in) := goodIn_app (goodIn_of _ (by decide +kernel)) ggX12_isClerk_X12_in
theorem dX12_isClerk_0 : decode cX12_isClerk 0 = .ok (.iload_n 1, 1) := by decide +kernel
theorem dX12_isClerk_1 : decode cX12_isClerk 1 = .ok (.i2l, 1) := by decide +kernel
theorem dX12_isClerk_2 : decode cX12_isClerk 2 = .ok (.lconst 0, 1) := by decide +kernel
theorem dX12_isClerk_3 : decode cX12_isClerk 3 = .ok (.aload_n 0, 1) := by decide +kernel
theorem dX12_isClerk_4 : decode cX12_isClerk 4 = .ok (.getfield 7, 3) := by decide +kernel
theorem dX12_isClerk_7 : decode cX12_isClerk 7 = .ok (.iconst 0, 1) := by decide +kernel
theorem dX12_isClerk_8 : decode cX12_isClerk 8 = .ok (.iaload, 1) := by decide +kernel
theorem dX12_isClerk_9 : decode cX12_isClerk 9 = .ok (.iconst 1, 1) := by decide +kernel
theorem dX12_isClerk_10 : decode cX12_isClerk 10 = .ok (.isub, 1) := by decide +kernel
theorem dX12_isClerk_11 : decode cX12_isClerk 11 = .ok (.i2l, 1) := by decide +kernel
theorem dX12_isClerk_12 : decode cX12_isClerk 12 = .ok (.invokestatic 49, 3) := by decide +kernel
theorem dX12_isClerk_15 : decode cX12_isClerk 15 = .ok (.ireturn, 1) := by decide +kernel
set_option maxRecDepth 20000 in
theorem iw_m_isClerk_X12 : ∀ w ∈ wsX120, w ∈ wsX12_isClerk := by decide +kernel
set_option maxHeartbeats 4000000 in
set_option maxRecDepth 100000 in
theorem m_isClerk (l : Launch) (dC : Nat → ClassId) (dI : Nat → Nat → Nat) (mo : Nat) (nw : Nat) (kp : Nat) (ik : Nat) (mr : Nat) (la_ : Int64) (lb_ : Int64) (mw : Nat) (lc_ : Int64) (ti_ : Int32) (cb_ : Int32) (ld_ : Int64) (le_ : Int64) (mq : Nat) (mz : Nat) (my : Nat) (sm_ : Int32) (mb : Nat) (bl_ : Int32) (ta_ : Int32) (tl_ : Int32) (tk_ : Int32) (vl_ : Int32) (mx : Nat) (mv : Nat) (cn_ : ClassId) (fn : Nat → Int32) (na : Int32) (hOn : tz_OK 350 fn) : Met l yX12_isClerk wsX12_isClerk ({ frames := 1, cells := 0, slots := 0, locals := 25 }) (va_Pc [.ref mo, .int na] (fun U => va_P (dC, dI) vwCl [(mo, .inr (12, [.ref nw, .ref kp, .ref ik, .ref mr, .long la_, .long lb_, .ref mw, .long lc_, .int ti_, .int cb_, .long ld_, .long le_, .ref mq, .ref mz, .ref my, .int sm_, .ref mb, .int bl_, .int ta_, .int tl_, .int tk_, .int vl_, .ref mx, .ref mv])), (nw, .inl (cn_, 350, .inl fn))] U.heap ∧ va_K (dC, dI) vwCl [(cn_, .int)] U)) (vp_Si (fun r => r = if 0 ≤ na ∧ na < (fn 0) then 1 else 0)) 0 0 (fun _ => False) := by
  refine Met.ofW (cc := cX12_isClerk) (maxL := 2) (ret := (some .boolean)) (by decide) rfl ?_
  intro p e s m args below meth c s₁ B hml hv
  obtain ⟨rfl, hP, hK⟩ := hv
  have hx := B.exec
  have hb := B.bytes
  have hr := B.returns
  have hts := atoms_spec (ws := wsX12_isClerk) B.pre
  have hown : s.vm.findClass RX12 = some m.cls := findClass_of_methodNamed B.named
  have hlocks := B.notSynchronized
  have hl := lv_entry ([.ref mo, .int na]) (n := 2) (Nat.le_of_ble_eq_true rfl)
  rw [lg_entry_eq]
  generalize (lg_sl ([.ref mo, .int na]) ++ List.replicate (2 - (lg_sl ([.ref mo, .int na])).length) Slot.unset).toArray = ls at hl ⊢
  have hl : lv_has ls 2 [(0, .ref mo), (1, .int na)] := hl
  refine lv_iload_n hx hb dX12_isClerk_0 rfl (lv_at hl 1 rfl) ?_
  refine lv_i2l (v := na.toInt64) hx hb dX12_isClerk_1 rfl ?_
  refine lv_lconst (v := 0) hx hb dX12_isClerk_2 (by decide) ?_
  refine lv_aload_n hx hb dX12_isClerk_3 rfl (lv_at hl 0 rfl) ?_
  refine va_get (D := (dC, dI)) (ci := 12) (v := .ref nw) (C := RX12) (T := TX12) (N := 24) hx hb hts iw_m_isClerk_X12 hown hK hP 0 rfl rfl 0 (by decide) (hts (.fieldLink RX12 7 "ThriceCountedModel" "now" "[I") (by decide +kernel)) (fun _ h9 => h9) rfl dX12_isClerk_4 ?_
  refine lv_iconst (v := 0) hx hb dX12_isClerk_7 (by decide) ?_
  refine va_iald hx hb hK hP 1 0 rfl rfl (show ¬ ((0 : Int32) < 0 ∨ 350 ≤ (0 : Int32).toNatClampNeg) by decide) dX12_isClerk_8 ?_
  obtain ⟨j_1, hj_2, ej_3⟩ := hOn.nat (K := 0) (n := 5) (by omega) (show tz_b 0 = (0, 5) from by decide)
  refine tz_i (nI j_1) ej_3 ?_
  refine lv_iconst (v := 1) hx hb dX12_isClerk_9 (by decide) ?_
  refine lv_isub hx hb dX12_isClerk_10 ?_
  refine lv_i2l (v := ((nI j_1) - 1).toInt64) hx hb dX12_isClerk_11 rfl ?_
  refine vp_callSi (va_Run.run (va_runS (As := [.long na.toInt64, .long 0, .long ((nI j_1) - 1).toInt64]) (rest := []) ⟨hx, hb, hml, hown, hts⟩ (m_in l dC dI na.toInt64 0 (((nI j_1) - 1).toInt64)) (va_cwS 3 hts gX12_isClerk_X12_in rfl rfl rfl (by decide +kernel) ⟨Nat.le_of_ble_eq_true rfl, Nat.le_of_ble_eq_true rfl⟩) ⟨fun a U g mk q => ⟨q.1, trivial⟩, fun U hU hW => ⟨rfl, trivial⟩⟩ rfl rfl hl.1 rfl (lv_room (Nat.le_of_ble_eq_true rfl)) dX12_isClerk_12 ⟨Nat.le_of_ble_eq_true rfl, Nat.le_of_ble_eq_true rfl⟩)) (fun r_4 hw_5 => ?_)
  by_cases hc_6 : 0 ≤ na ∧ na < (nI j_1)
  · obtain rfl : 1 = r_4 := (hw_5.trans (if_pos ((tz_in64m (j := j_1) (by omega) rfl rfl).mpr hc_6))).symm
    exact W.zret (v := 1) hx hb hr (by decide) (fun t ht hW => ⟨1, rfl, (by rw [ej_3]; exact (if_pos hc_6).symm), ht⟩) (fun _ h => absurd h List.not_mem_nil) dX12_isClerk_15
  · obtain rfl : 0 = r_4 := (hw_5.trans (if_neg (fun z => hc_6 ((tz_in64m (j := j_1) (by omega) rfl rfl).mp z)))).symm
    exact W.zret (v := 0) hx hb hr (by decide) (fun t ht hW => ⟨0, rfl, (by rw [ej_3]; exact (if_neg hc_6).symm), ht⟩) (fun _ h => absurd h List.not_mem_nil) dX12_isClerk_15
set_option maxRecDepth 20000 in
theorem ggX12_isBundle_X12_in : GoodIn wsX12_isBundle wsX12_in := goodIn_r _ [5] (by decide +kernel) (by decide +kernel)
set_option maxRecDepth 20000 in
theorem gX12_isBundle_X12_in : GoodIn wsX12_isBundle (va_wsS RX12 49 yX12_in wsX12_in) := goodIn_app (goodIn_of _ (by decide +kernel)) ggX12_isBundle_X12_in
theorem dX12_isBundle_0 : decode cX12_isBundle 0 = .ok (.iload_n 1, 1) := by decide +kernel
theorem dX12_isBundle_1 : decode cX12_isBundle 1 = .ok (.i2l, 1) := by decide +kernel
theorem dX12_isBundle_2 : decode cX12_isBundle 2 = .ok (.lconst 0, 1) := by decide +kernel
theorem dX12_isBundle_3 : decode cX12_isBundle 3 = .ok (.aload_n 0, 1) := by decide +kernel
theorem dX12_isBundle_4 : decode cX12_isBundle 4 = .ok (.getfield 7, 3) := by decide +kernel
theorem dX12_isBundle_7 : decode cX12_isBundle 7 = .ok (.iconst 1, 1) := by decide +kernel
theorem dX12_isBundle_8 : decode cX12_isBundle 8 = .ok (.iaload, 1) := by decide +kernel
theorem dX12_isBundle_9 : decode cX12_isBundle 9 = .ok (.iconst 1, 1) := by decide +kernel
theorem dX12_isBundle_10 : decode cX12_isBundle 10 = .ok (.isub, 1) := by decide +kernel
theorem dX12_isBundle_11 : decode cX12_isBundle 11 = .ok (.i2l, 1) := by decide +kernel
theorem dX12_isBundle_12 : decode cX12_isBundle 12 = .ok (.invokestatic 49, 3) := by decide +kernel
theorem dX12_isBundle_15 : decode cX12_isBundle 15 = .ok (.ireturn, 1) := by decide +kernel
set_option maxRecDepth 20000 in
theorem iw_m_isBundle_X12 : ∀ w ∈ wsX120, w ∈ wsX12_isBundle := by decide +kernel
set_option maxHeartbeats 4000000 in
set_option maxRecDepth 100000 in
theorem m_isBundle (l : Launch) (dC : Nat → ClassId) (dI : Nat → Nat → Nat) (mo : Nat) (nw : Nat) (kp : Nat) (ik : Nat) (mr : Nat) (la_ : Int64) (lb_ : Int64) (mw : Nat) (lc_ : Int64) (ti_ : Int32) (cb_ : Int32) (ld_ : Int64) (le_ : Int64) (mq : Nat) (mz : Nat) (my : Nat) (sm_ : Int32) (mb : Nat) (bl_ : Int32) (ta_ : Int32) (tl_ : Int32) (tk_ : Int32) (vl_ : Int32) (mx : Nat) (mv : Nat) (cn_ : ClassId) (fn : Nat → Int32) (na : Int32) (hOn : tz_OK 350 fn) : Met l yX12_isBundle wsX12_isBundle ({ frames := 1, cells := 0, slots := 0, locals := 25 }) (va_Pc [.ref mo, .int na] (fun U => va_P (dC, dI) vwCl [(mo, .inr (12, [.ref nw, .ref kp, .ref ik, .ref mr, .long la_, .long lb_, .ref mw, .long lc_, .int ti_, .int cb_, .long ld_, .long le_, .ref mq, .ref mz, .ref my, .int sm_, .ref mb, .int bl_, .int ta_, .int tl_, .int tk_, .int vl_, .ref mx, .ref mv])), (nw, .inl (cn_, 350, .inl fn))] U.heap ∧ va_K (dC, dI) vwCl [(cn_, .int)] U)) (vp_Si (fun r => r = if 0 ≤ na ∧ na < (fn 1) then 1 else 0)) 0 0 (fun _ => False) := by
  refine Met.ofW (cc := cX12_isBundle) (maxL := 2) (ret := (some .boolean)) (by decide) rfl ?_
  intro p e s m args below meth c s₁ B hml hv
  obtain ⟨rfl, hP, hK⟩ := hv
  have hx := B.exec
  have hb := B.bytes
  have hr := B.returns
  have hts := atoms_spec (ws := wsX12_isBundle) B.pre
  have hown : s.vm.findClass RX12 = some m.cls := findClass_of_methodNamed B.named
  have hlocks := B.notSynchronized
  have hl := lv_entry ([.ref mo, .int na]) (n := 2) (Nat.le_of_ble_eq_true rfl)
  rw [lg_entry_eq]
  generalize (lg_sl ([.ref mo, .int na]) ++ List.replicate (2 - (lg_sl ([.ref mo, .int na])).length) Slot.unset).toArray = ls at hl ⊢
  have hl : lv_has ls 2 [(0, .ref mo), (1, .int na)] := hl
  refine lv_iload_n hx hb dX12_isBundle_0 rfl (lv_at hl 1 rfl) ?_
  refine lv_i2l (v := na.toInt64) hx hb dX12_isBundle_1 rfl ?_
  refine lv_lconst (v := 0) hx hb dX12_isBundle_2 (by decide) ?_
  refine lv_aload_n hx hb dX12_isBundle_3 rfl (lv_at hl 0 rfl) ?_
  refine va_get (D := (dC, dI)) (ci := 12) (v := .ref nw) (C := RX12) (T := TX12) (N := 24) hx hb hts iw_m_isBundle_X12 hown hK hP 0 rfl rfl 0 (by decide) (hts (.fieldLink RX12 7 "ThriceCountedModel" "now" "[I") (by decide +kernel)) (fun _ h9 => h9) rfl dX12_isBundle_4 ?_
  refine lv_iconst (v := 1) hx hb dX12_isBundle_7 (by decide) ?_
  refine va_iald hx hb hK hP 1 0 rfl rfl (show ¬ ((1 : Int32) < 0 ∨ 350 ≤ (1 : Int32).toNatClampNeg) by decide) dX12_isBundle_8 ?_
  obtain ⟨j_1, hj_2, ej_3⟩ := hOn.nat (K := 1) (n := 5) (by omega) (show tz_b 1 = (0, 5) from by decide)
  refine tz_i (nI j_1) ej_3 ?_
  refine lv_iconst (v := 1) hx hb dX12_isBundle_9 (by decide) ?_
  refine lv_isub hx hb dX12_isBundle_10 ?_
  refine lv_i2l (v := ((nI j_1) - 1).toInt64) hx hb dX12_isBundle_11 rfl ?_
  refine vp_callSi (va_Run.run (va_runS (As := [.long na.toInt64, .long 0, .long ((nI j_1) - 1).toInt64]) (rest := []) ⟨hx, hb, hml, hown, hts⟩ (m_in l dC dI na.toInt64 0 (((nI j_1) - 1).toInt64)) (va_cwS 3 hts gX12_isBundle_X12_in rfl rfl rfl (by decide +kernel) ⟨Nat.le_of_ble_eq_true rfl, Nat.le_of_ble_eq_true rfl⟩) ⟨fun a U g mk q => ⟨q.1, trivial⟩, fun U hU hW => ⟨rfl, trivial⟩⟩ rfl rfl hl.1 rfl (lv_room (Nat.le_of_ble_eq_true rfl)) dX12_isBundle_12 ⟨Nat.le_of_ble_eq_true rfl, Nat.le_of_ble_eq_true rfl⟩)) (fun r_4 hw_5 => ?_)
  by_cases hc_6 : 0 ≤ na ∧ na < (nI j_1)
  · obtain rfl : 1 = r_4 := (hw_5.trans (if_pos ((tz_in64m (j := j_1) (by omega) rfl rfl).mpr hc_6))).symm
    exact W.zret (v := 1) hx hb hr (by decide) (fun t ht hW => ⟨1, rfl, (by rw [ej_3]; exact (if_pos hc_6).symm), ht⟩) (fun _ h => absurd h List.not_mem_nil) dX12_isBundle_15
  · obtain rfl : 0 = r_4 := (hw_5.trans (if_neg (fun z => hc_6 ((tz_in64m (j := j_1) (by omega) rfl rfl).mp z)))).symm
    exact W.zret (v := 0) hx hb hr (by decide) (fun t ht hW => ⟨0, rfl, (by rw [ej_3]; exact (if_neg hc_6).symm), ht⟩) (fun _ h => absurd h List.not_mem_nil) dX12_isBundle_15
set_option maxRecDepth 20000 in
theorem ggX12_isCount_X12_in : GoodIn wsX12_isCount wsX12_in := goodIn_r _ [5] (by decide +kernel) (by decide +kernel)
set_option maxRecDepth 20000 in
theorem gX12_isCount_X12_in : GoodIn wsX12_isCount (va_wsS RX12 49 yX12_in wsX12_in) := goodIn_app (goodIn_of _ (by decide +kernel)) ggX12_isCount_X12_in
theorem dX12_isCount_0 : decode cX12_isCount 0 = .ok (.iload_n 1, 1) := by decide +kernel
theorem dX12_isCount_1 : decode cX12_isCount 1 = .ok (.i2l, 1) := by decide +kernel
theorem dX12_isCount_2 : decode cX12_isCount 2 = .ok (.lconst 0, 1) := by decide +kernel
theorem dX12_isCount_3 : decode cX12_isCount 3 = .ok (.aload_n 0, 1) := by decide +kernel
theorem dX12_isCount_4 : decode cX12_isCount 4 = .ok (.getfield 7, 3) := by decide +kernel
theorem dX12_isCount_7 : decode cX12_isCount 7 = .ok (.iconst 2, 1) := by decide +kernel
theorem dX12_isCount_8 : decode cX12_isCount 8 = .ok (.iaload, 1) := by decide +kernel
theorem dX12_isCount_9 : decode cX12_isCount 9 = .ok (.iconst 1, 1) := by decide +kernel
theorem dX12_isCount_10 : decode cX12_isCount 10 = .ok (.isub, 1) := by decide +kernel
theorem dX12_isCount_11 : decode cX12_isCount 11 = .ok (.i2l, 1) := by decide +kernel
theorem dX12_isCount_12 : decode cX12_isCount 12 = .ok (.invokestatic 49, 3) := by decide +kernel
theorem dX12_isCount_15 : decode cX12_isCount 15 = .ok (.ireturn, 1) := by decide +kernel
set_option maxRecDepth 20000 in
theorem iw_m_isCount_X12 : ∀ w ∈ wsX120, w ∈ wsX12_isCount := by decide +kernel
set_option maxHeartbeats 4000000 in
set_option maxRecDepth 100000 in
theorem m_isCount (l : Launch) (dC : Nat → ClassId) (dI : Nat → Nat → Nat) (mo : Nat) (nw : Nat) (kp : Nat) (ik : Nat) (mr : Nat) (la_ : Int64) (lb_ : Int64) (mw : Nat) (lc_ : Int64) (ti_ : Int32) (cb_ : Int32) (ld_ : Int64) (le_ : Int64) (mq : Nat) (mz : Nat) (my : Nat) (sm_ : Int32) (mb : Nat) (bl_ : Int32) (ta_ : Int32) (tl_ : Int32) (tk_ : Int32) (vl_ : Int32) (mx : Nat) (mv : Nat) (cn_ : ClassId) (fn : Nat → Int32) (na : Int32) (hOn : tz_OK 350 fn) : Met l yX12_isCount wsX12_isCount ({ frames := 1, cells := 0, slots := 0, locals := 25 }) (va_Pc [.ref mo, .int na] (fun U => va_P (dC, dI) vwCl [(mo, .inr (12, [.ref nw, .ref kp, .ref ik, .ref mr, .long la_, .long lb_, .ref mw, .long lc_, .int ti_, .int cb_, .long ld_, .long le_, .ref mq, .ref mz, .ref my, .int sm_, .ref mb, .int bl_, .int ta_, .int tl_, .int tk_, .int vl_, .ref mx, .ref mv])), (nw, .inl (cn_, 350, .inl fn))] U.heap ∧ va_K (dC, dI) vwCl [(cn_, .int)] U)) (vp_Si (fun r => r = if 0 ≤ na ∧ na < (fn 2) then 1 else 0)) 0 0 (fun _ => False) := by
  refine Met.ofW (cc := cX12_isCount) (maxL := 2) (ret := (some .boolean)) (by decide) rfl ?_
  intro p e s m args below meth c s₁ B hml hv
  obtain ⟨rfl, hP, hK⟩ := hv
  have hx := B.exec
  have hb := B.bytes
  have hr := B.returns
  have hts := atoms_spec (ws := wsX12_isCount) B.pre
  have hown : s.vm.findClass RX12 = some m.cls := findClass_of_methodNamed B.named
  have hlocks := B.notSynchronized
  have hl := lv_entry ([.ref mo, .int na]) (n := 2) (Nat.le_of_ble_eq_true rfl)
  rw [lg_entry_eq]
  generalize (lg_sl ([.ref mo, .int na]) ++ List.replicate (2 - (lg_sl ([.ref mo, .int na])).length) Slot.unset).toArray = ls at hl ⊢
  have hl : lv_has ls 2 [(0, .ref mo), (1, .int na)] := hl
  refine lv_iload_n hx hb dX12_isCount_0 rfl (lv_at hl 1 rfl) ?_
  refine lv_i2l (v := na.toInt64) hx hb dX12_isCount_1 rfl ?_
  refine lv_lconst (v := 0) hx hb dX12_isCount_2 (by decide) ?_
  refine lv_aload_n hx hb dX12_isCount_3 rfl (lv_at hl 0 rfl) ?_
  refine va_get (D := (dC, dI)) (ci := 12) (v := .ref nw) (C := RX12) (T := TX12) (N := 24) hx hb hts iw_m_isCount_X12 hown hK hP 0 rfl rfl 0 (by decide) (hts (.fieldLink RX12 7 "ThriceCountedModel" "now" "[I") (by decide +kernel)) (fun _ h9 => h9) rfl dX12_isCount_4 ?_
  refine lv_iconst (v := 2) hx hb dX12_isCount_7 (by decide) ?_
  refine va_iald hx hb hK hP 1 0 rfl rfl (show ¬ ((2 : Int32) < 0 ∨ 350 ≤ (2 : Int32).toNatClampNeg) by decide) dX12_isCount_8 ?_
  obtain ⟨j_1, hj_2, ej_3⟩ := hOn.nat (K := 2) (n := 8) (by omega) (show tz_b 2 = (0, 8) from by decide)
  refine tz_i (nI j_1) ej_3 ?_
  refine lv_iconst (v := 1) hx hb dX12_isCount_9 (by decide) ?_
  refine lv_isub hx hb dX12_isCount_10 ?_
  refine lv_i2l (v := ((nI j_1) - 1).toInt64) hx hb dX12_isCount_11 rfl ?_
  refine vp_callSi (va_Run.run (va_runS (As := [.long na.toInt64, .long 0, .long ((nI j_1) - 1).toInt64]) (rest := []) ⟨hx, hb, hml, hown, hts⟩ (m_in l dC dI na.toInt64 0 (((nI j_1) - 1).toInt64)) (va_cwS 3 hts gX12_isCount_X12_in rfl rfl rfl (by decide +kernel) ⟨Nat.le_of_ble_eq_true rfl, Nat.le_of_ble_eq_true rfl⟩) ⟨fun a U g mk q => ⟨q.1, trivial⟩, fun U hU hW => ⟨rfl, trivial⟩⟩ rfl rfl hl.1 rfl (lv_room (Nat.le_of_ble_eq_true rfl)) dX12_isCount_12 ⟨Nat.le_of_ble_eq_true rfl, Nat.le_of_ble_eq_true rfl⟩)) (fun r_4 hw_5 => ?_)
  by_cases hc_6 : 0 ≤ na ∧ na < (nI j_1)
  · obtain rfl : 1 = r_4 := (hw_5.trans (if_pos ((tz_in64m (j := j_1) (by omega) rfl rfl).mpr hc_6))).symm
    exact W.zret (v := 1) hx hb hr (by decide) (fun t ht hW => ⟨1, rfl, (by rw [ej_3]; exact (if_pos hc_6).symm), ht⟩) (fun _ h => absurd h List.not_mem_nil) dX12_isCount_15
  · obtain rfl : 0 = r_4 := (hw_5.trans (if_neg (fun z => hc_6 ((tz_in64m (j := j_1) (by omega) rfl rfl).mp z)))).symm
    exact W.zret (v := 0) hx hb hr (by decide) (fun t ht hW => ⟨0, rfl, (by rw [ej_3]; exact (if_neg hc_6).symm), ht⟩) (fun _ h => absurd h List.not_mem_nil) dX12_isCount_15
set_option maxRecDepth 20000 in
theorem ggX12_isWay_X12_in : GoodIn wsX12_isWay wsX12_in := goodIn_r _ [5] (by decide +kernel) (by decide +kernel)
set_option maxRecDepth 20000 in
theorem gX12_isWay_X12_in : GoodIn wsX12_isWay (va_wsS RX12 49 yX12_in wsX12_in) := goodIn_app (goodIn_of _ (by decide +kernel)) ggX12_isWay_X12_in
theorem dX12_isWay_0 : decode cX12_isWay 0 = .ok (.iload_n 0, 1) := by decide +kernel
theorem dX12_isWay_1 : decode cX12_isWay 1 = .ok (.i2l, 1) := by decide +kernel
theorem dX12_isWay_2 : decode cX12_isWay 2 = .ok (.lconst 0, 1) := by decide +kernel
theorem dX12_isWay_3 : decode cX12_isWay 3 = .ok (.ldc2_w 53, 3) := by decide +kernel
theorem dX12_isWay_6 : decode cX12_isWay 6 = .ok (.invokestatic 49, 3) := by decide +kernel
theorem dX12_isWay_9 : decode cX12_isWay 9 = .ok (.ireturn, 1) := by decide +kernel
set_option maxHeartbeats 4000000 in
set_option maxRecDepth 100000 in
theorem m_isWay (l : Launch) (dC : Nat → ClassId) (dI : Nat → Nat → Nat) (na : Int32) : Met l yX12_isWay wsX12_isWay ({ frames := 1, cells := 0, slots := 0, locals := 25 }) (va_Pc [.int na] (fun _ => True)) (vp_Si (fun r => r = if 0 ≤ na ∧ na ≤ 5 then 1 else 0)) 0 0 (fun _ => False) := by
  refine Met.ofW (cc := cX12_isWay) (maxL := 1) (ret := (some .boolean)) (by decide) rfl ?_
  intro p e s m args below meth c s₁ B hml hv
  obtain ⟨rfl, -⟩ := hv
  have hx := B.exec
  have hb := B.bytes
  have hr := B.returns
  have hts := atoms_spec (ws := wsX12_isWay) B.pre
  have hown : s.vm.findClass RX12 = some m.cls := findClass_of_methodNamed B.named
  have hlocks := B.notSynchronized
  have hl := lv_entry ([.int na]) (n := 1) (Nat.le_of_ble_eq_true rfl)
  rw [lg_entry_eq]
  generalize (lg_sl ([.int na]) ++ List.replicate (1 - (lg_sl ([.int na])).length) Slot.unset).toArray = ls at hl ⊢
  have hl : lv_has ls 1 [(0, .int na)] := hl
  refine lv_iload_n hx hb dX12_isWay_0 rfl (lv_at hl 0 rfl) ?_
  refine lv_i2l (v := na.toInt64) hx hb dX12_isWay_1 rfl ?_
  refine lv_lconst (v := 0) hx hb dX12_isWay_2 (by decide) ?_
  refine lv_ldc2 hx hb hown (hts (.constantLong RX12 53 (5)) (by decide +kernel)) dX12_isWay_3 ?_
  refine vp_callSi (va_Run.run (va_runS (As := [.long na.toInt64, .long 0, .long 5]) (rest := []) ⟨hx, hb, hml, hown, hts⟩ (m_in l dC dI na.toInt64 0 5) (va_cwS 3 hts gX12_isWay_X12_in rfl rfl rfl (by decide +kernel) ⟨Nat.le_of_ble_eq_true rfl, Nat.le_of_ble_eq_true rfl⟩) ⟨fun a U g mk q => ⟨q.1, trivial⟩, fun U hU hW => ⟨rfl, trivial⟩⟩ rfl rfl hl.1 rfl (lv_room (Nat.le_of_ble_eq_true rfl)) dX12_isWay_6 ⟨Nat.le_of_ble_eq_true rfl, Nat.le_of_ble_eq_true rfl⟩)) (fun r_1 hw_2 => ?_)
  by_cases hc_3 : 0 ≤ na ∧ na ≤ 5
  · obtain rfl : 1 = r_1 := (hw_2.trans (if_pos ((tz_in64 (by first | rfl | decide) rfl (by first | rfl | decide)).mpr hc_3))).symm
    exact W.zret (v := 1) hx hb hr (by decide) (fun t ht hW => ⟨1, rfl, (if_pos hc_3).symm, ht⟩) (fun _ h => absurd h List.not_mem_nil) dX12_isWay_9
  · obtain rfl : 0 = r_1 := (hw_2.trans (if_neg (fun z => hc_3 ((tz_in64 (by first | rfl | decide) rfl (by first | rfl | decide)).mp z)))).symm
    exact W.zret (v := 0) hx hb hr (by decide) (fun t ht hW => ⟨0, rfl, (if_neg hc_3).symm, ht⟩) (fun _ h => absurd h List.not_mem_nil) dX12_isWay_9
set_option maxRecDepth 20000 in
theorem ggX12_isOff_X12_in : GoodIn wsX12_isOff wsX12_in := goodIn_r _ [6] (by decide +kernel) (by decide +kernel)
set_option maxRecDepth 20000 in
theorem gX12_isOff_X12_in : GoodIn wsX12_isOff (va_wsS RX12 49 yX12_in wsX12_in) := goodIn_app (goodIn_of _ (by decide +kernel)) ggX12_isOff_X12_in
theorem dX12_isOff_0 : decode cX12_isOff 0 = .ok (.iload_n 0, 1) := by decide +kernel
theorem dX12_isOff_1 : decode cX12_isOff 1 = .ok (.i2l, 1) := by decide +kernel
theorem dX12_isOff_2 : decode cX12_isOff 2 = .ok (.ldc2_w 208, 3) := by decide +kernel
theorem dX12_isOff_5 : decode cX12_isOff 5 = .ok (.ldc2_w 210, 3) := by decide +kernel
theorem dX12_isOff_8 : decode cX12_isOff 8 = .ok (.invokestatic 49, 3) := by decide +kernel
theorem dX12_isOff_11 : decode cX12_isOff 11 = .ok (.ireturn, 1) := by decide +kernel
set_option maxHeartbeats 4000000 in
set_option maxRecDepth 100000 in
theorem m_isOff (l : Launch) (dC : Nat → ClassId) (dI : Nat → Nat → Nat) (na : Int32) : Met l yX12_isOff wsX12_isOff ({ frames := 1, cells := 0, slots := 0, locals := 25 }) (va_Pc [.int na] (fun _ => True)) (vp_Si (fun r => r = if (-198) ≤ na ∧ na ≤ 198 then 1 else 0)) 0 0 (fun _ => False) := by
  refine Met.ofW (cc := cX12_isOff) (maxL := 1) (ret := (some .boolean)) (by decide) rfl ?_
  intro p e s m args below meth c s₁ B hml hv
  obtain ⟨rfl, -⟩ := hv
  have hx := B.exec
  have hb := B.bytes
  have hr := B.returns
  have hts := atoms_spec (ws := wsX12_isOff) B.pre
  have hown : s.vm.findClass RX12 = some m.cls := findClass_of_methodNamed B.named
  have hlocks := B.notSynchronized
  have hl := lv_entry ([.int na]) (n := 1) (Nat.le_of_ble_eq_true rfl)
  rw [lg_entry_eq]
  generalize (lg_sl ([.int na]) ++ List.replicate (1 - (lg_sl ([.int na])).length) Slot.unset).toArray = ls at hl ⊢
  have hl : lv_has ls 1 [(0, .int na)] := hl
  refine lv_iload_n hx hb dX12_isOff_0 rfl (lv_at hl 0 rfl) ?_
  refine lv_i2l (v := na.toInt64) hx hb dX12_isOff_1 rfl ?_
  refine lv_ldc2 hx hb hown (hts (.constantLong RX12 208 (-198)) (by decide +kernel)) dX12_isOff_2 ?_
  refine lv_ldc2 hx hb hown (hts (.constantLong RX12 210 (198)) (by decide +kernel)) dX12_isOff_5 ?_
  refine vp_callSi (va_Run.run (va_runS (As := [.long na.toInt64, .long (-198), .long 198]) (rest := []) ⟨hx, hb, hml, hown, hts⟩ (m_in l dC dI na.toInt64 (-198) 198) (va_cwS 3 hts gX12_isOff_X12_in rfl rfl rfl (by decide +kernel) ⟨Nat.le_of_ble_eq_true rfl, Nat.le_of_ble_eq_true rfl⟩) ⟨fun a U g mk q => ⟨q.1, trivial⟩, fun U hU hW => ⟨rfl, trivial⟩⟩ rfl rfl hl.1 rfl (lv_room (Nat.le_of_ble_eq_true rfl)) dX12_isOff_8 ⟨Nat.le_of_ble_eq_true rfl, Nat.le_of_ble_eq_true rfl⟩)) (fun r_1 hw_2 => ?_)
  by_cases hc_3 : (-198) ≤ na ∧ na ≤ 198
  · obtain rfl : 1 = r_1 := (hw_2.trans (if_pos ((tz_in64 (by first | rfl | decide) rfl (by first | rfl | decide)).mpr hc_3))).symm
    exact W.zret (v := 1) hx hb hr (by decide) (fun t ht hW => ⟨1, rfl, (if_pos hc_3).symm, ht⟩) (fun _ h => absurd h List.not_mem_nil) dX12_isOff_11
  · obtain rfl : 0 = r_1 := (hw_2.trans (if_neg (fun z => hc_3 ((tz_in64 (by first | rfl | decide) rfl (by first | rfl | decide)).mp z)))).symm
    exact W.zret (v := 0) hx hb hr (by decide) (fun t ht hW => ⟨0, rfl, (if_neg hc_3).symm, ht⟩) (fun _ h => absurd h List.not_mem_nil) dX12_isOff_11
set_option maxRecDepth 20000 in
theorem ggX12_isSmall_X12_in : GoodIn wsX12_isSmall wsX12_in := goodIn_r _ [6] (by decide +kernel) (by decide +kernel)
set_option maxRecDepth 20000 in
theorem gX12_isSmall_X12_in : GoodIn wsX12_isSmall (va_wsS RX12 49 yX12_in wsX12_in) := goodIn_app (goodIn_of _ (by decide +kernel)) ggX12_isSmall_X12_in
theorem dX12_isSmall_0 : decode cX12_isSmall 0 = .ok (.iload_n 0, 1) := by decide +kernel
theorem dX12_isSmall_1 : decode cX12_isSmall 1 = .ok (.i2l, 1) := by decide +kernel
theorem dX12_isSmall_2 : decode cX12_isSmall 2 = .ok (.ldc2_w 256, 3) := by decide +kernel
theorem dX12_isSmall_5 : decode cX12_isSmall 5 = .ok (.ldc2_w 258, 3) := by decide +kernel
theorem dX12_isSmall_8 : decode cX12_isSmall 8 = .ok (.invokestatic 49, 3) := by decide +kernel
theorem dX12_isSmall_11 : decode cX12_isSmall 11 = .ok (.ireturn, 1) := by decide +kernel
set_option maxHeartbeats 4000000 in
set_option maxRecDepth 100000 in
theorem m_isSmall (l : Launch) (dC : Nat → ClassId) (dI : Nat → Nat → Nat) (na : Int32) : Met l yX12_isSmall wsX12_isSmall ({ frames := 1, cells := 0, slots := 0, locals := 25 }) (va_Pc [.int na] (fun _ => True)) (vp_Si (fun r => r = if 97 ≤ na ∧ na ≤ 122 then 1 else 0)) 0 0 (fun _ => False) := by
  refine Met.ofW (cc := cX12_isSmall) (maxL := 1) (ret := (some .boolean)) (by decide) rfl ?_
  intro p e s m args below meth c s₁ B hml hv
  obtain ⟨rfl, -⟩ := hv
  have hx := B.exec
  have hb := B.bytes
  have hr := B.returns
  have hts := atoms_spec (ws := wsX12_isSmall) B.pre
  have hown : s.vm.findClass RX12 = some m.cls := findClass_of_methodNamed B.named
  have hlocks := B.notSynchronized
  have hl := lv_entry ([.int na]) (n := 1) (Nat.le_of_ble_eq_true rfl)
  rw [lg_entry_eq]
  generalize (lg_sl ([.int na]) ++ List.replicate (1 - (lg_sl ([.int na])).length) Slot.unset).toArray = ls at hl ⊢
  have hl : lv_has ls 1 [(0, .int na)] := hl
  refine lv_iload_n hx hb dX12_isSmall_0 rfl (lv_at hl 0 rfl) ?_
  refine lv_i2l (v := na.toInt64) hx hb dX12_isSmall_1 rfl ?_
  refine lv_ldc2 hx hb hown (hts (.constantLong RX12 256 (97)) (by decide +kernel)) dX12_isSmall_2 ?_
  refine lv_ldc2 hx hb hown (hts (.constantLong RX12 258 (122)) (by decide +kernel)) dX12_isSmall_5 ?_
  refine vp_callSi (va_Run.run (va_runS (As := [.long na.toInt64, .long 97, .long 122]) (rest := []) ⟨hx, hb, hml, hown, hts⟩ (m_in l dC dI na.toInt64 97 122) (va_cwS 3 hts gX12_isSmall_X12_in rfl rfl rfl (by decide +kernel) ⟨Nat.le_of_ble_eq_true rfl, Nat.le_of_ble_eq_true rfl⟩) ⟨fun a U g mk q => ⟨q.1, trivial⟩, fun U hU hW => ⟨rfl, trivial⟩⟩ rfl rfl hl.1 rfl (lv_room (Nat.le_of_ble_eq_true rfl)) dX12_isSmall_8 ⟨Nat.le_of_ble_eq_true rfl, Nat.le_of_ble_eq_true rfl⟩)) (fun r_1 hw_2 => ?_)
  by_cases hc_3 : 97 ≤ na ∧ na ≤ 122
  · obtain rfl : 1 = r_1 := (hw_2.trans (if_pos ((tz_in64 (by first | rfl | decide) rfl (by first | rfl | decide)).mpr hc_3))).symm
    exact W.zret (v := 1) hx hb hr (by decide) (fun t ht hW => ⟨1, rfl, (if_pos hc_3).symm, ht⟩) (fun _ h => absurd h List.not_mem_nil) dX12_isSmall_11
  · obtain rfl : 0 = r_1 := (hw_2.trans (if_neg (fun z => hc_3 ((tz_in64 (by first | rfl | decide) rfl (by first | rfl | decide)).mp z)))).symm
    exact W.zret (v := 0) hx hb hr (by decide) (fun t ht hW => ⟨0, rfl, (if_neg hc_3).symm, ht⟩) (fun _ h => absurd h List.not_mem_nil) dX12_isSmall_11
set_option maxRecDepth 20000 in
theorem ggX12_isFigure_X12_in : GoodIn wsX12_isFigure wsX12_in := goodIn_r _ [6] (by decide +kernel) (by decide +kernel)
set_option maxRecDepth 20000 in
theorem gX12_isFigure_X12_in : GoodIn wsX12_isFigure (va_wsS RX12 49 yX12_in wsX12_in) := goodIn_app (goodIn_of _ (by decide +kernel)) ggX12_isFigure_X12_in
theorem dX12_isFigure_0 : decode cX12_isFigure 0 = .ok (.iload_n 0, 1) := by decide +kernel
theorem dX12_isFigure_1 : decode cX12_isFigure 1 = .ok (.i2l, 1) := by decide +kernel
theorem dX12_isFigure_2 : decode cX12_isFigure 2 = .ok (.ldc2_w 260, 3) := by decide +kernel
theorem dX12_isFigure_5 : decode cX12_isFigure 5 = .ok (.ldc2_w 262, 3) := by decide +kernel
theorem dX12_isFigure_8 : decode cX12_isFigure 8 = .ok (.invokestatic 49, 3) := by decide +kernel
theorem dX12_isFigure_11 : decode cX12_isFigure 11 = .ok (.ireturn, 1) := by decide +kernel
set_option maxHeartbeats 4000000 in
set_option maxRecDepth 100000 in
theorem m_isFigure (l : Launch) (dC : Nat → ClassId) (dI : Nat → Nat → Nat) (na : Int32) : Met l yX12_isFigure wsX12_isFigure ({ frames := 1, cells := 0, slots := 0, locals := 25 }) (va_Pc [.int na] (fun _ => True)) (vp_Si (fun r => r = if 48 ≤ na ∧ na ≤ 57 then 1 else 0)) 0 0 (fun _ => False) := by
  refine Met.ofW (cc := cX12_isFigure) (maxL := 1) (ret := (some .boolean)) (by decide) rfl ?_
  intro p e s m args below meth c s₁ B hml hv
  obtain ⟨rfl, -⟩ := hv
  have hx := B.exec
  have hb := B.bytes
  have hr := B.returns
  have hts := atoms_spec (ws := wsX12_isFigure) B.pre
  have hown : s.vm.findClass RX12 = some m.cls := findClass_of_methodNamed B.named
  have hlocks := B.notSynchronized
  have hl := lv_entry ([.int na]) (n := 1) (Nat.le_of_ble_eq_true rfl)
  rw [lg_entry_eq]
  generalize (lg_sl ([.int na]) ++ List.replicate (1 - (lg_sl ([.int na])).length) Slot.unset).toArray = ls at hl ⊢
  have hl : lv_has ls 1 [(0, .int na)] := hl
  refine lv_iload_n hx hb dX12_isFigure_0 rfl (lv_at hl 0 rfl) ?_
  refine lv_i2l (v := na.toInt64) hx hb dX12_isFigure_1 rfl ?_
  refine lv_ldc2 hx hb hown (hts (.constantLong RX12 260 (48)) (by decide +kernel)) dX12_isFigure_2 ?_
  refine lv_ldc2 hx hb hown (hts (.constantLong RX12 262 (57)) (by decide +kernel)) dX12_isFigure_5 ?_
  refine vp_callSi (va_Run.run (va_runS (As := [.long na.toInt64, .long 48, .long 57]) (rest := []) ⟨hx, hb, hml, hown, hts⟩ (m_in l dC dI na.toInt64 48 57) (va_cwS 3 hts gX12_isFigure_X12_in rfl rfl rfl (by decide +kernel) ⟨Nat.le_of_ble_eq_true rfl, Nat.le_of_ble_eq_true rfl⟩) ⟨fun a U g mk q => ⟨q.1, trivial⟩, fun U hU hW => ⟨rfl, trivial⟩⟩ rfl rfl hl.1 rfl (lv_room (Nat.le_of_ble_eq_true rfl)) dX12_isFigure_8 ⟨Nat.le_of_ble_eq_true rfl, Nat.le_of_ble_eq_true rfl⟩)) (fun r_1 hw_2 => ?_)
  by_cases hc_3 : 48 ≤ na ∧ na ≤ 57
  · obtain rfl : 1 = r_1 := (hw_2.trans (if_pos ((tz_in64 (by first | rfl | decide) rfl (by first | rfl | decide)).mpr hc_3))).symm
    exact W.zret (v := 1) hx hb hr (by decide) (fun t ht hW => ⟨1, rfl, (if_pos hc_3).symm, ht⟩) (fun _ h => absurd h List.not_mem_nil) dX12_isFigure_11
  · obtain rfl : 0 = r_1 := (hw_2.trans (if_neg (fun z => hc_3 ((tz_in64 (by first | rfl | decide) rfl (by first | rfl | decide)).mp z)))).symm
    exact W.zret (v := 0) hx hb hr (by decide) (fun t ht hW => ⟨0, rfl, (if_neg hc_3).symm, ht⟩) (fun _ h => absurd h List.not_mem_nil) dX12_isFigure_11
theorem dX12_begin_0 : decode cX12_begin 0 = .ok (.iconst 0, 1) := by decide +kernel
theorem dX12_begin_1 : decode cX12_begin 1 = .ok (.istore_n 1, 1) := by decide +kernel
theorem dX12_begin_2 : decode cX12_begin 2 = .ok (.iload_n 1, 1) := by decide +kernel
theorem dX12_begin_3 : decode cX12_begin 3 = .ok (.bipush 86, 2) := by decide +kernel
theorem dX12_begin_5 : decode cX12_begin 5 = .ok (.if_icmp .ge 13, 3) := by decide +kernel
theorem dX12_begin_8 : decode cX12_begin 8 = .ok (.aload_n 0, 1) := by decide +kernel
theorem dX12_begin_9 : decode cX12_begin 9 = .ok (.iload_n 1, 1) := by decide +kernel
theorem dX12_begin_10 : decode cX12_begin 10 = .ok (.iconst 0, 1) := by decide +kernel
theorem dX12_begin_11 : decode cX12_begin 11 = .ok (.iastore, 1) := by decide +kernel
theorem dX12_begin_12 : decode cX12_begin 12 = .ok (.iinc 1 1, 3) := by decide +kernel
theorem dX12_begin_15 : decode cX12_begin 15 = .ok (.goto (-13), 3) := by decide +kernel
theorem dX12_begin_18 : decode cX12_begin 18 = .ok (.return_, 1) := by decide +kernel
set_option maxHeartbeats 4000000 in
set_option maxRecDepth 100000 in
theorem m_begin_350 (l : Launch) (dC : Nat → ClassId) (dI : Nat → Nat → Nat) (ta : Nat) (ca : ClassId) (ff : Nat → Int32) (sz : Nat) (hO : tz_OK 350 ff) : Met l yX12_begin wsX12_begin ({ frames := 0, cells := 0, slots := 0, locals := 0 }) (va_Pc [.ref ta] (fun U => U.heap.size = sz ∧ va_P (dC, dI) vwCl [(ta, .inl (ca, 350, .inl ff))] U.heap ∧ va_K (dC, dI) vwCl [(ca, .int)] U ∧ va_D (fun _ => True) [(ta, .inl (ca, 350, .inl ff))])) (va_Qv (fun (_ : Unit) => True) (fun _ t => ∃ (gf : Nat → Int32), (tz_OK 350 gf) ∧ va_P (dC, dI) vwCl [(ta, .inl (ca, 350, .inl gf))] t.heap ∧ va_K (dC, dI) vwCl [(ca, .int)] t ∧ va_D (va_A [(ta, .inl (ca, 350, .inl ff))] sz) [(ta, .inl (ca, 350, .inl gf))]) (va_A [(ta, .inl (ca, 350, .inl ff))] sz)) 0 0 (va_A [(ta, .inl (ca, 350, .inl ff))] sz) := by
  refine Met.ofW (cc := cX12_begin) (maxL := 2) (ret := none) (by decide) rfl ?_
  intro p e s m args below meth c s₁ B hml hv
  obtain ⟨rfl, hsz, hP, hK, hD0⟩ := hv
  have hx := B.exec
  have hb := B.bytes
  have hr := B.returns
  have hts := atoms_spec (ws := wsX12_begin) B.pre
  have hown : s.vm.findClass RX12 = some m.cls := findClass_of_methodNamed B.named
  have hlocks := B.notSynchronized
  subst hsz
  have hD := hD0.self (sz := s.heap.size)
  generalize hAe : va_A [(ta, .inl (ca, 350, .inl ff))] s.heap.size = A at hD ⊢
  have hA : ∀ q : Nat, s.heap.size ≤ q → A q := fun q h => by rw [← hAe]; exact Or.inr h
  have hS : va_S A s.heap s.heap [] := va_S.rf
  have hP : va_P (dC, dI) vwCl [(ta, .inl (ca, 350, .inl ff))] s.heap := hP
  have hl := lv_entry ([.ref ta]) (n := 2) (Nat.le_of_ble_eq_true rfl)
  rw [lg_entry_eq]
  generalize (lg_sl ([.ref ta]) ++ List.replicate (2 - (lg_sl ([.ref ta])).length) Slot.unset).toArray = ls at hl ⊢
  have hl : lv_has ls 2 [(0, .ref ta)] := hl
  have hk_1 : tz_Co (fun _ => 0) ff 0 0 ff := tz_Co.rf
  refine lv_iconst (v := 0) hx hb dX12_begin_0 (by decide) ?_
  refine lv_istore_n (lv' := [(1, .int 0), (0, .ref ta)]) hx hb dX12_begin_1 rfl hl (by decide) rfl (fun ls hl => ?_)
  refine tz_while (σ := Nat × (Nat → Int32) × Heap × List Loc × Array Slot) (fun x => W p l e _ s m _ below meth c x.2.2.1 x.2.2.2.1 _ _ _ (F0 m 2 x.2.2.2.2 [])) (fun x => tz_Co (fun _ => 0) ff 0 x.1 x.2.1 ∧ x.1 ≤ 86 ∧ va_P (dC, dI) vwCl [(ta, .inl (ca, 350, .inl x.2.1))] x.2.2.1 ∧ va_D A [(ta, .inl (ca, 350, .inl x.2.1))] ∧ va_S A s.heap x.2.2.1 x.2.2.2.1 ∧ lv_has x.2.2.2.2 2 [(1, .int (nI x.1)), (0, .ref ta)]) (fun x => 86 - x.1) ?_ (0, ff, s.heap, [], ls) ⟨hk_1, by (try dsimp only); omega, hP, hD, hS, hl⟩
  rintro ⟨k_2, f_7, H, locs, ls⟩ ⟨hi_12_0, hi_13_1, hP, hD, hS, hl⟩ ih_14
  dsimp only at hi_12_0 hi_13_1 hP hD hS hl ih_14 ⊢
  refine lv_iload_n hx hb dX12_begin_2 rfl (lv_at hl 0 rfl) ?_
  refine lv_bipush (v := 86) hx hb dX12_begin_3 (by decide) ?_
  refine lv_icmp_ge (tgt := 18) hx hb dX12_begin_5 (by decide) (fun c_15 => ?_) (fun c_15 => ?_)
  · have hn_16 : 86 ≤ k_2 := (nI_leI (a := 86) (b := k_2) (by omega) (by omega)).mp c_15
    have hP9 := hP.sub (ws' := [(ta, .inl (ca, 350, .inl f_7))]) [0] rfl
    have hD9 := hD.sub (ws' := [(ta, .inl (ca, 350, .inl f_7))]) [0] (by decide) rfl
    have hK9 := hK.sub (tys' := [(ca, .int)]) [0] rfl
    exact W.vret hx hb hr (fun t ht hW => ⟨⟨(), rfl, trivial, f_7, tz_OK.z350 hO (hi_12_0.cast (by omega)), by rw [ht]; exact hP9, va_K.moved hW.alike hK9, hD9⟩, hS.F ht⟩) hS.2.2 dX12_begin_18
  · have hn_17 : ¬ 86 ≤ k_2 := fun q => c_15 ((nI_leI (a := 86) (b := k_2) (by omega) (by omega)).mpr q)
    refine lv_aload_n hx hb dX12_begin_8 rfl (lv_at hl 1 rfl) ?_
    refine lv_iload_n hx hb dX12_begin_9 rfl (lv_at hl 0 rfl) ?_
    refine lv_iconst (v := 0) hx hb dX12_begin_10 (by decide) ?_
    refine va_iast hx hb hK hP hD hS 0 0 rfl rfl (vp_in_nI (n := k_2) (N := 350) (by omega) (by decide)) dX12_begin_11 (fun H locs hP hD hS => ?_)
    have hk_19 : tz_Co (fun _ => 0) ff 0 (k_2 + 1) (upd f_7 (Int32.toNatClampNeg (nI k_2)) 0) := hi_12_0.step (by omega) (by omega) rfl
    generalize (upd f_7 (Int32.toNatClampNeg (nI k_2)) 0) = f_18 at hP hD hk_19
    have hP : va_P (dC, dI) vwCl [(ta, .inl (ca, 350, .inl f_18))] H := hP
    have hD : va_D A [(ta, .inl (ca, 350, .inl f_18))] := hD
    refine lv_iinc (v := (nI (k_2 + 1))) (lv' := [(1, .int (nI (k_2 + 1))), (0, .ref ta)]) hx hb dX12_begin_12 hl (k := 0) rfl (nI_add k_2 1) (by decide) rfl (fun ls hl => ?_)
    refine lv_goto (tgt := 2) hx hb dX12_begin_15 (by decide) ?_
    exact ih_14 ((k_2 + 1), f_18, H, locs, ls) ⟨hk_19, by dsimp only; omega, hP, hD, hS, lv_sub hl [0, 1] rfl⟩ (by dsimp only; omega)
theorem dX12_layClerk_0 : decode cX12_layClerk 0 = .ok (.aload_n 0, 1) := by decide +kernel
theorem dX12_layClerk_1 : decode cX12_layClerk 1 = .ok (.iconst 5, 1) := by decide +kernel
theorem dX12_layClerk_2 : decode cX12_layClerk 2 = .ok (.aload_n 0, 1) := by decide +kernel
theorem dX12_layClerk_3 : decode cX12_layClerk 3 = .ok (.iconst 0, 1) := by decide +kernel
theorem dX12_layClerk_4 : decode cX12_layClerk 4 = .ok (.iaload, 1) := by decide +kernel
theorem dX12_layClerk_5 : decode cX12_layClerk 5 = .ok (.iadd, 1) := by decide +kernel
theorem dX12_layClerk_6 : decode cX12_layClerk 6 = .ok (.iload_n 1, 1) := by decide +kernel
theorem dX12_layClerk_7 : decode cX12_layClerk 7 = .ok (.iastore, 1) := by decide +kernel
theorem dX12_layClerk_8 : decode cX12_layClerk 8 = .ok (.aload_n 0, 1) := by decide +kernel
theorem dX12_layClerk_9 : decode cX12_layClerk 9 = .ok (.iconst 0, 1) := by decide +kernel
theorem dX12_layClerk_10 : decode cX12_layClerk 10 = .ok (.dup2, 1) := by decide +kernel
theorem dX12_layClerk_11 : decode cX12_layClerk 11 = .ok (.iaload, 1) := by decide +kernel
theorem dX12_layClerk_12 : decode cX12_layClerk 12 = .ok (.iconst 1, 1) := by decide +kernel
theorem dX12_layClerk_13 : decode cX12_layClerk 13 = .ok (.iadd, 1) := by decide +kernel
theorem dX12_layClerk_14 : decode cX12_layClerk 14 = .ok (.iastore, 1) := by decide +kernel
theorem dX12_layClerk_15 : decode cX12_layClerk 15 = .ok (.return_, 1) := by decide +kernel
set_option maxHeartbeats 4000000 in
set_option maxRecDepth 100000 in
theorem m_layClerk_350 (l : Launch) (dC : Nat → ClassId) (dI : Nat → Nat → Nat) (ta : Nat) (ca : ClassId) (ff : Nat → Int32) (tr : Nat) (jc : Nat) (sz : Nat) (hO : tz_OK 350 ff) (htr : tr ≤ 10) (hjc : jc < 5) (e0 : ff 0 = nI jc) : Met l yX12_layClerk wsX12_layClerk ({ frames := 0, cells := 0, slots := 0, locals := 0 }) (va_Pc [.ref ta, .int (nI tr)] (fun U => U.heap.size = sz ∧ va_P (dC, dI) vwCl [(ta, .inl (ca, 350, .inl ff))] U.heap ∧ va_K (dC, dI) vwCl [(ca, .int)] U ∧ va_D (fun _ => True) [(ta, .inl (ca, 350, .inl ff))])) (va_Qv (fun (_ : Unit) => True) (fun _ t => ∃ (gf : Nat → Int32), (tz_OK 350 gf) ∧ va_P (dC, dI) vwCl [(ta, .inl (ca, 350, .inl gf))] t.heap ∧ va_K (dC, dI) vwCl [(ca, .int)] t ∧ va_D (va_A [(ta, .inl (ca, 350, .inl ff))] sz) [(ta, .inl (ca, 350, .inl gf))]) (va_A [(ta, .inl (ca, 350, .inl ff))] sz)) 0 0 (va_A [(ta, .inl (ca, 350, .inl ff))] sz) := by
  refine Met.ofW (cc := cX12_layClerk) (maxL := 2) (ret := none) (by decide) rfl ?_
  intro p e s m args below meth c s₁ B hml hv
  obtain ⟨rfl, hsz, hP, hK, hD0⟩ := hv
  have hx := B.exec
  have hb := B.bytes
  have hr := B.returns
  have hts := atoms_spec (ws := wsX12_layClerk) B.pre
  have hown : s.vm.findClass RX12 = some m.cls := findClass_of_methodNamed B.named
  have hlocks := B.notSynchronized
  subst hsz
  have hD := hD0.self (sz := s.heap.size)
  generalize hAe : va_A [(ta, .inl (ca, 350, .inl ff))] s.heap.size = A at hD ⊢
  have hA : ∀ q : Nat, s.heap.size ≤ q → A q := fun q h => by rw [← hAe]; exact Or.inr h
  have hS : va_S A s.heap s.heap [] := va_S.rf
  have hP : va_P (dC, dI) vwCl [(ta, .inl (ca, 350, .inl ff))] s.heap := hP
  have hl := lv_entry ([.ref ta, .int (nI tr)]) (n := 2) (Nat.le_of_ble_eq_true rfl)
  rw [lg_entry_eq]
  generalize (lg_sl ([.ref ta, .int (nI tr)]) ++ List.replicate (2 - (lg_sl ([.ref ta, .int (nI tr)])).length) Slot.unset).toArray = ls at hl ⊢
  have hl : lv_has ls 2 [(0, .ref ta), (1, .int (nI tr))] := hl
  refine lv_aload_n hx hb dX12_layClerk_0 rfl (lv_at hl 0 rfl) ?_
  refine lv_iconst (v := 5) hx hb dX12_layClerk_1 (by decide) ?_
  refine lv_aload_n hx hb dX12_layClerk_2 rfl (lv_at hl 0 rfl) ?_
  refine lv_iconst (v := 0) hx hb dX12_layClerk_3 (by decide) ?_
  refine va_iald hx hb hK hP 0 0 rfl rfl (show ¬ ((0 : Int32) < 0 ∨ 350 ≤ (0 : Int32).toNatClampNeg) by decide) dX12_layClerk_4 ?_
  refine tz_i (nI jc) e0 ?_
  refine lv_iadd hx hb dX12_layClerk_5 ?_
  refine tz_i (nI (5 + jc)) (nI_add 5 jc) ?_
  refine lv_iload_n hx hb dX12_layClerk_6 rfl (lv_at hl 1 rfl) ?_
  refine va_iast hx hb hK hP hD hS 0 0 rfl rfl (vp_in_nI (n := (5 + jc)) (N := 350) (by omega) (by decide)) dX12_layClerk_7 (fun H locs hP hD hS => ?_)
  have hk_2 : tz_OK 350 (upd ff (Int32.toNatClampNeg (nI (5 + jc))) (nI tr)) := hO.updc (K := (5 + jc)) (by omega) (tz_bd_nI (tz_b_tr jc (by omega)) (by omega) (by omega) (by omega)) (by omega) (fun i hi => by omega)
  have hk_3 : (upd ff (Int32.toNatClampNeg (nI (5 + jc))) (nI tr)) 0 = nI jc := tz_upd_ne (K := (5 + jc)) (by omega) (by omega) e0
  generalize (upd ff (Int32.toNatClampNeg (nI (5 + jc))) (nI tr)) = f_1 at hP hD hk_2 hk_3
  have hP : va_P (dC, dI) vwCl [(ta, .inl (ca, 350, .inl f_1))] H := hP
  have hD : va_D A [(ta, .inl (ca, 350, .inl f_1))] := hD
  refine lv_aload_n hx hb dX12_layClerk_8 rfl (lv_at hl 0 rfl) ?_
  refine lv_iconst (v := 0) hx hb dX12_layClerk_9 (by decide) ?_
  refine lv_dup2_11 hx hb dX12_layClerk_10 rfl rfl ?_
  refine va_iald hx hb hK hP 0 0 rfl rfl (show ¬ ((0 : Int32) < 0 ∨ 350 ≤ (0 : Int32).toNatClampNeg) by decide) dX12_layClerk_11 ?_
  refine tz_i (nI jc) hk_3 ?_
  refine lv_iconst (v := 1) hx hb dX12_layClerk_12 (by decide) ?_
  refine lv_iadd hx hb dX12_layClerk_13 ?_
  refine tz_i (nI (jc + 1)) (nI_add jc 1) ?_
  refine va_iast hx hb hK hP hD hS 0 0 rfl rfl (show ¬ ((0 : Int32) < 0 ∨ 350 ≤ (0 : Int32).toNatClampNeg) by decide) dX12_layClerk_14 (fun H locs hP hD hS => ?_)
  have hk_5 : tz_OK 350 (upd f_1 (Int32.toNatClampNeg 0) (nI (jc + 1))) := hk_2.updc (K := 0) (by omega) (tz_bd_nI (show tz_b 0 = (0, 5) from by decide) (by omega) (by omega) (by omega)) (by omega) (fun i hi => by omega)
  have hk_6 : (upd f_1 (Int32.toNatClampNeg 0) (nI (jc + 1))) 0 = nI (jc + 1) := tz_upd_eq (K := 0) (by omega)
  generalize (upd f_1 (Int32.toNatClampNeg 0) (nI (jc + 1))) = f_4 at hP hD hk_5 hk_6
  have hP : va_P (dC, dI) vwCl [(ta, .inl (ca, 350, .inl f_4))] H := hP
  have hD : va_D A [(ta, .inl (ca, 350, .inl f_4))] := hD
  have hP9 := hP.sub (ws' := [(ta, .inl (ca, 350, .inl f_4))]) [0] rfl
  have hD9 := hD.sub (ws' := [(ta, .inl (ca, 350, .inl f_4))]) [0] (by decide) rfl
  have hK9 := hK.sub (tys' := [(ca, .int)]) [0] rfl
  exact W.vret hx hb hr (fun t ht hW => ⟨⟨(), rfl, trivial, f_4, hk_5, by rw [ht]; exact hP9, va_K.moved hW.alike hK9, hD9⟩, hS.F ht⟩) hS.2.2 dX12_layClerk_15
theorem dX12_layBundle_0 : decode cX12_layBundle 0 = .ok (.bipush 10, 2) := by decide +kernel
theorem dX12_layBundle_2 : decode cX12_layBundle 2 = .ok (.iconst 4, 1) := by decide +kernel
theorem dX12_layBundle_3 : decode cX12_layBundle 3 = .ok (.aload_n 0, 1) := by decide +kernel
theorem dX12_layBundle_4 : decode cX12_layBundle 4 = .ok (.iconst 1, 1) := by decide +kernel
theorem dX12_layBundle_5 : decode cX12_layBundle 5 = .ok (.iaload, 1) := by decide +kernel
theorem dX12_layBundle_6 : decode cX12_layBundle 6 = .ok (.imul, 1) := by decide +kernel
theorem dX12_layBundle_7 : decode cX12_layBundle 7 = .ok (.iadd, 1) := by decide +kernel
theorem dX12_layBundle_8 : decode cX12_layBundle 8 = .ok (.istore_n 3, 1) := by decide +kernel
theorem dX12_layBundle_9 : decode cX12_layBundle 9 = .ok (.aload_n 0, 1) := by decide +kernel
theorem dX12_layBundle_10 : decode cX12_layBundle 10 = .ok (.iload_n 3, 1) := by decide +kernel
theorem dX12_layBundle_11 : decode cX12_layBundle 11 = .ok (.iconst 0, 1) := by decide +kernel
theorem dX12_layBundle_12 : decode cX12_layBundle 12 = .ok (.iadd, 1) := by decide +kernel
theorem dX12_layBundle_13 : decode cX12_layBundle 13 = .ok (.iload_n 1, 1) := by decide +kernel
theorem dX12_layBundle_14 : decode cX12_layBundle 14 = .ok (.iastore, 1) := by decide +kernel
theorem dX12_layBundle_15 : decode cX12_layBundle 15 = .ok (.aload_n 0, 1) := by decide +kernel
theorem dX12_layBundle_16 : decode cX12_layBundle 16 = .ok (.iload_n 3, 1) := by decide +kernel
theorem dX12_layBundle_17 : decode cX12_layBundle 17 = .ok (.iconst 1, 1) := by decide +kernel
theorem dX12_layBundle_18 : decode cX12_layBundle 18 = .ok (.iadd, 1) := by decide +kernel
theorem dX12_layBundle_19 : decode cX12_layBundle 19 = .ok (.iload_n 2, 1) := by decide +kernel
theorem dX12_layBundle_20 : decode cX12_layBundle 20 = .ok (.iastore, 1) := by decide +kernel
theorem dX12_layBundle_21 : decode cX12_layBundle 21 = .ok (.aload_n 0, 1) := by decide +kernel
theorem dX12_layBundle_22 : decode cX12_layBundle 22 = .ok (.iload_n 3, 1) := by decide +kernel
theorem dX12_layBundle_23 : decode cX12_layBundle 23 = .ok (.iconst 2, 1) := by decide +kernel
theorem dX12_layBundle_24 : decode cX12_layBundle 24 = .ok (.iadd, 1) := by decide +kernel
theorem dX12_layBundle_25 : decode cX12_layBundle 25 = .ok (.iconst (-1), 1) := by decide +kernel
theorem dX12_layBundle_26 : decode cX12_layBundle 26 = .ok (.iastore, 1) := by decide +kernel
theorem dX12_layBundle_27 : decode cX12_layBundle 27 = .ok (.aload_n 0, 1) := by decide +kernel
theorem dX12_layBundle_28 : decode cX12_layBundle 28 = .ok (.iload_n 3, 1) := by decide +kernel
theorem dX12_layBundle_29 : decode cX12_layBundle 29 = .ok (.iconst 3, 1) := by decide +kernel
theorem dX12_layBundle_30 : decode cX12_layBundle 30 = .ok (.iadd, 1) := by decide +kernel
theorem dX12_layBundle_31 : decode cX12_layBundle 31 = .ok (.iconst (-1), 1) := by decide +kernel
theorem dX12_layBundle_32 : decode cX12_layBundle 32 = .ok (.iastore, 1) := by decide +kernel
theorem dX12_layBundle_33 : decode cX12_layBundle 33 = .ok (.aload_n 0, 1) := by decide +kernel
theorem dX12_layBundle_34 : decode cX12_layBundle 34 = .ok (.iconst 1, 1) := by decide +kernel
theorem dX12_layBundle_35 : decode cX12_layBundle 35 = .ok (.dup2, 1) := by decide +kernel
theorem dX12_layBundle_36 : decode cX12_layBundle 36 = .ok (.iaload, 1) := by decide +kernel
theorem dX12_layBundle_37 : decode cX12_layBundle 37 = .ok (.iconst 1, 1) := by decide +kernel
theorem dX12_layBundle_38 : decode cX12_layBundle 38 = .ok (.iadd, 1) := by decide +kernel
theorem dX12_layBundle_39 : decode cX12_layBundle 39 = .ok (.iastore, 1) := by decide +kernel
theorem dX12_layBundle_40 : decode cX12_layBundle 40 = .ok (.return_, 1) := by decide +kernel
set_option maxHeartbeats 4000000 in
set_option maxRecDepth 100000 in
theorem m_layBundle_350 (l : Launch) (dC : Nat → ClassId) (dI : Nat → Nat → Nat) (ta : Nat) (ca : ClassId) (ff : Nat → Int32) (jl : Nat) (jh : Nat) (jc : Nat) (sz : Nat) (hO : tz_OK 350 ff) (hjl : jl ≤ 110) (hjh : jh ≤ 110) (hjc : jc < 5) (e0 : ff 1 = nI jc) : Met l yX12_layBundle wsX12_layBundle ({ frames := 0, cells := 0, slots := 0, locals := 0 }) (va_Pc [.ref ta, .int (nI jl), .int (nI jh)] (fun U => U.heap.size = sz ∧ va_P (dC, dI) vwCl [(ta, .inl (ca, 350, .inl ff))] U.heap ∧ va_K (dC, dI) vwCl [(ca, .int)] U ∧ va_D (fun _ => True) [(ta, .inl (ca, 350, .inl ff))])) (va_Qv (fun (_ : Unit) => True) (fun _ t => ∃ (gf : Nat → Int32), (tz_OK 350 gf) ∧ va_P (dC, dI) vwCl [(ta, .inl (ca, 350, .inl gf))] t.heap ∧ va_K (dC, dI) vwCl [(ca, .int)] t ∧ va_D (va_A [(ta, .inl (ca, 350, .inl ff))] sz) [(ta, .inl (ca, 350, .inl gf))]) (va_A [(ta, .inl (ca, 350, .inl ff))] sz)) 0 0 (va_A [(ta, .inl (ca, 350, .inl ff))] sz) := by
  refine Met.ofW (cc := cX12_layBundle) (maxL := 4) (ret := none) (by decide) rfl ?_
  intro p e s m args below meth c s₁ B hml hv
  obtain ⟨rfl, hsz, hP, hK, hD0⟩ := hv
  have hx := B.exec
  have hb := B.bytes
  have hr := B.returns
  have hts := atoms_spec (ws := wsX12_layBundle) B.pre
  have hown : s.vm.findClass RX12 = some m.cls := findClass_of_methodNamed B.named
  have hlocks := B.notSynchronized
  subst hsz
  have hD := hD0.self (sz := s.heap.size)
  generalize hAe : va_A [(ta, .inl (ca, 350, .inl ff))] s.heap.size = A at hD ⊢
  have hA : ∀ q : Nat, s.heap.size ≤ q → A q := fun q h => by rw [← hAe]; exact Or.inr h
  have hS : va_S A s.heap s.heap [] := va_S.rf
  have hP : va_P (dC, dI) vwCl [(ta, .inl (ca, 350, .inl ff))] s.heap := hP
  have hl := lv_entry ([.ref ta, .int (nI jl), .int (nI jh)]) (n := 4) (Nat.le_of_ble_eq_true rfl)
  rw [lg_entry_eq]
  generalize (lg_sl ([.ref ta, .int (nI jl), .int (nI jh)]) ++ List.replicate (4 - (lg_sl ([.ref ta, .int (nI jl), .int (nI jh)])).length) Slot.unset).toArray = ls at hl ⊢
  have hl : lv_has ls 4 [(0, .ref ta), (1, .int (nI jl)), (2, .int (nI jh))] := hl
  refine lv_bipush (v := 10) hx hb dX12_layBundle_0 (by decide) ?_
  refine lv_iconst (v := 4) hx hb dX12_layBundle_2 (by decide) ?_
  refine lv_aload_n hx hb dX12_layBundle_3 rfl (lv_at hl 0 rfl) ?_
  refine lv_iconst (v := 1) hx hb dX12_layBundle_4 (by decide) ?_
  refine va_iald hx hb hK hP 0 0 rfl rfl (show ¬ ((1 : Int32) < 0 ∨ 350 ≤ (1 : Int32).toNatClampNeg) by decide) dX12_layBundle_5 ?_
  refine tz_i (nI jc) e0 ?_
  refine lv_imul hx hb dX12_layBundle_6 ?_
  refine tz_i (nI (4 * jc)) (pk_mul 4 jc) ?_
  refine lv_iadd hx hb dX12_layBundle_7 ?_
  refine tz_i (nI (10 + (4 * jc))) (nI_add 10 (4 * jc)) ?_
  refine lv_istore_n (lv' := [(3, .int (nI (10 + (4 * jc)))), (0, .ref ta), (1, .int (nI jl)), (2, .int (nI jh))]) hx hb dX12_layBundle_8 rfl hl (by decide) rfl (fun ls hl => ?_)
  refine lv_aload_n hx hb dX12_layBundle_9 rfl (lv_at hl 1 rfl) ?_
  refine lv_iload_n hx hb dX12_layBundle_10 rfl (lv_at hl 0 rfl) ?_
  refine lv_iconst (v := 0) hx hb dX12_layBundle_11 (by decide) ?_
  refine lv_iadd hx hb dX12_layBundle_12 ?_
  refine tz_i (nI ((10 + (4 * jc)) + 0)) (nI_add (10 + (4 * jc)) 0) ?_
  refine lv_iload_n hx hb dX12_layBundle_13 rfl (lv_at hl 2 rfl) ?_
  refine va_iast hx hb hK hP hD hS 0 0 rfl rfl (vp_in_nI (n := ((10 + (4 * jc)) + 0)) (N := 350) (by omega) (by decide)) dX12_layBundle_14 (fun H locs hP hD hS => ?_)
  have hk_2 : tz_OK 350 (upd ff (Int32.toNatClampNeg (nI ((10 + (4 * jc)) + 0))) (nI jl)) := hO.updc (K := ((10 + (4 * jc)) + 0)) (by omega) (tz_bd_nI (tz_b_lo jc (by omega)) (by omega) (by omega) (by omega)) (by omega) (fun i hi => by omega)
  have hk_3 : (upd ff (Int32.toNatClampNeg (nI ((10 + (4 * jc)) + 0))) (nI jl)) 1 = nI jc := tz_upd_ne (K := ((10 + (4 * jc)) + 0)) (by omega) (by omega) e0
  generalize (upd ff (Int32.toNatClampNeg (nI ((10 + (4 * jc)) + 0))) (nI jl)) = f_1 at hP hD hk_2 hk_3
  have hP : va_P (dC, dI) vwCl [(ta, .inl (ca, 350, .inl f_1))] H := hP
  have hD : va_D A [(ta, .inl (ca, 350, .inl f_1))] := hD
  refine lv_aload_n hx hb dX12_layBundle_15 rfl (lv_at hl 1 rfl) ?_
  refine lv_iload_n hx hb dX12_layBundle_16 rfl (lv_at hl 0 rfl) ?_
  refine lv_iconst (v := 1) hx hb dX12_layBundle_17 (by decide) ?_
  refine lv_iadd hx hb dX12_layBundle_18 ?_
  refine tz_i (nI ((10 + (4 * jc)) + 1)) (nI_add (10 + (4 * jc)) 1) ?_
  refine lv_iload_n hx hb dX12_layBundle_19 rfl (lv_at hl 3 rfl) ?_
  refine va_iast hx hb hK hP hD hS 0 0 rfl rfl (vp_in_nI (n := ((10 + (4 * jc)) + 1)) (N := 350) (by omega) (by decide)) dX12_layBundle_20 (fun H locs hP hD hS => ?_)
  have hk_5 : tz_OK 350 (upd f_1 (Int32.toNatClampNeg (nI ((10 + (4 * jc)) + 1))) (nI jh)) := hk_2.updc (K := ((10 + (4 * jc)) + 1)) (by omega) (tz_bd_nI (tz_b_hi jc (by omega)) (by omega) (by omega) (by omega)) (by omega) (fun i hi => by omega)
  have hk_6 : (upd f_1 (Int32.toNatClampNeg (nI ((10 + (4 * jc)) + 1))) (nI jh)) 1 = nI jc := tz_upd_ne (K := ((10 + (4 * jc)) + 1)) (by omega) (by omega) hk_3
  generalize (upd f_1 (Int32.toNatClampNeg (nI ((10 + (4 * jc)) + 1))) (nI jh)) = f_4 at hP hD hk_5 hk_6
  have hP : va_P (dC, dI) vwCl [(ta, .inl (ca, 350, .inl f_4))] H := hP
  have hD : va_D A [(ta, .inl (ca, 350, .inl f_4))] := hD
  refine lv_aload_n hx hb dX12_layBundle_21 rfl (lv_at hl 1 rfl) ?_
  refine lv_iload_n hx hb dX12_layBundle_22 rfl (lv_at hl 0 rfl) ?_
  refine lv_iconst (v := 2) hx hb dX12_layBundle_23 (by decide) ?_
  refine lv_iadd hx hb dX12_layBundle_24 ?_
  refine tz_i (nI ((10 + (4 * jc)) + 2)) (nI_add (10 + (4 * jc)) 2) ?_
  refine lv_iconst (v := (-1)) hx hb dX12_layBundle_25 (by decide) ?_
  refine va_iast hx hb hK hP hD hS 0 0 rfl rfl (vp_in_nI (n := ((10 + (4 * jc)) + 2)) (N := 350) (by omega) (by decide)) dX12_layBundle_26 (fun H locs hP hD hS => ?_)
  have hk_8 : tz_OK 350 (upd f_4 (Int32.toNatClampNeg (nI ((10 + (4 * jc)) + 2))) (-1)) := hk_5.updc (K := ((10 + (4 * jc)) + 2)) (by omega) (tz_bd_any _ (tz_b_sa jc (by omega))) (by omega) (fun i hi => by omega)
  have hk_9 : (upd f_4 (Int32.toNatClampNeg (nI ((10 + (4 * jc)) + 2))) (-1)) 1 = nI jc := tz_upd_ne (K := ((10 + (4 * jc)) + 2)) (by omega) (by omega) hk_6
  generalize (upd f_4 (Int32.toNatClampNeg (nI ((10 + (4 * jc)) + 2))) (-1)) = f_7 at hP hD hk_8 hk_9
  have hP : va_P (dC, dI) vwCl [(ta, .inl (ca, 350, .inl f_7))] H := hP
  have hD : va_D A [(ta, .inl (ca, 350, .inl f_7))] := hD
  refine lv_aload_n hx hb dX12_layBundle_27 rfl (lv_at hl 1 rfl) ?_
  refine lv_iload_n hx hb dX12_layBundle_28 rfl (lv_at hl 0 rfl) ?_
  refine lv_iconst (v := 3) hx hb dX12_layBundle_29 (by decide) ?_
  refine lv_iadd hx hb dX12_layBundle_30 ?_
  refine tz_i (nI ((10 + (4 * jc)) + 3)) (nI_add (10 + (4 * jc)) 3) ?_
  refine lv_iconst (v := (-1)) hx hb dX12_layBundle_31 (by decide) ?_
  refine va_iast hx hb hK hP hD hS 0 0 rfl rfl (vp_in_nI (n := ((10 + (4 * jc)) + 3)) (N := 350) (by omega) (by decide)) dX12_layBundle_32 (fun H locs hP hD hS => ?_)
  have hk_11 : tz_OK 350 (upd f_7 (Int32.toNatClampNeg (nI ((10 + (4 * jc)) + 3))) (-1)) := hk_8.updc (K := ((10 + (4 * jc)) + 3)) (by omega) (tz_bd_of (tz_b_si jc (by omega)) (by decide) (by decide)) (by omega) (fun i hi => by omega)
  have hk_12 : (upd f_7 (Int32.toNatClampNeg (nI ((10 + (4 * jc)) + 3))) (-1)) 1 = nI jc := tz_upd_ne (K := ((10 + (4 * jc)) + 3)) (by omega) (by omega) hk_9
  generalize (upd f_7 (Int32.toNatClampNeg (nI ((10 + (4 * jc)) + 3))) (-1)) = f_10 at hP hD hk_11 hk_12
  have hP : va_P (dC, dI) vwCl [(ta, .inl (ca, 350, .inl f_10))] H := hP
  have hD : va_D A [(ta, .inl (ca, 350, .inl f_10))] := hD
  refine lv_aload_n hx hb dX12_layBundle_33 rfl (lv_at hl 1 rfl) ?_
  refine lv_iconst (v := 1) hx hb dX12_layBundle_34 (by decide) ?_
  refine lv_dup2_11 hx hb dX12_layBundle_35 rfl rfl ?_
  refine va_iald hx hb hK hP 0 0 rfl rfl (show ¬ ((1 : Int32) < 0 ∨ 350 ≤ (1 : Int32).toNatClampNeg) by decide) dX12_layBundle_36 ?_
  refine tz_i (nI jc) hk_12 ?_
  refine lv_iconst (v := 1) hx hb dX12_layBundle_37 (by decide) ?_
  refine lv_iadd hx hb dX12_layBundle_38 ?_
  refine tz_i (nI (jc + 1)) (nI_add jc 1) ?_
  refine va_iast hx hb hK hP hD hS 0 0 rfl rfl (show ¬ ((1 : Int32) < 0 ∨ 350 ≤ (1 : Int32).toNatClampNeg) by decide) dX12_layBundle_39 (fun H locs hP hD hS => ?_)
  have hk_14 : tz_OK 350 (upd f_10 (Int32.toNatClampNeg 1) (nI (jc + 1))) := hk_11.updc (K := 1) (by omega) (tz_bd_nI (show tz_b 1 = (0, 5) from by decide) (by omega) (by omega) (by omega)) (by omega) (fun i hi => by omega)
  have hk_15 : (upd f_10 (Int32.toNatClampNeg 1) (nI (jc + 1))) 1 = nI (jc + 1) := tz_upd_eq (K := 1) (by omega)
  generalize (upd f_10 (Int32.toNatClampNeg 1) (nI (jc + 1))) = f_13 at hP hD hk_14 hk_15
  have hP : va_P (dC, dI) vwCl [(ta, .inl (ca, 350, .inl f_13))] H := hP
  have hD : va_D A [(ta, .inl (ca, 350, .inl f_13))] := hD
  have hP9 := hP.sub (ws' := [(ta, .inl (ca, 350, .inl f_13))]) [0] rfl
  have hD9 := hD.sub (ws' := [(ta, .inl (ca, 350, .inl f_13))]) [0] (by decide) rfl
  have hK9 := hK.sub (tys' := [(ca, .int)]) [0] rfl
  exact W.vret hx hb hr (fun t ht hW => ⟨⟨(), rfl, trivial, f_13, hk_14, by rw [ht]; exact hP9, va_K.moved hW.alike hK9, hD9⟩, hS.F ht⟩) hS.2.2 dX12_layBundle_40
theorem dX12_layBand_0 : decode cX12_layBand 0 = .ok (.aload_n 0, 1) := by decide +kernel
theorem dX12_layBand_1 : decode cX12_layBand 1 = .ok (.bipush 10, 2) := by decide +kernel
theorem dX12_layBand_3 : decode cX12_layBand 3 = .ok (.iconst 4, 1) := by decide +kernel
theorem dX12_layBand_4 : decode cX12_layBand 4 = .ok (.iload_n 1, 1) := by decide +kernel
theorem dX12_layBand_5 : decode cX12_layBand 5 = .ok (.imul, 1) := by decide +kernel
theorem dX12_layBand_6 : decode cX12_layBand 6 = .ok (.iadd, 1) := by decide +kernel
theorem dX12_layBand_7 : decode cX12_layBand 7 = .ok (.iconst 2, 1) := by decide +kernel
theorem dX12_layBand_8 : decode cX12_layBand 8 = .ok (.iadd, 1) := by decide +kernel
theorem dX12_layBand_9 : decode cX12_layBand 9 = .ok (.iload_n 2, 1) := by decide +kernel
theorem dX12_layBand_10 : decode cX12_layBand 10 = .ok (.iastore, 1) := by decide +kernel
theorem dX12_layBand_11 : decode cX12_layBand 11 = .ok (.aload_n 0, 1) := by decide +kernel
theorem dX12_layBand_12 : decode cX12_layBand 12 = .ok (.bipush 10, 2) := by decide +kernel
theorem dX12_layBand_14 : decode cX12_layBand 14 = .ok (.iconst 4, 1) := by decide +kernel
theorem dX12_layBand_15 : decode cX12_layBand 15 = .ok (.iload_n 1, 1) := by decide +kernel
theorem dX12_layBand_16 : decode cX12_layBand 16 = .ok (.imul, 1) := by decide +kernel
theorem dX12_layBand_17 : decode cX12_layBand 17 = .ok (.iadd, 1) := by decide +kernel
theorem dX12_layBand_18 : decode cX12_layBand 18 = .ok (.iconst 3, 1) := by decide +kernel
theorem dX12_layBand_19 : decode cX12_layBand 19 = .ok (.iadd, 1) := by decide +kernel
theorem dX12_layBand_20 : decode cX12_layBand 20 = .ok (.iload_n 3, 1) := by decide +kernel
theorem dX12_layBand_21 : decode cX12_layBand 21 = .ok (.iastore, 1) := by decide +kernel
theorem dX12_layBand_22 : decode cX12_layBand 22 = .ok (.return_, 1) := by decide +kernel
set_option maxHeartbeats 4000000 in
set_option maxRecDepth 100000 in
theorem m_layBand_350 (l : Launch) (dC : Nat → ClassId) (dI : Nat → Nat → Nat) (ta : Nat) (ca : ClassId) (ff : Nat → Int32) (jb : Nat) (nb : Int32) (jk : Nat) (sz : Nat) (hO : tz_OK 350 ff) (hjb : jb < 5) (hjk : jk < 5) : Met l yX12_layBand wsX12_layBand ({ frames := 0, cells := 0, slots := 0, locals := 0 }) (va_Pc [.ref ta, .int (nI jb), .int nb, .int (nI jk)] (fun U => U.heap.size = sz ∧ va_P (dC, dI) vwCl [(ta, .inl (ca, 350, .inl ff))] U.heap ∧ va_K (dC, dI) vwCl [(ca, .int)] U ∧ va_D (fun _ => True) [(ta, .inl (ca, 350, .inl ff))])) (va_Qv (fun (_ : Unit) => True) (fun _ t => ∃ (gf : Nat → Int32), (tz_OK 350 gf) ∧ va_P (dC, dI) vwCl [(ta, .inl (ca, 350, .inl gf))] t.heap ∧ va_K (dC, dI) vwCl [(ca, .int)] t ∧ va_D (va_A [(ta, .inl (ca, 350, .inl ff))] sz) [(ta, .inl (ca, 350, .inl gf))]) (va_A [(ta, .inl (ca, 350, .inl ff))] sz)) 0 0 (va_A [(ta, .inl (ca, 350, .inl ff))] sz) := by
  refine Met.ofW (cc := cX12_layBand) (maxL := 4) (ret := none) (by decide) rfl ?_
  intro p e s m args below meth c s₁ B hml hv
  obtain ⟨rfl, hsz, hP, hK, hD0⟩ := hv
  have hx := B.exec
  have hb := B.bytes
  have hr := B.returns
  have hts := atoms_spec (ws := wsX12_layBand) B.pre
  have hown : s.vm.findClass RX12 = some m.cls := findClass_of_methodNamed B.named
  have hlocks := B.notSynchronized
  subst hsz
  have hD := hD0.self (sz := s.heap.size)
  generalize hAe : va_A [(ta, .inl (ca, 350, .inl ff))] s.heap.size = A at hD ⊢
  have hA : ∀ q : Nat, s.heap.size ≤ q → A q := fun q h => by rw [← hAe]; exact Or.inr h
  have hS : va_S A s.heap s.heap [] := va_S.rf
  have hP : va_P (dC, dI) vwCl [(ta, .inl (ca, 350, .inl ff))] s.heap := hP
  have hl := lv_entry ([.ref ta, .int (nI jb), .int nb, .int (nI jk)]) (n := 4) (Nat.le_of_ble_eq_true rfl)
  rw [lg_entry_eq]
  generalize (lg_sl ([.ref ta, .int (nI jb), .int nb, .int (nI jk)]) ++ List.replicate (4 - (lg_sl ([.ref ta, .int (nI jb), .int nb, .int (nI jk)])).length) Slot.unset).toArray = ls at hl ⊢
  have hl : lv_has ls 4 [(0, .ref ta), (1, .int (nI jb)), (2, .int nb), (3, .int (nI jk))] := hl
  refine lv_aload_n hx hb dX12_layBand_0 rfl (lv_at hl 0 rfl) ?_
  refine lv_bipush (v := 10) hx hb dX12_layBand_1 (by decide) ?_
  refine lv_iconst (v := 4) hx hb dX12_layBand_3 (by decide) ?_
  refine lv_iload_n hx hb dX12_layBand_4 rfl (lv_at hl 1 rfl) ?_
  refine lv_imul hx hb dX12_layBand_5 ?_
  refine tz_i (nI (4 * jb)) (pk_mul 4 jb) ?_
  refine lv_iadd hx hb dX12_layBand_6 ?_
  refine tz_i (nI (10 + (4 * jb))) (nI_add 10 (4 * jb)) ?_
  refine lv_iconst (v := 2) hx hb dX12_layBand_7 (by decide) ?_
  refine lv_iadd hx hb dX12_layBand_8 ?_
  refine tz_i (nI ((10 + (4 * jb)) + 2)) (nI_add (10 + (4 * jb)) 2) ?_
  refine lv_iload_n hx hb dX12_layBand_9 rfl (lv_at hl 2 rfl) ?_
  refine va_iast hx hb hK hP hD hS 0 0 rfl rfl (vp_in_nI (n := ((10 + (4 * jb)) + 2)) (N := 350) (by omega) (by decide)) dX12_layBand_10 (fun H locs hP hD hS => ?_)
  have hk_2 : tz_OK 350 (upd ff (Int32.toNatClampNeg (nI ((10 + (4 * jb)) + 2))) nb) := hO.updc (K := ((10 + (4 * jb)) + 2)) (by omega) (tz_bd_any _ (tz_b_sa jb (by omega))) (by omega) (fun i hi => by omega)
  generalize (upd ff (Int32.toNatClampNeg (nI ((10 + (4 * jb)) + 2))) nb) = f_1 at hP hD hk_2
  have hP : va_P (dC, dI) vwCl [(ta, .inl (ca, 350, .inl f_1))] H := hP
  have hD : va_D A [(ta, .inl (ca, 350, .inl f_1))] := hD
  refine lv_aload_n hx hb dX12_layBand_11 rfl (lv_at hl 0 rfl) ?_
  refine lv_bipush (v := 10) hx hb dX12_layBand_12 (by decide) ?_
  refine lv_iconst (v := 4) hx hb dX12_layBand_14 (by decide) ?_
  refine lv_iload_n hx hb dX12_layBand_15 rfl (lv_at hl 1 rfl) ?_
  refine lv_imul hx hb dX12_layBand_16 ?_
  refine tz_i (nI (4 * jb)) (pk_mul 4 jb) ?_
  refine lv_iadd hx hb dX12_layBand_17 ?_
  refine tz_i (nI (10 + (4 * jb))) (nI_add 10 (4 * jb)) ?_
  refine lv_iconst (v := 3) hx hb dX12_layBand_18 (by decide) ?_
  refine lv_iadd hx hb dX12_layBand_19 ?_
  refine tz_i (nI ((10 + (4 * jb)) + 3)) (nI_add (10 + (4 * jb)) 3) ?_
  refine lv_iload_n hx hb dX12_layBand_20 rfl (lv_at hl 3 rfl) ?_
  refine va_iast hx hb hK hP hD hS 0 0 rfl rfl (vp_in_nI (n := ((10 + (4 * jb)) + 3)) (N := 350) (by omega) (by decide)) dX12_layBand_21 (fun H locs hP hD hS => ?_)
  have hk_4 : tz_OK 350 (upd f_1 (Int32.toNatClampNeg (nI ((10 + (4 * jb)) + 3))) (nI jk)) := hk_2.updc (K := ((10 + (4 * jb)) + 3)) (by omega) (tz_bd_nI (tz_b_si jb (by omega)) (by omega) (by omega) (by omega)) (by omega) (fun i hi => by omega)
  generalize (upd f_1 (Int32.toNatClampNeg (nI ((10 + (4 * jb)) + 3))) (nI jk)) = f_3 at hP hD hk_4
  have hP : va_P (dC, dI) vwCl [(ta, .inl (ca, 350, .inl f_3))] H := hP
  have hD : va_D A [(ta, .inl (ca, 350, .inl f_3))] := hD
  have hP9 := hP.sub (ws' := [(ta, .inl (ca, 350, .inl f_3))]) [0] rfl
  have hD9 := hD.sub (ws' := [(ta, .inl (ca, 350, .inl f_3))]) [0] (by decide) rfl
  have hK9 := hK.sub (tys' := [(ca, .int)]) [0] rfl
  exact W.vret hx hb hr (fun t ht hW => ⟨⟨(), rfl, trivial, f_3, hk_4, by rw [ht]; exact hP9, va_K.moved hW.alike hK9, hD9⟩, hS.F ht⟩) hS.2.2 dX12_layBand_22
theorem dX12_layCount_0 : decode cX12_layCount 0 = .ok (.bipush 30, 2) := by decide +kernel
theorem dX12_layCount_2 : decode cX12_layCount 2 = .ok (.iconst 4, 1) := by decide +kernel
theorem dX12_layCount_3 : decode cX12_layCount 3 = .ok (.aload_n 0, 1) := by decide +kernel
theorem dX12_layCount_4 : decode cX12_layCount 4 = .ok (.iconst 2, 1) := by decide +kernel
theorem dX12_layCount_5 : decode cX12_layCount 5 = .ok (.iaload, 1) := by decide +kernel
theorem dX12_layCount_6 : decode cX12_layCount 6 = .ok (.imul, 1) := by decide +kernel
theorem dX12_layCount_7 : decode cX12_layCount 7 = .ok (.iadd, 1) := by decide +kernel
theorem dX12_layCount_8 : decode cX12_layCount 8 = .ok (.istore 5, 2) := by decide +kernel
theorem dX12_layCount_10 : decode cX12_layCount 10 = .ok (.aload_n 0, 1) := by decide +kernel
theorem dX12_layCount_11 : decode cX12_layCount 11 = .ok (.iload 5, 2) := by decide +kernel
theorem dX12_layCount_13 : decode cX12_layCount 13 = .ok (.iconst 0, 1) := by decide +kernel
theorem dX12_layCount_14 : decode cX12_layCount 14 = .ok (.iadd, 1) := by decide +kernel
theorem dX12_layCount_15 : decode cX12_layCount 15 = .ok (.iload_n 1, 1) := by decide +kernel
theorem dX12_layCount_16 : decode cX12_layCount 16 = .ok (.iastore, 1) := by decide +kernel
theorem dX12_layCount_17 : decode cX12_layCount 17 = .ok (.aload_n 0, 1) := by decide +kernel
theorem dX12_layCount_18 : decode cX12_layCount 18 = .ok (.iload 5, 2) := by decide +kernel
theorem dX12_layCount_20 : decode cX12_layCount 20 = .ok (.iconst 1, 1) := by decide +kernel
theorem dX12_layCount_21 : decode cX12_layCount 21 = .ok (.iadd, 1) := by decide +kernel
theorem dX12_layCount_22 : decode cX12_layCount 22 = .ok (.iload_n 2, 1) := by decide +kernel
theorem dX12_layCount_23 : decode cX12_layCount 23 = .ok (.iastore, 1) := by decide +kernel
theorem dX12_layCount_24 : decode cX12_layCount 24 = .ok (.aload_n 0, 1) := by decide +kernel
theorem dX12_layCount_25 : decode cX12_layCount 25 = .ok (.iload 5, 2) := by decide +kernel
theorem dX12_layCount_27 : decode cX12_layCount 27 = .ok (.iconst 2, 1) := by decide +kernel
theorem dX12_layCount_28 : decode cX12_layCount 28 = .ok (.iadd, 1) := by decide +kernel
theorem dX12_layCount_29 : decode cX12_layCount 29 = .ok (.iload_n 3, 1) := by decide +kernel
theorem dX12_layCount_30 : decode cX12_layCount 30 = .ok (.iastore, 1) := by decide +kernel
theorem dX12_layCount_31 : decode cX12_layCount 31 = .ok (.aload_n 0, 1) := by decide +kernel
theorem dX12_layCount_32 : decode cX12_layCount 32 = .ok (.iload 5, 2) := by decide +kernel
theorem dX12_layCount_34 : decode cX12_layCount 34 = .ok (.iconst 3, 1) := by decide +kernel
theorem dX12_layCount_35 : decode cX12_layCount 35 = .ok (.iadd, 1) := by decide +kernel
theorem dX12_layCount_36 : decode cX12_layCount 36 = .ok (.iload 4, 2) := by decide +kernel
theorem dX12_layCount_38 : decode cX12_layCount 38 = .ok (.iastore, 1) := by decide +kernel
theorem dX12_layCount_39 : decode cX12_layCount 39 = .ok (.aload_n 0, 1) := by decide +kernel
theorem dX12_layCount_40 : decode cX12_layCount 40 = .ok (.iconst 2, 1) := by decide +kernel
theorem dX12_layCount_41 : decode cX12_layCount 41 = .ok (.dup2, 1) := by decide +kernel
theorem dX12_layCount_42 : decode cX12_layCount 42 = .ok (.iaload, 1) := by decide +kernel
theorem dX12_layCount_43 : decode cX12_layCount 43 = .ok (.iconst 1, 1) := by decide +kernel
theorem dX12_layCount_44 : decode cX12_layCount 44 = .ok (.iadd, 1) := by decide +kernel
theorem dX12_layCount_45 : decode cX12_layCount 45 = .ok (.iastore, 1) := by decide +kernel
theorem dX12_layCount_46 : decode cX12_layCount 46 = .ok (.return_, 1) := by decide +kernel
set_option maxHeartbeats 4000000 in
set_option maxRecDepth 100000 in
theorem m_layCount_350 (l : Launch) (dC : Nat → ClassId) (dI : Nat → Nat → Nat) (ta : Nat) (ca : ClassId) (ff : Nat → Int32) (jb : Nat) (jw : Nat) (nc : Int32) (nd : Int32) (jc : Nat) (sz : Nat) (hO : tz_OK 350 ff) (hjb : jb < 5) (hjw : jw ≤ 5) (hjc : jc < 8) (e0 : ff 2 = nI jc) : Met l yX12_layCount wsX12_layCount ({ frames := 0, cells := 0, slots := 0, locals := 0 }) (va_Pc [.ref ta, .int (nI jb), .int (nI jw), .int nc, .int nd] (fun U => U.heap.size = sz ∧ va_P (dC, dI) vwCl [(ta, .inl (ca, 350, .inl ff))] U.heap ∧ va_K (dC, dI) vwCl [(ca, .int)] U ∧ va_D (fun _ => True) [(ta, .inl (ca, 350, .inl ff))])) (va_Qv (fun (_ : Unit) => True) (fun _ t => ∃ (gf : Nat → Int32), (tz_OK 350 gf) ∧ va_P (dC, dI) vwCl [(ta, .inl (ca, 350, .inl gf))] t.heap ∧ va_K (dC, dI) vwCl [(ca, .int)] t ∧ va_D (va_A [(ta, .inl (ca, 350, .inl ff))] sz) [(ta, .inl (ca, 350, .inl gf))]) (va_A [(ta, .inl (ca, 350, .inl ff))] sz)) 0 0 (va_A [(ta, .inl (ca, 350, .inl ff))] sz) := by
  refine Met.ofW (cc := cX12_layCount) (maxL := 6) (ret := none) (by decide) rfl ?_
  intro p e s m args below meth c s₁ B hml hv
  obtain ⟨rfl, hsz, hP, hK, hD0⟩ := hv
  have hx := B.exec
  have hb := B.bytes
  have hr := B.returns
  have hts := atoms_spec (ws := wsX12_layCount) B.pre
  have hown : s.vm.findClass RX12 = some m.cls := findClass_of_methodNamed B.named
  have hlocks := B.notSynchronized
  subst hsz
  have hD := hD0.self (sz := s.heap.size)
  generalize hAe : va_A [(ta, .inl (ca, 350, .inl ff))] s.heap.size = A at hD ⊢
  have hA : ∀ q : Nat, s.heap.size ≤ q → A q := fun q h => by rw [← hAe]; exact Or.inr h
  have hS : va_S A s.heap s.heap [] := va_S.rf
  have hP : va_P (dC, dI) vwCl [(ta, .inl (ca, 350, .inl ff))] s.heap := hP
  have hl := lv_entry ([.ref ta, .int (nI jb), .int (nI jw), .int nc, .int nd]) (n := 6) (Nat.le_of_ble_eq_true rfl)
  rw [lg_entry_eq]
  generalize (lg_sl ([.ref ta, .int (nI jb), .int (nI jw), .int nc, .int nd]) ++ List.replicate (6 - (lg_sl ([.ref ta, .int (nI jb), .int (nI jw), .int nc, .int nd])).length) Slot.unset).toArray = ls at hl ⊢
  have hl : lv_has ls 6 [(0, .ref ta), (1, .int (nI jb)), (2, .int (nI jw)), (3, .int nc), (4, .int nd)] := hl
  refine lv_bipush (v := 30) hx hb dX12_layCount_0 (by decide) ?_
  refine lv_iconst (v := 4) hx hb dX12_layCount_2 (by decide) ?_
  refine lv_aload_n hx hb dX12_layCount_3 rfl (lv_at hl 0 rfl) ?_
  refine lv_iconst (v := 2) hx hb dX12_layCount_4 (by decide) ?_
  refine va_iald hx hb hK hP 0 0 rfl rfl (show ¬ ((2 : Int32) < 0 ∨ 350 ≤ (2 : Int32).toNatClampNeg) by decide) dX12_layCount_5 ?_
  refine tz_i (nI jc) e0 ?_
  refine lv_imul hx hb dX12_layCount_6 ?_
  refine tz_i (nI (4 * jc)) (pk_mul 4 jc) ?_
  refine lv_iadd hx hb dX12_layCount_7 ?_
  refine tz_i (nI (30 + (4 * jc))) (nI_add 30 (4 * jc)) ?_
  refine lv_istore (lv' := [(5, .int (nI (30 + (4 * jc)))), (0, .ref ta), (1, .int (nI jb)), (2, .int (nI jw)), (3, .int nc), (4, .int nd)]) hx hb dX12_layCount_8 hl (by decide) rfl (fun ls hl => ?_)
  refine lv_aload_n hx hb dX12_layCount_10 rfl (lv_at hl 1 rfl) ?_
  refine lv_iload hx hb dX12_layCount_11 (lv_at hl 0 rfl) ?_
  refine lv_iconst (v := 0) hx hb dX12_layCount_13 (by decide) ?_
  refine lv_iadd hx hb dX12_layCount_14 ?_
  refine tz_i (nI ((30 + (4 * jc)) + 0)) (nI_add (30 + (4 * jc)) 0) ?_
  refine lv_iload_n hx hb dX12_layCount_15 rfl (lv_at hl 2 rfl) ?_
  refine va_iast hx hb hK hP hD hS 0 0 rfl rfl (vp_in_nI (n := ((30 + (4 * jc)) + 0)) (N := 350) (by omega) (by decide)) dX12_layCount_16 (fun H locs hP hD hS => ?_)
  have hk_2 : tz_OK 350 (upd ff (Int32.toNatClampNeg (nI ((30 + (4 * jc)) + 0))) (nI jb)) := hO.updc (K := ((30 + (4 * jc)) + 0)) (by omega) (tz_bd_nI (tz_b_of jc (by omega)) (by omega) (by omega) (by omega)) (by omega) (fun i hi => by omega)
  have hk_3 : (upd ff (Int32.toNatClampNeg (nI ((30 + (4 * jc)) + 0))) (nI jb)) 2 = nI jc := tz_upd_ne (K := ((30 + (4 * jc)) + 0)) (by omega) (by omega) e0
  generalize (upd ff (Int32.toNatClampNeg (nI ((30 + (4 * jc)) + 0))) (nI jb)) = f_1 at hP hD hk_2 hk_3
  have hP : va_P (dC, dI) vwCl [(ta, .inl (ca, 350, .inl f_1))] H := hP
  have hD : va_D A [(ta, .inl (ca, 350, .inl f_1))] := hD
  refine lv_aload_n hx hb dX12_layCount_17 rfl (lv_at hl 1 rfl) ?_
  refine lv_iload hx hb dX12_layCount_18 (lv_at hl 0 rfl) ?_
  refine lv_iconst (v := 1) hx hb dX12_layCount_20 (by decide) ?_
  refine lv_iadd hx hb dX12_layCount_21 ?_
  refine tz_i (nI ((30 + (4 * jc)) + 1)) (nI_add (30 + (4 * jc)) 1) ?_
  refine lv_iload_n hx hb dX12_layCount_22 rfl (lv_at hl 3 rfl) ?_
  refine va_iast hx hb hK hP hD hS 0 0 rfl rfl (vp_in_nI (n := ((30 + (4 * jc)) + 1)) (N := 350) (by omega) (by decide)) dX12_layCount_23 (fun H locs hP hD hS => ?_)
  have hk_5 : tz_OK 350 (upd f_1 (Int32.toNatClampNeg (nI ((30 + (4 * jc)) + 1))) (nI jw)) := hk_2.updc (K := ((30 + (4 * jc)) + 1)) (by omega) (tz_bd_nI (tz_b_wy jc (by omega)) (by omega) (by omega) (by omega)) (by omega) (fun i hi => by omega)
  have hk_6 : (upd f_1 (Int32.toNatClampNeg (nI ((30 + (4 * jc)) + 1))) (nI jw)) 2 = nI jc := tz_upd_ne (K := ((30 + (4 * jc)) + 1)) (by omega) (by omega) hk_3
  generalize (upd f_1 (Int32.toNatClampNeg (nI ((30 + (4 * jc)) + 1))) (nI jw)) = f_4 at hP hD hk_5 hk_6
  have hP : va_P (dC, dI) vwCl [(ta, .inl (ca, 350, .inl f_4))] H := hP
  have hD : va_D A [(ta, .inl (ca, 350, .inl f_4))] := hD
  refine lv_aload_n hx hb dX12_layCount_24 rfl (lv_at hl 1 rfl) ?_
  refine lv_iload hx hb dX12_layCount_25 (lv_at hl 0 rfl) ?_
  refine lv_iconst (v := 2) hx hb dX12_layCount_27 (by decide) ?_
  refine lv_iadd hx hb dX12_layCount_28 ?_
  refine tz_i (nI ((30 + (4 * jc)) + 2)) (nI_add (30 + (4 * jc)) 2) ?_
  refine lv_iload_n hx hb dX12_layCount_29 rfl (lv_at hl 4 rfl) ?_
  refine va_iast hx hb hK hP hD hS 0 0 rfl rfl (vp_in_nI (n := ((30 + (4 * jc)) + 2)) (N := 350) (by omega) (by decide)) dX12_layCount_30 (fun H locs hP hD hS => ?_)
  have hk_8 : tz_OK 350 (upd f_4 (Int32.toNatClampNeg (nI ((30 + (4 * jc)) + 2))) nc) := hk_5.updc (K := ((30 + (4 * jc)) + 2)) (by omega) (tz_bd_any _ (tz_b_ck jc (by omega))) (by omega) (fun i hi => by omega)
  have hk_9 : (upd f_4 (Int32.toNatClampNeg (nI ((30 + (4 * jc)) + 2))) nc) 2 = nI jc := tz_upd_ne (K := ((30 + (4 * jc)) + 2)) (by omega) (by omega) hk_6
  generalize (upd f_4 (Int32.toNatClampNeg (nI ((30 + (4 * jc)) + 2))) nc) = f_7 at hP hD hk_8 hk_9
  have hP : va_P (dC, dI) vwCl [(ta, .inl (ca, 350, .inl f_7))] H := hP
  have hD : va_D A [(ta, .inl (ca, 350, .inl f_7))] := hD
  refine lv_aload_n hx hb dX12_layCount_31 rfl (lv_at hl 1 rfl) ?_
  refine lv_iload hx hb dX12_layCount_32 (lv_at hl 0 rfl) ?_
  refine lv_iconst (v := 3) hx hb dX12_layCount_34 (by decide) ?_
  refine lv_iadd hx hb dX12_layCount_35 ?_
  refine tz_i (nI ((30 + (4 * jc)) + 3)) (nI_add (30 + (4 * jc)) 3) ?_
  refine lv_iload hx hb dX12_layCount_36 (lv_at hl 5 rfl) ?_
  refine va_iast hx hb hK hP hD hS 0 0 rfl rfl (vp_in_nI (n := ((30 + (4 * jc)) + 3)) (N := 350) (by omega) (by decide)) dX12_layCount_38 (fun H locs hP hD hS => ?_)
  have hk_11 : tz_OK 350 (upd f_7 (Int32.toNatClampNeg (nI ((30 + (4 * jc)) + 3))) nd) := hk_8.updc (K := ((30 + (4 * jc)) + 3)) (by omega) (tz_bd_any _ (tz_b_td jc (by omega))) (by omega) (fun i hi => by omega)
  have hk_12 : (upd f_7 (Int32.toNatClampNeg (nI ((30 + (4 * jc)) + 3))) nd) 2 = nI jc := tz_upd_ne (K := ((30 + (4 * jc)) + 3)) (by omega) (by omega) hk_9
  generalize (upd f_7 (Int32.toNatClampNeg (nI ((30 + (4 * jc)) + 3))) nd) = f_10 at hP hD hk_11 hk_12
  have hP : va_P (dC, dI) vwCl [(ta, .inl (ca, 350, .inl f_10))] H := hP
  have hD : va_D A [(ta, .inl (ca, 350, .inl f_10))] := hD
  refine lv_aload_n hx hb dX12_layCount_39 rfl (lv_at hl 1 rfl) ?_
  refine lv_iconst (v := 2) hx hb dX12_layCount_40 (by decide) ?_
  refine lv_dup2_11 hx hb dX12_layCount_41 rfl rfl ?_
  refine va_iald hx hb hK hP 0 0 rfl rfl (show ¬ ((2 : Int32) < 0 ∨ 350 ≤ (2 : Int32).toNatClampNeg) by decide) dX12_layCount_42 ?_
  refine tz_i (nI jc) hk_12 ?_
  refine lv_iconst (v := 1) hx hb dX12_layCount_43 (by decide) ?_
  refine lv_iadd hx hb dX12_layCount_44 ?_
  refine tz_i (nI (jc + 1)) (nI_add jc 1) ?_
  refine va_iast hx hb hK hP hD hS 0 0 rfl rfl (show ¬ ((2 : Int32) < 0 ∨ 350 ≤ (2 : Int32).toNatClampNeg) by decide) dX12_layCount_45 (fun H locs hP hD hS => ?_)
  have hk_14 : tz_OK 350 (upd f_10 (Int32.toNatClampNeg 2) (nI (jc + 1))) := hk_11.updc (K := 2) (by omega) (tz_bd_nI (show tz_b 2 = (0, 8) from by decide) (by omega) (by omega) (by omega)) (by omega) (fun i hi => by omega)
  have hk_15 : (upd f_10 (Int32.toNatClampNeg 2) (nI (jc + 1))) 2 = nI (jc + 1) := tz_upd_eq (K := 2) (by omega)
  generalize (upd f_10 (Int32.toNatClampNeg 2) (nI (jc + 1))) = f_13 at hP hD hk_14 hk_15
  have hP : va_P (dC, dI) vwCl [(ta, .inl (ca, 350, .inl f_13))] H := hP
  have hD : va_D A [(ta, .inl (ca, 350, .inl f_13))] := hD
  have hP9 := hP.sub (ws' := [(ta, .inl (ca, 350, .inl f_13))]) [0] rfl
  have hD9 := hD.sub (ws' := [(ta, .inl (ca, 350, .inl f_13))]) [0] (by decide) rfl
  have hK9 := hK.sub (tys' := [(ca, .int)]) [0] rfl
  exact W.vret hx hb hr (fun t ht hW => ⟨⟨(), rfl, trivial, f_13, hk_14, by rw [ht]; exact hP9, va_K.moved hW.alike hK9, hD9⟩, hS.F ht⟩) hS.2.2 dX12_layCount_46
set_option maxHeartbeats 4000000 in
set_option maxRecDepth 100000 in
theorem m_begin_86 (l : Launch) (dC : Nat → ClassId) (dI : Nat → Nat → Nat) (ta : Nat) (ca : ClassId) (ff : Nat → Int32) (sz : Nat) : Met l yX12_begin wsX12_begin ({ frames := 0, cells := 0, slots := 0, locals := 0 }) (va_Pc [.ref ta] (fun U => U.heap.size = sz ∧ va_P (dC, dI) vwCl [(ta, .inl (ca, 86, .inl ff))] U.heap ∧ va_K (dC, dI) vwCl [(ca, .int)] U ∧ va_D (fun _ => True) [(ta, .inl (ca, 86, .inl ff))])) (va_Qv (fun (_ : Unit) => True) (fun _ t => ∃ (gf : Nat → Int32), (tz_OK 86 gf) ∧ va_P (dC, dI) vwCl [(ta, .inl (ca, 86, .inl gf))] t.heap ∧ va_K (dC, dI) vwCl [(ca, .int)] t ∧ va_D (va_A [(ta, .inl (ca, 86, .inl ff))] sz) [(ta, .inl (ca, 86, .inl gf))]) (va_A [(ta, .inl (ca, 86, .inl ff))] sz)) 0 0 (va_A [(ta, .inl (ca, 86, .inl ff))] sz) := by
  refine Met.ofW (cc := cX12_begin) (maxL := 2) (ret := none) (by decide) rfl ?_
  intro p e s m args below meth c s₁ B hml hv
  obtain ⟨rfl, hsz, hP, hK, hD0⟩ := hv
  have hx := B.exec
  have hb := B.bytes
  have hr := B.returns
  have hts := atoms_spec (ws := wsX12_begin) B.pre
  have hown : s.vm.findClass RX12 = some m.cls := findClass_of_methodNamed B.named
  have hlocks := B.notSynchronized
  subst hsz
  have hD := hD0.self (sz := s.heap.size)
  generalize hAe : va_A [(ta, .inl (ca, 86, .inl ff))] s.heap.size = A at hD ⊢
  have hA : ∀ q : Nat, s.heap.size ≤ q → A q := fun q h => by rw [← hAe]; exact Or.inr h
  have hS : va_S A s.heap s.heap [] := va_S.rf
  have hP : va_P (dC, dI) vwCl [(ta, .inl (ca, 86, .inl ff))] s.heap := hP
  have hl := lv_entry ([.ref ta]) (n := 2) (Nat.le_of_ble_eq_true rfl)
  rw [lg_entry_eq]
  generalize (lg_sl ([.ref ta]) ++ List.replicate (2 - (lg_sl ([.ref ta])).length) Slot.unset).toArray = ls at hl ⊢
  have hl : lv_has ls 2 [(0, .ref ta)] := hl
  have hk_1 : tz_Co (fun _ => 0) ff 0 0 ff := tz_Co.rf
  refine lv_iconst (v := 0) hx hb dX12_begin_0 (by decide) ?_
  refine lv_istore_n (lv' := [(1, .int 0), (0, .ref ta)]) hx hb dX12_begin_1 rfl hl (by decide) rfl (fun ls hl => ?_)
  refine tz_while (σ := Nat × (Nat → Int32) × Heap × List Loc × Array Slot) (fun x => W p l e _ s m _ below meth c x.2.2.1 x.2.2.2.1 _ _ _ (F0 m 2 x.2.2.2.2 [])) (fun x => tz_Co (fun _ => 0) ff 0 x.1 x.2.1 ∧ x.1 ≤ 86 ∧ va_P (dC, dI) vwCl [(ta, .inl (ca, 86, .inl x.2.1))] x.2.2.1 ∧ va_D A [(ta, .inl (ca, 86, .inl x.2.1))] ∧ va_S A s.heap x.2.2.1 x.2.2.2.1 ∧ lv_has x.2.2.2.2 2 [(1, .int (nI x.1)), (0, .ref ta)]) (fun x => 86 - x.1) ?_ (0, ff, s.heap, [], ls) ⟨hk_1, by (try dsimp only); omega, hP, hD, hS, hl⟩
  rintro ⟨k_2, f_7, H, locs, ls⟩ ⟨hi_12_0, hi_13_1, hP, hD, hS, hl⟩ ih_14
  dsimp only at hi_12_0 hi_13_1 hP hD hS hl ih_14 ⊢
  refine lv_iload_n hx hb dX12_begin_2 rfl (lv_at hl 0 rfl) ?_
  refine lv_bipush (v := 86) hx hb dX12_begin_3 (by decide) ?_
  refine lv_icmp_ge (tgt := 18) hx hb dX12_begin_5 (by decide) (fun c_15 => ?_) (fun c_15 => ?_)
  · have hn_16 : 86 ≤ k_2 := (nI_leI (a := 86) (b := k_2) (by omega) (by omega)).mp c_15
    have hP9 := hP.sub (ws' := [(ta, .inl (ca, 86, .inl f_7))]) [0] rfl
    have hD9 := hD.sub (ws' := [(ta, .inl (ca, 86, .inl f_7))]) [0] (by decide) rfl
    have hK9 := hK.sub (tys' := [(ca, .int)]) [0] rfl
    exact W.vret hx hb hr (fun t ht hW => ⟨⟨(), rfl, trivial, f_7, tz_OK.z86 (hi_12_0.cast (by omega)), by rw [ht]; exact hP9, va_K.moved hW.alike hK9, hD9⟩, hS.F ht⟩) hS.2.2 dX12_begin_18
  · have hn_17 : ¬ 86 ≤ k_2 := fun q => c_15 ((nI_leI (a := 86) (b := k_2) (by omega) (by omega)).mpr q)
    refine lv_aload_n hx hb dX12_begin_8 rfl (lv_at hl 1 rfl) ?_
    refine lv_iload_n hx hb dX12_begin_9 rfl (lv_at hl 0 rfl) ?_
    refine lv_iconst (v := 0) hx hb dX12_begin_10 (by decide) ?_
    refine va_iast hx hb hK hP hD hS 0 0 rfl rfl (vp_in_nI (n := k_2) (N := 86) (by omega) (by decide)) dX12_begin_11 (fun H locs hP hD hS => ?_)
    have hk_19 : tz_Co (fun _ => 0) ff 0 (k_2 + 1) (upd f_7 (Int32.toNatClampNeg (nI k_2)) 0) := hi_12_0.step (by omega) (by omega) rfl
    generalize (upd f_7 (Int32.toNatClampNeg (nI k_2)) 0) = f_18 at hP hD hk_19
    have hP : va_P (dC, dI) vwCl [(ta, .inl (ca, 86, .inl f_18))] H := hP
    have hD : va_D A [(ta, .inl (ca, 86, .inl f_18))] := hD
    refine lv_iinc (v := (nI (k_2 + 1))) (lv' := [(1, .int (nI (k_2 + 1))), (0, .ref ta)]) hx hb dX12_begin_12 hl (k := 0) rfl (nI_add k_2 1) (by decide) rfl (fun ls hl => ?_)
    refine lv_goto (tgt := 2) hx hb dX12_begin_15 (by decide) ?_
    exact ih_14 ((k_2 + 1), f_18, H, locs, ls) ⟨hk_19, by dsimp only; omega, hP, hD, hS, lv_sub hl [0, 1] rfl⟩ (by dsimp only; omega)
set_option maxHeartbeats 4000000 in
set_option maxRecDepth 100000 in
theorem m_layClerk_86 (l : Launch) (dC : Nat → ClassId) (dI : Nat → Nat → Nat) (ta : Nat) (ca : ClassId) (ff : Nat → Int32) (tr : Nat) (jc : Nat) (sz : Nat) (hO : tz_OK 86 ff) (htr : tr ≤ 10) (hjc : jc < 5) (e0 : ff 0 = nI jc) : Met l yX12_layClerk wsX12_layClerk ({ frames := 0, cells := 0, slots := 0, locals := 0 }) (va_Pc [.ref ta, .int (nI tr)] (fun U => U.heap.size = sz ∧ va_P (dC, dI) vwCl [(ta, .inl (ca, 86, .inl ff))] U.heap ∧ va_K (dC, dI) vwCl [(ca, .int)] U ∧ va_D (fun _ => True) [(ta, .inl (ca, 86, .inl ff))])) (va_Qv (fun (_ : Unit) => True) (fun _ t => ∃ (gf : Nat → Int32), (tz_OK 86 gf) ∧ va_P (dC, dI) vwCl [(ta, .inl (ca, 86, .inl gf))] t.heap ∧ va_K (dC, dI) vwCl [(ca, .int)] t ∧ va_D (va_A [(ta, .inl (ca, 86, .inl ff))] sz) [(ta, .inl (ca, 86, .inl gf))]) (va_A [(ta, .inl (ca, 86, .inl ff))] sz)) 0 0 (va_A [(ta, .inl (ca, 86, .inl ff))] sz) := by
  refine Met.ofW (cc := cX12_layClerk) (maxL := 2) (ret := none) (by decide) rfl ?_
  intro p e s m args below meth c s₁ B hml hv
  obtain ⟨rfl, hsz, hP, hK, hD0⟩ := hv
  have hx := B.exec
  have hb := B.bytes
  have hr := B.returns
  have hts := atoms_spec (ws := wsX12_layClerk) B.pre
  have hown : s.vm.findClass RX12 = some m.cls := findClass_of_methodNamed B.named
  have hlocks := B.notSynchronized
  subst hsz
  have hD := hD0.self (sz := s.heap.size)
  generalize hAe : va_A [(ta, .inl (ca, 86, .inl ff))] s.heap.size = A at hD ⊢
  have hA : ∀ q : Nat, s.heap.size ≤ q → A q := fun q h => by rw [← hAe]; exact Or.inr h
  have hS : va_S A s.heap s.heap [] := va_S.rf
  have hP : va_P (dC, dI) vwCl [(ta, .inl (ca, 86, .inl ff))] s.heap := hP
  have hl := lv_entry ([.ref ta, .int (nI tr)]) (n := 2) (Nat.le_of_ble_eq_true rfl)
  rw [lg_entry_eq]
  generalize (lg_sl ([.ref ta, .int (nI tr)]) ++ List.replicate (2 - (lg_sl ([.ref ta, .int (nI tr)])).length) Slot.unset).toArray = ls at hl ⊢
  have hl : lv_has ls 2 [(0, .ref ta), (1, .int (nI tr))] := hl
  refine lv_aload_n hx hb dX12_layClerk_0 rfl (lv_at hl 0 rfl) ?_
  refine lv_iconst (v := 5) hx hb dX12_layClerk_1 (by decide) ?_
  refine lv_aload_n hx hb dX12_layClerk_2 rfl (lv_at hl 0 rfl) ?_
  refine lv_iconst (v := 0) hx hb dX12_layClerk_3 (by decide) ?_
  refine va_iald hx hb hK hP 0 0 rfl rfl (show ¬ ((0 : Int32) < 0 ∨ 86 ≤ (0 : Int32).toNatClampNeg) by decide) dX12_layClerk_4 ?_
  refine tz_i (nI jc) e0 ?_
  refine lv_iadd hx hb dX12_layClerk_5 ?_
  refine tz_i (nI (5 + jc)) (nI_add 5 jc) ?_
  refine lv_iload_n hx hb dX12_layClerk_6 rfl (lv_at hl 1 rfl) ?_
  refine va_iast hx hb hK hP hD hS 0 0 rfl rfl (vp_in_nI (n := (5 + jc)) (N := 86) (by omega) (by decide)) dX12_layClerk_7 (fun H locs hP hD hS => ?_)
  have hk_2 : tz_OK 86 (upd ff (Int32.toNatClampNeg (nI (5 + jc))) (nI tr)) := hO.updc (K := (5 + jc)) (by omega) (tz_bd_nI (tz_b_tr jc (by omega)) (by omega) (by omega) (by omega)) (by omega) (fun i hi => by omega)
  have hk_3 : (upd ff (Int32.toNatClampNeg (nI (5 + jc))) (nI tr)) 0 = nI jc := tz_upd_ne (K := (5 + jc)) (by omega) (by omega) e0
  generalize (upd ff (Int32.toNatClampNeg (nI (5 + jc))) (nI tr)) = f_1 at hP hD hk_2 hk_3
  have hP : va_P (dC, dI) vwCl [(ta, .inl (ca, 86, .inl f_1))] H := hP
  have hD : va_D A [(ta, .inl (ca, 86, .inl f_1))] := hD
  refine lv_aload_n hx hb dX12_layClerk_8 rfl (lv_at hl 0 rfl) ?_
  refine lv_iconst (v := 0) hx hb dX12_layClerk_9 (by decide) ?_
  refine lv_dup2_11 hx hb dX12_layClerk_10 rfl rfl ?_
  refine va_iald hx hb hK hP 0 0 rfl rfl (show ¬ ((0 : Int32) < 0 ∨ 86 ≤ (0 : Int32).toNatClampNeg) by decide) dX12_layClerk_11 ?_
  refine tz_i (nI jc) hk_3 ?_
  refine lv_iconst (v := 1) hx hb dX12_layClerk_12 (by decide) ?_
  refine lv_iadd hx hb dX12_layClerk_13 ?_
  refine tz_i (nI (jc + 1)) (nI_add jc 1) ?_
  refine va_iast hx hb hK hP hD hS 0 0 rfl rfl (show ¬ ((0 : Int32) < 0 ∨ 86 ≤ (0 : Int32).toNatClampNeg) by decide) dX12_layClerk_14 (fun H locs hP hD hS => ?_)
  have hk_5 : tz_OK 86 (upd f_1 (Int32.toNatClampNeg 0) (nI (jc + 1))) := hk_2.updc (K := 0) (by omega) (tz_bd_nI (show tz_b 0 = (0, 5) from by decide) (by omega) (by omega) (by omega)) (by omega) (fun i hi => by omega)
  have hk_6 : (upd f_1 (Int32.toNatClampNeg 0) (nI (jc + 1))) 0 = nI (jc + 1) := tz_upd_eq (K := 0) (by omega)
  generalize (upd f_1 (Int32.toNatClampNeg 0) (nI (jc + 1))) = f_4 at hP hD hk_5 hk_6
  have hP : va_P (dC, dI) vwCl [(ta, .inl (ca, 86, .inl f_4))] H := hP
  have hD : va_D A [(ta, .inl (ca, 86, .inl f_4))] := hD
  have hP9 := hP.sub (ws' := [(ta, .inl (ca, 86, .inl f_4))]) [0] rfl
  have hD9 := hD.sub (ws' := [(ta, .inl (ca, 86, .inl f_4))]) [0] (by decide) rfl
  have hK9 := hK.sub (tys' := [(ca, .int)]) [0] rfl
  exact W.vret hx hb hr (fun t ht hW => ⟨⟨(), rfl, trivial, f_4, hk_5, by rw [ht]; exact hP9, va_K.moved hW.alike hK9, hD9⟩, hS.F ht⟩) hS.2.2 dX12_layClerk_15
set_option maxHeartbeats 4000000 in
set_option maxRecDepth 100000 in
theorem m_layBundle_86 (l : Launch) (dC : Nat → ClassId) (dI : Nat → Nat → Nat) (ta : Nat) (ca : ClassId) (ff : Nat → Int32) (jl : Nat) (jh : Nat) (jc : Nat) (sz : Nat) (hO : tz_OK 86 ff) (hjl : jl ≤ 110) (hjh : jh ≤ 110) (hjc : jc < 5) (e0 : ff 1 = nI jc) : Met l yX12_layBundle wsX12_layBundle ({ frames := 0, cells := 0, slots := 0, locals := 0 }) (va_Pc [.ref ta, .int (nI jl), .int (nI jh)] (fun U => U.heap.size = sz ∧ va_P (dC, dI) vwCl [(ta, .inl (ca, 86, .inl ff))] U.heap ∧ va_K (dC, dI) vwCl [(ca, .int)] U ∧ va_D (fun _ => True) [(ta, .inl (ca, 86, .inl ff))])) (va_Qv (fun (_ : Unit) => True) (fun _ t => ∃ (gf : Nat → Int32), (tz_OK 86 gf) ∧ va_P (dC, dI) vwCl [(ta, .inl (ca, 86, .inl gf))] t.heap ∧ va_K (dC, dI) vwCl [(ca, .int)] t ∧ va_D (va_A [(ta, .inl (ca, 86, .inl ff))] sz) [(ta, .inl (ca, 86, .inl gf))]) (va_A [(ta, .inl (ca, 86, .inl ff))] sz)) 0 0 (va_A [(ta, .inl (ca, 86, .inl ff))] sz) := by
  refine Met.ofW (cc := cX12_layBundle) (maxL := 4) (ret := none) (by decide) rfl ?_
  intro p e s m args below meth c s₁ B hml hv
  obtain ⟨rfl, hsz, hP, hK, hD0⟩ := hv
  have hx := B.exec
  have hb := B.bytes
  have hr := B.returns
  have hts := atoms_spec (ws := wsX12_layBundle) B.pre
  have hown : s.vm.findClass RX12 = some m.cls := findClass_of_methodNamed B.named
  have hlocks := B.notSynchronized
  subst hsz
  have hD := hD0.self (sz := s.heap.size)
  generalize hAe : va_A [(ta, .inl (ca, 86, .inl ff))] s.heap.size = A at hD ⊢
  have hA : ∀ q : Nat, s.heap.size ≤ q → A q := fun q h => by rw [← hAe]; exact Or.inr h
  have hS : va_S A s.heap s.heap [] := va_S.rf
  have hP : va_P (dC, dI) vwCl [(ta, .inl (ca, 86, .inl ff))] s.heap := hP
  have hl := lv_entry ([.ref ta, .int (nI jl), .int (nI jh)]) (n := 4) (Nat.le_of_ble_eq_true rfl)
  rw [lg_entry_eq]
  generalize (lg_sl ([.ref ta, .int (nI jl), .int (nI jh)]) ++ List.replicate (4 - (lg_sl ([.ref ta, .int (nI jl), .int (nI jh)])).length) Slot.unset).toArray = ls at hl ⊢
  have hl : lv_has ls 4 [(0, .ref ta), (1, .int (nI jl)), (2, .int (nI jh))] := hl
  refine lv_bipush (v := 10) hx hb dX12_layBundle_0 (by decide) ?_
  refine lv_iconst (v := 4) hx hb dX12_layBundle_2 (by decide) ?_
  refine lv_aload_n hx hb dX12_layBundle_3 rfl (lv_at hl 0 rfl) ?_
  refine lv_iconst (v := 1) hx hb dX12_layBundle_4 (by decide) ?_
  refine va_iald hx hb hK hP 0 0 rfl rfl (show ¬ ((1 : Int32) < 0 ∨ 86 ≤ (1 : Int32).toNatClampNeg) by decide) dX12_layBundle_5 ?_
  refine tz_i (nI jc) e0 ?_
  refine lv_imul hx hb dX12_layBundle_6 ?_
  refine tz_i (nI (4 * jc)) (pk_mul 4 jc) ?_
  refine lv_iadd hx hb dX12_layBundle_7 ?_
  refine tz_i (nI (10 + (4 * jc))) (nI_add 10 (4 * jc)) ?_
  refine lv_istore_n (lv' := [(3, .int (nI (10 + (4 * jc)))), (0, .ref ta), (1, .int (nI jl)), (2, .int (nI jh))]) hx hb dX12_layBundle_8 rfl hl (by decide) rfl (fun ls hl => ?_)
  refine lv_aload_n hx hb dX12_layBundle_9 rfl (lv_at hl 1 rfl) ?_
  refine lv_iload_n hx hb dX12_layBundle_10 rfl (lv_at hl 0 rfl) ?_
  refine lv_iconst (v := 0) hx hb dX12_layBundle_11 (by decide) ?_
  refine lv_iadd hx hb dX12_layBundle_12 ?_
  refine tz_i (nI ((10 + (4 * jc)) + 0)) (nI_add (10 + (4 * jc)) 0) ?_
  refine lv_iload_n hx hb dX12_layBundle_13 rfl (lv_at hl 2 rfl) ?_
  refine va_iast hx hb hK hP hD hS 0 0 rfl rfl (vp_in_nI (n := ((10 + (4 * jc)) + 0)) (N := 86) (by omega) (by decide)) dX12_layBundle_14 (fun H locs hP hD hS => ?_)
  have hk_2 : tz_OK 86 (upd ff (Int32.toNatClampNeg (nI ((10 + (4 * jc)) + 0))) (nI jl)) := hO.updc (K := ((10 + (4 * jc)) + 0)) (by omega) (tz_bd_nI (tz_b_lo jc (by omega)) (by omega) (by omega) (by omega)) (by omega) (fun i hi => by omega)
  have hk_3 : (upd ff (Int32.toNatClampNeg (nI ((10 + (4 * jc)) + 0))) (nI jl)) 1 = nI jc := tz_upd_ne (K := ((10 + (4 * jc)) + 0)) (by omega) (by omega) e0
  generalize (upd ff (Int32.toNatClampNeg (nI ((10 + (4 * jc)) + 0))) (nI jl)) = f_1 at hP hD hk_2 hk_3
  have hP : va_P (dC, dI) vwCl [(ta, .inl (ca, 86, .inl f_1))] H := hP
  have hD : va_D A [(ta, .inl (ca, 86, .inl f_1))] := hD
  refine lv_aload_n hx hb dX12_layBundle_15 rfl (lv_at hl 1 rfl) ?_
  refine lv_iload_n hx hb dX12_layBundle_16 rfl (lv_at hl 0 rfl) ?_
  refine lv_iconst (v := 1) hx hb dX12_layBundle_17 (by decide) ?_
  refine lv_iadd hx hb dX12_layBundle_18 ?_
  refine tz_i (nI ((10 + (4 * jc)) + 1)) (nI_add (10 + (4 * jc)) 1) ?_
  refine lv_iload_n hx hb dX12_layBundle_19 rfl (lv_at hl 3 rfl) ?_
  refine va_iast hx hb hK hP hD hS 0 0 rfl rfl (vp_in_nI (n := ((10 + (4 * jc)) + 1)) (N := 86) (by omega) (by decide)) dX12_layBundle_20 (fun H locs hP hD hS => ?_)
  have hk_5 : tz_OK 86 (upd f_1 (Int32.toNatClampNeg (nI ((10 + (4 * jc)) + 1))) (nI jh)) := hk_2.updc (K := ((10 + (4 * jc)) + 1)) (by omega) (tz_bd_nI (tz_b_hi jc (by omega)) (by omega) (by omega) (by omega)) (by omega) (fun i hi => by omega)
  have hk_6 : (upd f_1 (Int32.toNatClampNeg (nI ((10 + (4 * jc)) + 1))) (nI jh)) 1 = nI jc := tz_upd_ne (K := ((10 + (4 * jc)) + 1)) (by omega) (by omega) hk_3
  generalize (upd f_1 (Int32.toNatClampNeg (nI ((10 + (4 * jc)) + 1))) (nI jh)) = f_4 at hP hD hk_5 hk_6
  have hP : va_P (dC, dI) vwCl [(ta, .inl (ca, 86, .inl f_4))] H := hP
  have hD : va_D A [(ta, .inl (ca, 86, .inl f_4))] := hD
  refine lv_aload_n hx hb dX12_layBundle_21 rfl (lv_at hl 1 rfl) ?_
  refine lv_iload_n hx hb dX12_layBundle_22 rfl (lv_at hl 0 rfl) ?_
  refine lv_iconst (v := 2) hx hb dX12_layBundle_23 (by decide) ?_
  refine lv_iadd hx hb dX12_layBundle_24 ?_
  refine tz_i (nI ((10 + (4 * jc)) + 2)) (nI_add (10 + (4 * jc)) 2) ?_
  refine lv_iconst (v := (-1)) hx hb dX12_layBundle_25 (by decide) ?_
  refine va_iast hx hb hK hP hD hS 0 0 rfl rfl (vp_in_nI (n := ((10 + (4 * jc)) + 2)) (N := 86) (by omega) (by decide)) dX12_layBundle_26 (fun H locs hP hD hS => ?_)
  have hk_8 : tz_OK 86 (upd f_4 (Int32.toNatClampNeg (nI ((10 + (4 * jc)) + 2))) (-1)) := hk_5.updc (K := ((10 + (4 * jc)) + 2)) (by omega) (tz_bd_any _ (tz_b_sa jc (by omega))) (by omega) (fun i hi => by omega)
  have hk_9 : (upd f_4 (Int32.toNatClampNeg (nI ((10 + (4 * jc)) + 2))) (-1)) 1 = nI jc := tz_upd_ne (K := ((10 + (4 * jc)) + 2)) (by omega) (by omega) hk_6
  generalize (upd f_4 (Int32.toNatClampNeg (nI ((10 + (4 * jc)) + 2))) (-1)) = f_7 at hP hD hk_8 hk_9
  have hP : va_P (dC, dI) vwCl [(ta, .inl (ca, 86, .inl f_7))] H := hP
  have hD : va_D A [(ta, .inl (ca, 86, .inl f_7))] := hD
  refine lv_aload_n hx hb dX12_layBundle_27 rfl (lv_at hl 1 rfl) ?_
  refine lv_iload_n hx hb dX12_layBundle_28 rfl (lv_at hl 0 rfl) ?_
  refine lv_iconst (v := 3) hx hb dX12_layBundle_29 (by decide) ?_
  refine lv_iadd hx hb dX12_layBundle_30 ?_
  refine tz_i (nI ((10 + (4 * jc)) + 3)) (nI_add (10 + (4 * jc)) 3) ?_
  refine lv_iconst (v := (-1)) hx hb dX12_layBundle_31 (by decide) ?_
  refine va_iast hx hb hK hP hD hS 0 0 rfl rfl (vp_in_nI (n := ((10 + (4 * jc)) + 3)) (N := 86) (by omega) (by decide)) dX12_layBundle_32 (fun H locs hP hD hS => ?_)
  have hk_11 : tz_OK 86 (upd f_7 (Int32.toNatClampNeg (nI ((10 + (4 * jc)) + 3))) (-1)) := hk_8.updc (K := ((10 + (4 * jc)) + 3)) (by omega) (tz_bd_of (tz_b_si jc (by omega)) (by decide) (by decide)) (by omega) (fun i hi => by omega)
  have hk_12 : (upd f_7 (Int32.toNatClampNeg (nI ((10 + (4 * jc)) + 3))) (-1)) 1 = nI jc := tz_upd_ne (K := ((10 + (4 * jc)) + 3)) (by omega) (by omega) hk_9
  generalize (upd f_7 (Int32.toNatClampNeg (nI ((10 + (4 * jc)) + 3))) (-1)) = f_10 at hP hD hk_11 hk_12
  have hP : va_P (dC, dI) vwCl [(ta, .inl (ca, 86, .inl f_10))] H := hP
  have hD : va_D A [(ta, .inl (ca, 86, .inl f_10))] := hD
  refine lv_aload_n hx hb dX12_layBundle_33 rfl (lv_at hl 1 rfl) ?_
  refine lv_iconst (v := 1) hx hb dX12_layBundle_34 (by decide) ?_
  refine lv_dup2_11 hx hb dX12_layBundle_35 rfl rfl ?_
  refine va_iald hx hb hK hP 0 0 rfl rfl (show ¬ ((1 : Int32) < 0 ∨ 86 ≤ (1 : Int32).toNatClampNeg) by decide) dX12_layBundle_36 ?_
  refine tz_i (nI jc) hk_12 ?_
  refine lv_iconst (v := 1) hx hb dX12_layBundle_37 (by decide) ?_
  refine lv_iadd hx hb dX12_layBundle_38 ?_
  refine tz_i (nI (jc + 1)) (nI_add jc 1) ?_
  refine va_iast hx hb hK hP hD hS 0 0 rfl rfl (show ¬ ((1 : Int32) < 0 ∨ 86 ≤ (1 : Int32).toNatClampNeg) by decide) dX12_layBundle_39 (fun H locs hP hD hS => ?_)
  have hk_14 : tz_OK 86 (upd f_10 (Int32.toNatClampNeg 1) (nI (jc + 1))) := hk_11.updc (K := 1) (by omega) (tz_bd_nI (show tz_b 1 = (0, 5) from by decide) (by omega) (by omega) (by omega)) (by omega) (fun i hi => by omega)
  have hk_15 : (upd f_10 (Int32.toNatClampNeg 1) (nI (jc + 1))) 1 = nI (jc + 1) := tz_upd_eq (K := 1) (by omega)
  generalize (upd f_10 (Int32.toNatClampNeg 1) (nI (jc + 1))) = f_13 at hP hD hk_14 hk_15
  have hP : va_P (dC, dI) vwCl [(ta, .inl (ca, 86, .inl f_13))] H := hP
  have hD : va_D A [(ta, .inl (ca, 86, .inl f_13))] := hD
  have hP9 := hP.sub (ws' := [(ta, .inl (ca, 86, .inl f_13))]) [0] rfl
  have hD9 := hD.sub (ws' := [(ta, .inl (ca, 86, .inl f_13))]) [0] (by decide) rfl
  have hK9 := hK.sub (tys' := [(ca, .int)]) [0] rfl
  exact W.vret hx hb hr (fun t ht hW => ⟨⟨(), rfl, trivial, f_13, hk_14, by rw [ht]; exact hP9, va_K.moved hW.alike hK9, hD9⟩, hS.F ht⟩) hS.2.2 dX12_layBundle_40
set_option maxHeartbeats 4000000 in
set_option maxRecDepth 100000 in
theorem m_layBand_86 (l : Launch) (dC : Nat → ClassId) (dI : Nat → Nat → Nat) (ta : Nat) (ca : ClassId) (ff : Nat → Int32) (jb : Nat) (nb : Int32) (jk : Nat) (sz : Nat) (hO : tz_OK 86 ff) (hjb : jb < 5) (hjk : jk < 5) : Met l yX12_layBand wsX12_layBand ({ frames := 0, cells := 0, slots := 0, locals := 0 }) (va_Pc [.ref ta, .int (nI jb), .int nb, .int (nI jk)] (fun U => U.heap.size = sz ∧ va_P (dC, dI) vwCl [(ta, .inl (ca, 86, .inl ff))] U.heap ∧ va_K (dC, dI) vwCl [(ca, .int)] U ∧ va_D (fun _ => True) [(ta, .inl (ca, 86, .inl ff))])) (va_Qv (fun (_ : Unit) => True) (fun _ t => ∃ (gf : Nat → Int32), (tz_OK 86 gf) ∧ va_P (dC, dI) vwCl [(ta, .inl (ca, 86, .inl gf))] t.heap ∧ va_K (dC, dI) vwCl [(ca, .int)] t ∧ va_D (va_A [(ta, .inl (ca, 86, .inl ff))] sz) [(ta, .inl (ca, 86, .inl gf))]) (va_A [(ta, .inl (ca, 86, .inl ff))] sz)) 0 0 (va_A [(ta, .inl (ca, 86, .inl ff))] sz) := by
  refine Met.ofW (cc := cX12_layBand) (maxL := 4) (ret := none) (by decide) rfl ?_
  intro p e s m args below meth c s₁ B hml hv
  obtain ⟨rfl, hsz, hP, hK, hD0⟩ := hv
  have hx := B.exec
  have hb := B.bytes
  have hr := B.returns
  have hts := atoms_spec (ws := wsX12_layBand) B.pre
  have hown : s.vm.findClass RX12 = some m.cls := findClass_of_methodNamed B.named
  have hlocks := B.notSynchronized
  subst hsz
  have hD := hD0.self (sz := s.heap.size)
  generalize hAe : va_A [(ta, .inl (ca, 86, .inl ff))] s.heap.size = A at hD ⊢
  have hA : ∀ q : Nat, s.heap.size ≤ q → A q := fun q h => by rw [← hAe]; exact Or.inr h
  have hS : va_S A s.heap s.heap [] := va_S.rf
  have hP : va_P (dC, dI) vwCl [(ta, .inl (ca, 86, .inl ff))] s.heap := hP
  have hl := lv_entry ([.ref ta, .int (nI jb), .int nb, .int (nI jk)]) (n := 4) (Nat.le_of_ble_eq_true rfl)
  rw [lg_entry_eq]
  generalize (lg_sl ([.ref ta, .int (nI jb), .int nb, .int (nI jk)]) ++ List.replicate (4 - (lg_sl ([.ref ta, .int (nI jb), .int nb, .int (nI jk)])).length) Slot.unset).toArray = ls at hl ⊢
  have hl : lv_has ls 4 [(0, .ref ta), (1, .int (nI jb)), (2, .int nb), (3, .int (nI jk))] := hl
  refine lv_aload_n hx hb dX12_layBand_0 rfl (lv_at hl 0 rfl) ?_
  refine lv_bipush (v := 10) hx hb dX12_layBand_1 (by decide) ?_
  refine lv_iconst (v := 4) hx hb dX12_layBand_3 (by decide) ?_
  refine lv_iload_n hx hb dX12_layBand_4 rfl (lv_at hl 1 rfl) ?_
  refine lv_imul hx hb dX12_layBand_5 ?_
  refine tz_i (nI (4 * jb)) (pk_mul 4 jb) ?_
  refine lv_iadd hx hb dX12_layBand_6 ?_
  refine tz_i (nI (10 + (4 * jb))) (nI_add 10 (4 * jb)) ?_
  refine lv_iconst (v := 2) hx hb dX12_layBand_7 (by decide) ?_
  refine lv_iadd hx hb dX12_layBand_8 ?_
  refine tz_i (nI ((10 + (4 * jb)) + 2)) (nI_add (10 + (4 * jb)) 2) ?_
  refine lv_iload_n hx hb dX12_layBand_9 rfl (lv_at hl 2 rfl) ?_
  refine va_iast hx hb hK hP hD hS 0 0 rfl rfl (vp_in_nI (n := ((10 + (4 * jb)) + 2)) (N := 86) (by omega) (by decide)) dX12_layBand_10 (fun H locs hP hD hS => ?_)
  have hk_2 : tz_OK 86 (upd ff (Int32.toNatClampNeg (nI ((10 + (4 * jb)) + 2))) nb) := hO.updc (K := ((10 + (4 * jb)) + 2)) (by omega) (tz_bd_any _ (tz_b_sa jb (by omega))) (by omega) (fun i hi => by omega)
  generalize (upd ff (Int32.toNatClampNeg (nI ((10 + (4 * jb)) + 2))) nb) = f_1 at hP hD hk_2
  have hP : va_P (dC, dI) vwCl [(ta, .inl (ca, 86, .inl f_1))] H := hP
  have hD : va_D A [(ta, .inl (ca, 86, .inl f_1))] := hD
  refine lv_aload_n hx hb dX12_layBand_11 rfl (lv_at hl 0 rfl) ?_
  refine lv_bipush (v := 10) hx hb dX12_layBand_12 (by decide) ?_
  refine lv_iconst (v := 4) hx hb dX12_layBand_14 (by decide) ?_
  refine lv_iload_n hx hb dX12_layBand_15 rfl (lv_at hl 1 rfl) ?_
  refine lv_imul hx hb dX12_layBand_16 ?_
  refine tz_i (nI (4 * jb)) (pk_mul 4 jb) ?_
  refine lv_iadd hx hb dX12_layBand_17 ?_
  refine tz_i (nI (10 + (4 * jb))) (nI_add 10 (4 * jb)) ?_
  refine lv_iconst (v := 3) hx hb dX12_layBand_18 (by decide) ?_
  refine lv_iadd hx hb dX12_layBand_19 ?_
  refine tz_i (nI ((10 + (4 * jb)) + 3)) (nI_add (10 + (4 * jb)) 3) ?_
  refine lv_iload_n hx hb dX12_layBand_20 rfl (lv_at hl 3 rfl) ?_
  refine va_iast hx hb hK hP hD hS 0 0 rfl rfl (vp_in_nI (n := ((10 + (4 * jb)) + 3)) (N := 86) (by omega) (by decide)) dX12_layBand_21 (fun H locs hP hD hS => ?_)
  have hk_4 : tz_OK 86 (upd f_1 (Int32.toNatClampNeg (nI ((10 + (4 * jb)) + 3))) (nI jk)) := hk_2.updc (K := ((10 + (4 * jb)) + 3)) (by omega) (tz_bd_nI (tz_b_si jb (by omega)) (by omega) (by omega) (by omega)) (by omega) (fun i hi => by omega)
  generalize (upd f_1 (Int32.toNatClampNeg (nI ((10 + (4 * jb)) + 3))) (nI jk)) = f_3 at hP hD hk_4
  have hP : va_P (dC, dI) vwCl [(ta, .inl (ca, 86, .inl f_3))] H := hP
  have hD : va_D A [(ta, .inl (ca, 86, .inl f_3))] := hD
  have hP9 := hP.sub (ws' := [(ta, .inl (ca, 86, .inl f_3))]) [0] rfl
  have hD9 := hD.sub (ws' := [(ta, .inl (ca, 86, .inl f_3))]) [0] (by decide) rfl
  have hK9 := hK.sub (tys' := [(ca, .int)]) [0] rfl
  exact W.vret hx hb hr (fun t ht hW => ⟨⟨(), rfl, trivial, f_3, hk_4, by rw [ht]; exact hP9, va_K.moved hW.alike hK9, hD9⟩, hS.F ht⟩) hS.2.2 dX12_layBand_22
set_option maxHeartbeats 4000000 in
set_option maxRecDepth 100000 in
theorem m_layCount_86 (l : Launch) (dC : Nat → ClassId) (dI : Nat → Nat → Nat) (ta : Nat) (ca : ClassId) (ff : Nat → Int32) (jb : Nat) (jw : Nat) (nc : Int32) (nd : Int32) (jc : Nat) (sz : Nat) (hO : tz_OK 86 ff) (hjb : jb < 5) (hjw : jw ≤ 5) (hjc : jc < 8) (e0 : ff 2 = nI jc) : Met l yX12_layCount wsX12_layCount ({ frames := 0, cells := 0, slots := 0, locals := 0 }) (va_Pc [.ref ta, .int (nI jb), .int (nI jw), .int nc, .int nd] (fun U => U.heap.size = sz ∧ va_P (dC, dI) vwCl [(ta, .inl (ca, 86, .inl ff))] U.heap ∧ va_K (dC, dI) vwCl [(ca, .int)] U ∧ va_D (fun _ => True) [(ta, .inl (ca, 86, .inl ff))])) (va_Qv (fun (_ : Unit) => True) (fun _ t => ∃ (gf : Nat → Int32), (tz_OK 86 gf) ∧ va_P (dC, dI) vwCl [(ta, .inl (ca, 86, .inl gf))] t.heap ∧ va_K (dC, dI) vwCl [(ca, .int)] t ∧ va_D (va_A [(ta, .inl (ca, 86, .inl ff))] sz) [(ta, .inl (ca, 86, .inl gf))]) (va_A [(ta, .inl (ca, 86, .inl ff))] sz)) 0 0 (va_A [(ta, .inl (ca, 86, .inl ff))] sz) := by
  refine Met.ofW (cc := cX12_layCount) (maxL := 6) (ret := none) (by decide) rfl ?_
  intro p e s m args below meth c s₁ B hml hv
  obtain ⟨rfl, hsz, hP, hK, hD0⟩ := hv
  have hx := B.exec
  have hb := B.bytes
  have hr := B.returns
  have hts := atoms_spec (ws := wsX12_layCount) B.pre
  have hown : s.vm.findClass RX12 = some m.cls := findClass_of_methodNamed B.named
  have hlocks := B.notSynchronized
  subst hsz
  have hD := hD0.self (sz := s.heap.size)
  generalize hAe : va_A [(ta, .inl (ca, 86, .inl ff))] s.heap.size = A at hD ⊢
  have hA : ∀ q : Nat, s.heap.size ≤ q → A q := fun q h => by rw [← hAe]; exact Or.inr h
  have hS : va_S A s.heap s.heap [] := va_S.rf
  have hP : va_P (dC, dI) vwCl [(ta, .inl (ca, 86, .inl ff))] s.heap := hP
  have hl := lv_entry ([.ref ta, .int (nI jb), .int (nI jw), .int nc, .int nd]) (n := 6) (Nat.le_of_ble_eq_true rfl)
  rw [lg_entry_eq]
  generalize (lg_sl ([.ref ta, .int (nI jb), .int (nI jw), .int nc, .int nd]) ++ List.replicate (6 - (lg_sl ([.ref ta, .int (nI jb), .int (nI jw), .int nc, .int nd])).length) Slot.unset).toArray = ls at hl ⊢
  have hl : lv_has ls 6 [(0, .ref ta), (1, .int (nI jb)), (2, .int (nI jw)), (3, .int nc), (4, .int nd)] := hl
  refine lv_bipush (v := 30) hx hb dX12_layCount_0 (by decide) ?_
  refine lv_iconst (v := 4) hx hb dX12_layCount_2 (by decide) ?_
  refine lv_aload_n hx hb dX12_layCount_3 rfl (lv_at hl 0 rfl) ?_
  refine lv_iconst (v := 2) hx hb dX12_layCount_4 (by decide) ?_
  refine va_iald hx hb hK hP 0 0 rfl rfl (show ¬ ((2 : Int32) < 0 ∨ 86 ≤ (2 : Int32).toNatClampNeg) by decide) dX12_layCount_5 ?_
  refine tz_i (nI jc) e0 ?_
  refine lv_imul hx hb dX12_layCount_6 ?_
  refine tz_i (nI (4 * jc)) (pk_mul 4 jc) ?_
  refine lv_iadd hx hb dX12_layCount_7 ?_
  refine tz_i (nI (30 + (4 * jc))) (nI_add 30 (4 * jc)) ?_
  refine lv_istore (lv' := [(5, .int (nI (30 + (4 * jc)))), (0, .ref ta), (1, .int (nI jb)), (2, .int (nI jw)), (3, .int nc), (4, .int nd)]) hx hb dX12_layCount_8 hl (by decide) rfl (fun ls hl => ?_)
  refine lv_aload_n hx hb dX12_layCount_10 rfl (lv_at hl 1 rfl) ?_
  refine lv_iload hx hb dX12_layCount_11 (lv_at hl 0 rfl) ?_
  refine lv_iconst (v := 0) hx hb dX12_layCount_13 (by decide) ?_
  refine lv_iadd hx hb dX12_layCount_14 ?_
  refine tz_i (nI ((30 + (4 * jc)) + 0)) (nI_add (30 + (4 * jc)) 0) ?_
  refine lv_iload_n hx hb dX12_layCount_15 rfl (lv_at hl 2 rfl) ?_
  refine va_iast hx hb hK hP hD hS 0 0 rfl rfl (vp_in_nI (n := ((30 + (4 * jc)) + 0)) (N := 86) (by omega) (by decide)) dX12_layCount_16 (fun H locs hP hD hS => ?_)
  have hk_2 : tz_OK 86 (upd ff (Int32.toNatClampNeg (nI ((30 + (4 * jc)) + 0))) (nI jb)) := hO.updc (K := ((30 + (4 * jc)) + 0)) (by omega) (tz_bd_nI (tz_b_of jc (by omega)) (by omega) (by omega) (by omega)) (by omega) (fun i hi => by omega)
  have hk_3 : (upd ff (Int32.toNatClampNeg (nI ((30 + (4 * jc)) + 0))) (nI jb)) 2 = nI jc := tz_upd_ne (K := ((30 + (4 * jc)) + 0)) (by omega) (by omega) e0
  generalize (upd ff (Int32.toNatClampNeg (nI ((30 + (4 * jc)) + 0))) (nI jb)) = f_1 at hP hD hk_2 hk_3
  have hP : va_P (dC, dI) vwCl [(ta, .inl (ca, 86, .inl f_1))] H := hP
  have hD : va_D A [(ta, .inl (ca, 86, .inl f_1))] := hD
  refine lv_aload_n hx hb dX12_layCount_17 rfl (lv_at hl 1 rfl) ?_
  refine lv_iload hx hb dX12_layCount_18 (lv_at hl 0 rfl) ?_
  refine lv_iconst (v := 1) hx hb dX12_layCount_20 (by decide) ?_
  refine lv_iadd hx hb dX12_layCount_21 ?_
  refine tz_i (nI ((30 + (4 * jc)) + 1)) (nI_add (30 + (4 * jc)) 1) ?_
  refine lv_iload_n hx hb dX12_layCount_22 rfl (lv_at hl 3 rfl) ?_
  refine va_iast hx hb hK hP hD hS 0 0 rfl rfl (vp_in_nI (n := ((30 + (4 * jc)) + 1)) (N := 86) (by omega) (by decide)) dX12_layCount_23 (fun H locs hP hD hS => ?_)
  have hk_5 : tz_OK 86 (upd f_1 (Int32.toNatClampNeg (nI ((30 + (4 * jc)) + 1))) (nI jw)) := hk_2.updc (K := ((30 + (4 * jc)) + 1)) (by omega) (tz_bd_nI (tz_b_wy jc (by omega)) (by omega) (by omega) (by omega)) (by omega) (fun i hi => by omega)
  have hk_6 : (upd f_1 (Int32.toNatClampNeg (nI ((30 + (4 * jc)) + 1))) (nI jw)) 2 = nI jc := tz_upd_ne (K := ((30 + (4 * jc)) + 1)) (by omega) (by omega) hk_3
  generalize (upd f_1 (Int32.toNatClampNeg (nI ((30 + (4 * jc)) + 1))) (nI jw)) = f_4 at hP hD hk_5 hk_6
  have hP : va_P (dC, dI) vwCl [(ta, .inl (ca, 86, .inl f_4))] H := hP
  have hD : va_D A [(ta, .inl (ca, 86, .inl f_4))] := hD
  refine lv_aload_n hx hb dX12_layCount_24 rfl (lv_at hl 1 rfl) ?_
  refine lv_iload hx hb dX12_layCount_25 (lv_at hl 0 rfl) ?_
  refine lv_iconst (v := 2) hx hb dX12_layCount_27 (by decide) ?_
  refine lv_iadd hx hb dX12_layCount_28 ?_
  refine tz_i (nI ((30 + (4 * jc)) + 2)) (nI_add (30 + (4 * jc)) 2) ?_
  refine lv_iload_n hx hb dX12_layCount_29 rfl (lv_at hl 4 rfl) ?_
  refine va_iast hx hb hK hP hD hS 0 0 rfl rfl (vp_in_nI (n := ((30 + (4 * jc)) + 2)) (N := 86) (by omega) (by decide)) dX12_layCount_30 (fun H locs hP hD hS => ?_)
  have hk_8 : tz_OK 86 (upd f_4 (Int32.toNatClampNeg (nI ((30 + (4 * jc)) + 2))) nc) := hk_5.updc (K := ((30 + (4 * jc)) + 2)) (by omega) (tz_bd_any _ (tz_b_ck jc (by omega))) (by omega) (fun i hi => by omega)
  have hk_9 : (upd f_4 (Int32.toNatClampNeg (nI ((30 + (4 * jc)) + 2))) nc) 2 = nI jc := tz_upd_ne (K := ((30 + (4 * jc)) + 2)) (by omega) (by omega) hk_6
  generalize (upd f_4 (Int32.toNatClampNeg (nI ((30 + (4 * jc)) + 2))) nc) = f_7 at hP hD hk_8 hk_9
  have hP : va_P (dC, dI) vwCl [(ta, .inl (ca, 86, .inl f_7))] H := hP
  have hD : va_D A [(ta, .inl (ca, 86, .inl f_7))] := hD
  refine lv_aload_n hx hb dX12_layCount_31 rfl (lv_at hl 1 rfl) ?_
  refine lv_iload hx hb dX12_layCount_32 (lv_at hl 0 rfl) ?_
  refine lv_iconst (v := 3) hx hb dX12_layCount_34 (by decide) ?_
  refine lv_iadd hx hb dX12_layCount_35 ?_
  refine tz_i (nI ((30 + (4 * jc)) + 3)) (nI_add (30 + (4 * jc)) 3) ?_
  refine lv_iload hx hb dX12_layCount_36 (lv_at hl 5 rfl) ?_
  refine va_iast hx hb hK hP hD hS 0 0 rfl rfl (vp_in_nI (n := ((30 + (4 * jc)) + 3)) (N := 86) (by omega) (by decide)) dX12_layCount_38 (fun H locs hP hD hS => ?_)
  have hk_11 : tz_OK 86 (upd f_7 (Int32.toNatClampNeg (nI ((30 + (4 * jc)) + 3))) nd) := hk_8.updc (K := ((30 + (4 * jc)) + 3)) (by omega) (tz_bd_any _ (tz_b_td jc (by omega))) (by omega) (fun i hi => by omega)
  have hk_12 : (upd f_7 (Int32.toNatClampNeg (nI ((30 + (4 * jc)) + 3))) nd) 2 = nI jc := tz_upd_ne (K := ((30 + (4 * jc)) + 3)) (by omega) (by omega) hk_9
  generalize (upd f_7 (Int32.toNatClampNeg (nI ((30 + (4 * jc)) + 3))) nd) = f_10 at hP hD hk_11 hk_12
  have hP : va_P (dC, dI) vwCl [(ta, .inl (ca, 86, .inl f_10))] H := hP
  have hD : va_D A [(ta, .inl (ca, 86, .inl f_10))] := hD
  refine lv_aload_n hx hb dX12_layCount_39 rfl (lv_at hl 1 rfl) ?_
  refine lv_iconst (v := 2) hx hb dX12_layCount_40 (by decide) ?_
  refine lv_dup2_11 hx hb dX12_layCount_41 rfl rfl ?_
  refine va_iald hx hb hK hP 0 0 rfl rfl (show ¬ ((2 : Int32) < 0 ∨ 86 ≤ (2 : Int32).toNatClampNeg) by decide) dX12_layCount_42 ?_
  refine tz_i (nI jc) hk_12 ?_
  refine lv_iconst (v := 1) hx hb dX12_layCount_43 (by decide) ?_
  refine lv_iadd hx hb dX12_layCount_44 ?_
  refine tz_i (nI (jc + 1)) (nI_add jc 1) ?_
  refine va_iast hx hb hK hP hD hS 0 0 rfl rfl (show ¬ ((2 : Int32) < 0 ∨ 86 ≤ (2 : Int32).toNatClampNeg) by decide) dX12_layCount_45 (fun H locs hP hD hS => ?_)
  have hk_14 : tz_OK 86 (upd f_10 (Int32.toNatClampNeg 2) (nI (jc + 1))) := hk_11.updc (K := 2) (by omega) (tz_bd_nI (show tz_b 2 = (0, 8) from by decide) (by omega) (by omega) (by omega)) (by omega) (fun i hi => by omega)
  have hk_15 : (upd f_10 (Int32.toNatClampNeg 2) (nI (jc + 1))) 2 = nI (jc + 1) := tz_upd_eq (K := 2) (by omega)
  generalize (upd f_10 (Int32.toNatClampNeg 2) (nI (jc + 1))) = f_13 at hP hD hk_14 hk_15
  have hP : va_P (dC, dI) vwCl [(ta, .inl (ca, 86, .inl f_13))] H := hP
  have hD : va_D A [(ta, .inl (ca, 86, .inl f_13))] := hD
  have hP9 := hP.sub (ws' := [(ta, .inl (ca, 86, .inl f_13))]) [0] rfl
  have hD9 := hD.sub (ws' := [(ta, .inl (ca, 86, .inl f_13))]) [0] (by decide) rfl
  have hK9 := hK.sub (tys' := [(ca, .int)]) [0] rfl
  exact W.vret hx hb hr (fun t ht hW => ⟨⟨(), rfl, trivial, f_13, hk_14, by rw [ht]; exact hP9, va_K.moved hW.alike hK9, hD9⟩, hS.F ht⟩) hS.2.2 dX12_layCount_46
theorem dX12_bundleHas_0 : decode cX12_bundleHas 0 = .ok (.aload_n 0, 1) := by decide +kernel
theorem dX12_bundleHas_1 : decode cX12_bundleHas 1 = .ok (.getfield 7, 3) := by decide +kernel
theorem dX12_bundleHas_4 : decode cX12_bundleHas 4 = .ok (.bipush 10, 2) := by decide +kernel
theorem dX12_bundleHas_6 : decode cX12_bundleHas 6 = .ok (.iconst 4, 1) := by decide +kernel
theorem dX12_bundleHas_7 : decode cX12_bundleHas 7 = .ok (.iload_n 1, 1) := by decide +kernel
theorem dX12_bundleHas_8 : decode cX12_bundleHas 8 = .ok (.imul, 1) := by decide +kernel
theorem dX12_bundleHas_9 : decode cX12_bundleHas 9 = .ok (.iadd, 1) := by decide +kernel
theorem dX12_bundleHas_10 : decode cX12_bundleHas 10 = .ok (.iload_n 2, 1) := by decide +kernel
theorem dX12_bundleHas_11 : decode cX12_bundleHas 11 = .ok (.iadd, 1) := by decide +kernel
theorem dX12_bundleHas_12 : decode cX12_bundleHas 12 = .ok (.iaload, 1) := by decide +kernel
theorem dX12_bundleHas_13 : decode cX12_bundleHas 13 = .ok (.ireturn, 1) := by decide +kernel
set_option maxRecDepth 20000 in
theorem iw_m_bundleHas0_X12 : ∀ w ∈ wsX120, w ∈ wsX12_bundleHas := by decide +kernel
set_option maxHeartbeats 4000000 in
set_option maxRecDepth 100000 in
theorem m_bundleHas0 (l : Launch) (dC : Nat → ClassId) (dI : Nat → Nat → Nat) (mo : Nat) (nw : Nat) (kp : Nat) (ik : Nat) (mr : Nat) (la_ : Int64) (lb_ : Int64) (mw : Nat) (lc_ : Int64) (ti_ : Int32) (cb_ : Int32) (ld_ : Int64) (le_ : Int64) (mq : Nat) (mz : Nat) (my : Nat) (sm_ : Int32) (mb : Nat) (bl_ : Int32) (ta_ : Int32) (tl_ : Int32) (tk_ : Int32) (vl_ : Int32) (mx : Nat) (mv : Nat) (cn_ : ClassId) (fn : Nat → Int32) (jb : Nat) (hOn : tz_OK 350 fn) (hjb : jb < 5) : Met l yX12_bundleHas wsX12_bundleHas ({ frames := 0, cells := 0, slots := 0, locals := 0 }) (va_Pc [.ref mo, .int (nI jb), .int 0] (fun U => va_P (dC, dI) vwCl [(mo, .inr (12, [.ref nw, .ref kp, .ref ik, .ref mr, .long la_, .long lb_, .ref mw, .long lc_, .int ti_, .int cb_, .long ld_, .long le_, .ref mq, .ref mz, .ref my, .int sm_, .ref mb, .int bl_, .int ta_, .int tl_, .int tk_, .int vl_, .ref mx, .ref mv])), (nw, .inl (cn_, 350, .inl fn))] U.heap ∧ va_K (dC, dI) vwCl [(cn_, .int)] U)) (vp_Si (fun r => ∃ j : Nat, j ≤ 110 ∧ r = nI j)) 0 0 (fun _ => False) := by
  refine Met.ofW (cc := cX12_bundleHas) (maxL := 3) (ret := (some .int)) (by decide) rfl ?_
  intro p e s m args below meth c s₁ B hml hv
  obtain ⟨rfl, hP, hK⟩ := hv
  have hx := B.exec
  have hb := B.bytes
  have hr := B.returns
  have hts := atoms_spec (ws := wsX12_bundleHas) B.pre
  have hown : s.vm.findClass RX12 = some m.cls := findClass_of_methodNamed B.named
  have hlocks := B.notSynchronized
  have hl := lv_entry ([.ref mo, .int (nI jb), .int 0]) (n := 3) (Nat.le_of_ble_eq_true rfl)
  rw [lg_entry_eq]
  generalize (lg_sl ([.ref mo, .int (nI jb), .int 0]) ++ List.replicate (3 - (lg_sl ([.ref mo, .int (nI jb), .int 0])).length) Slot.unset).toArray = ls at hl ⊢
  have hl : lv_has ls 3 [(0, .ref mo), (1, .int (nI jb)), (2, .int 0)] := hl
  refine lv_aload_n hx hb dX12_bundleHas_0 rfl (lv_at hl 0 rfl) ?_
  refine va_get (D := (dC, dI)) (ci := 12) (v := .ref nw) (C := RX12) (T := TX12) (N := 24) hx hb hts iw_m_bundleHas0_X12 hown hK hP 0 rfl rfl 0 (by decide) (hts (.fieldLink RX12 7 "ThriceCountedModel" "now" "[I") (by decide +kernel)) (fun _ h9 => h9) rfl dX12_bundleHas_1 ?_
  refine lv_bipush (v := 10) hx hb dX12_bundleHas_4 (by decide) ?_
  refine lv_iconst (v := 4) hx hb dX12_bundleHas_6 (by decide) ?_
  refine lv_iload_n hx hb dX12_bundleHas_7 rfl (lv_at hl 1 rfl) ?_
  refine lv_imul hx hb dX12_bundleHas_8 ?_
  refine tz_i (nI (4 * jb)) (pk_mul 4 jb) ?_
  refine lv_iadd hx hb dX12_bundleHas_9 ?_
  refine tz_i (nI (10 + (4 * jb))) (nI_add 10 (4 * jb)) ?_
  refine lv_iload_n hx hb dX12_bundleHas_10 rfl (lv_at hl 2 rfl) ?_
  refine lv_iadd hx hb dX12_bundleHas_11 ?_
  refine tz_i (nI ((10 + (4 * jb)) + 0)) (nI_add (10 + (4 * jb)) 0) ?_
  refine va_iald hx hb hK hP 1 0 rfl rfl (vp_in_nI (n := ((10 + (4 * jb)) + 0)) (N := 350) (by omega) (by decide)) dX12_bundleHas_12 ?_
  obtain ⟨j_1, hj_2, ej_3⟩ := hOn.natc (K := ((10 + (4 * jb)) + 0)) (n := 110) (by omega) (by omega) (tz_b_lo jb (by omega))
  refine tz_i (nI j_1) ej_3 ?_
  exact W.iret (v := (nI j_1)) hx hb hr (fun t ht hW => ⟨(nI j_1), rfl, ⟨j_1, by omega, rfl⟩, ht⟩) (fun _ h => absurd h List.not_mem_nil) dX12_bundleHas_13
set_option maxRecDepth 20000 in
theorem iw_m_bundleHas1_X12 : ∀ w ∈ wsX120, w ∈ wsX12_bundleHas := by decide +kernel
set_option maxHeartbeats 4000000 in
set_option maxRecDepth 100000 in
theorem m_bundleHas1 (l : Launch) (dC : Nat → ClassId) (dI : Nat → Nat → Nat) (mo : Nat) (nw : Nat) (kp : Nat) (ik : Nat) (mr : Nat) (la_ : Int64) (lb_ : Int64) (mw : Nat) (lc_ : Int64) (ti_ : Int32) (cb_ : Int32) (ld_ : Int64) (le_ : Int64) (mq : Nat) (mz : Nat) (my : Nat) (sm_ : Int32) (mb : Nat) (bl_ : Int32) (ta_ : Int32) (tl_ : Int32) (tk_ : Int32) (vl_ : Int32) (mx : Nat) (mv : Nat) (cn_ : ClassId) (fn : Nat → Int32) (jb : Nat) (hOn : tz_OK 350 fn) (hjb : jb < 5) : Met l yX12_bundleHas wsX12_bundleHas ({ frames := 0, cells := 0, slots := 0, locals := 0 }) (va_Pc [.ref mo, .int (nI jb), .int 1] (fun U => va_P (dC, dI) vwCl [(mo, .inr (12, [.ref nw, .ref kp, .ref ik, .ref mr, .long la_, .long lb_, .ref mw, .long lc_, .int ti_, .int cb_, .long ld_, .long le_, .ref mq, .ref mz, .ref my, .int sm_, .ref mb, .int bl_, .int ta_, .int tl_, .int tk_, .int vl_, .ref mx, .ref mv])), (nw, .inl (cn_, 350, .inl fn))] U.heap ∧ va_K (dC, dI) vwCl [(cn_, .int)] U)) (vp_Si (fun r => ∃ j : Nat, j ≤ 110 ∧ r = nI j)) 0 0 (fun _ => False) := by
  refine Met.ofW (cc := cX12_bundleHas) (maxL := 3) (ret := (some .int)) (by decide) rfl ?_
  intro p e s m args below meth c s₁ B hml hv
  obtain ⟨rfl, hP, hK⟩ := hv
  have hx := B.exec
  have hb := B.bytes
  have hr := B.returns
  have hts := atoms_spec (ws := wsX12_bundleHas) B.pre
  have hown : s.vm.findClass RX12 = some m.cls := findClass_of_methodNamed B.named
  have hlocks := B.notSynchronized
  have hl := lv_entry ([.ref mo, .int (nI jb), .int 1]) (n := 3) (Nat.le_of_ble_eq_true rfl)
  rw [lg_entry_eq]
  generalize (lg_sl ([.ref mo, .int (nI jb), .int 1]) ++ List.replicate (3 - (lg_sl ([.ref mo, .int (nI jb), .int 1])).length) Slot.unset).toArray = ls at hl ⊢
  have hl : lv_has ls 3 [(0, .ref mo), (1, .int (nI jb)), (2, .int 1)] := hl
  refine lv_aload_n hx hb dX12_bundleHas_0 rfl (lv_at hl 0 rfl) ?_
  refine va_get (D := (dC, dI)) (ci := 12) (v := .ref nw) (C := RX12) (T := TX12) (N := 24) hx hb hts iw_m_bundleHas1_X12 hown hK hP 0 rfl rfl 0 (by decide) (hts (.fieldLink RX12 7 "ThriceCountedModel" "now" "[I") (by decide +kernel)) (fun _ h9 => h9) rfl dX12_bundleHas_1 ?_
  refine lv_bipush (v := 10) hx hb dX12_bundleHas_4 (by decide) ?_
  refine lv_iconst (v := 4) hx hb dX12_bundleHas_6 (by decide) ?_
  refine lv_iload_n hx hb dX12_bundleHas_7 rfl (lv_at hl 1 rfl) ?_
  refine lv_imul hx hb dX12_bundleHas_8 ?_
  refine tz_i (nI (4 * jb)) (pk_mul 4 jb) ?_
  refine lv_iadd hx hb dX12_bundleHas_9 ?_
  refine tz_i (nI (10 + (4 * jb))) (nI_add 10 (4 * jb)) ?_
  refine lv_iload_n hx hb dX12_bundleHas_10 rfl (lv_at hl 2 rfl) ?_
  refine lv_iadd hx hb dX12_bundleHas_11 ?_
  refine tz_i (nI ((10 + (4 * jb)) + 1)) (nI_add (10 + (4 * jb)) 1) ?_
  refine va_iald hx hb hK hP 1 0 rfl rfl (vp_in_nI (n := ((10 + (4 * jb)) + 1)) (N := 350) (by omega) (by decide)) dX12_bundleHas_12 ?_
  obtain ⟨j_1, hj_2, ej_3⟩ := hOn.natc (K := ((10 + (4 * jb)) + 1)) (n := 110) (by omega) (by omega) (tz_b_hi jb (by omega))
  refine tz_i (nI j_1) ej_3 ?_
  exact W.iret (v := (nI j_1)) hx hb hr (fun t ht hW => ⟨(nI j_1), rfl, ⟨j_1, by omega, rfl⟩, ht⟩) (fun _ h => absurd h List.not_mem_nil) dX12_bundleHas_13
set_option maxRecDepth 20000 in
theorem iw_m_bundleHas2_X12 : ∀ w ∈ wsX120, w ∈ wsX12_bundleHas := by decide +kernel
set_option maxHeartbeats 4000000 in
set_option maxRecDepth 100000 in
theorem m_bundleHas2 (l : Launch) (dC : Nat → ClassId) (dI : Nat → Nat → Nat) (mo : Nat) (nw : Nat) (kp : Nat) (ik : Nat) (mr : Nat) (la_ : Int64) (lb_ : Int64) (mw : Nat) (lc_ : Int64) (ti_ : Int32) (cb_ : Int32) (ld_ : Int64) (le_ : Int64) (mq : Nat) (mz : Nat) (my : Nat) (sm_ : Int32) (mb : Nat) (bl_ : Int32) (ta_ : Int32) (tl_ : Int32) (tk_ : Int32) (vl_ : Int32) (mx : Nat) (mv : Nat) (cn_ : ClassId) (fn : Nat → Int32) (jb : Nat) (hOn : tz_OK 350 fn) (hjb : jb < 5) : Met l yX12_bundleHas wsX12_bundleHas ({ frames := 0, cells := 0, slots := 0, locals := 0 }) (va_Pc [.ref mo, .int (nI jb), .int 2] (fun U => va_P (dC, dI) vwCl [(mo, .inr (12, [.ref nw, .ref kp, .ref ik, .ref mr, .long la_, .long lb_, .ref mw, .long lc_, .int ti_, .int cb_, .long ld_, .long le_, .ref mq, .ref mz, .ref my, .int sm_, .ref mb, .int bl_, .int ta_, .int tl_, .int tk_, .int vl_, .ref mx, .ref mv])), (nw, .inl (cn_, 350, .inl fn))] U.heap ∧ va_K (dC, dI) vwCl [(cn_, .int)] U)) (vp_Si (fun r => True)) 0 0 (fun _ => False) := by
  refine Met.ofW (cc := cX12_bundleHas) (maxL := 3) (ret := (some .int)) (by decide) rfl ?_
  intro p e s m args below meth c s₁ B hml hv
  obtain ⟨rfl, hP, hK⟩ := hv
  have hx := B.exec
  have hb := B.bytes
  have hr := B.returns
  have hts := atoms_spec (ws := wsX12_bundleHas) B.pre
  have hown : s.vm.findClass RX12 = some m.cls := findClass_of_methodNamed B.named
  have hlocks := B.notSynchronized
  have hl := lv_entry ([.ref mo, .int (nI jb), .int 2]) (n := 3) (Nat.le_of_ble_eq_true rfl)
  rw [lg_entry_eq]
  generalize (lg_sl ([.ref mo, .int (nI jb), .int 2]) ++ List.replicate (3 - (lg_sl ([.ref mo, .int (nI jb), .int 2])).length) Slot.unset).toArray = ls at hl ⊢
  have hl : lv_has ls 3 [(0, .ref mo), (1, .int (nI jb)), (2, .int 2)] := hl
  refine lv_aload_n hx hb dX12_bundleHas_0 rfl (lv_at hl 0 rfl) ?_
  refine va_get (D := (dC, dI)) (ci := 12) (v := .ref nw) (C := RX12) (T := TX12) (N := 24) hx hb hts iw_m_bundleHas2_X12 hown hK hP 0 rfl rfl 0 (by decide) (hts (.fieldLink RX12 7 "ThriceCountedModel" "now" "[I") (by decide +kernel)) (fun _ h9 => h9) rfl dX12_bundleHas_1 ?_
  refine lv_bipush (v := 10) hx hb dX12_bundleHas_4 (by decide) ?_
  refine lv_iconst (v := 4) hx hb dX12_bundleHas_6 (by decide) ?_
  refine lv_iload_n hx hb dX12_bundleHas_7 rfl (lv_at hl 1 rfl) ?_
  refine lv_imul hx hb dX12_bundleHas_8 ?_
  refine tz_i (nI (4 * jb)) (pk_mul 4 jb) ?_
  refine lv_iadd hx hb dX12_bundleHas_9 ?_
  refine tz_i (nI (10 + (4 * jb))) (nI_add 10 (4 * jb)) ?_
  refine lv_iload_n hx hb dX12_bundleHas_10 rfl (lv_at hl 2 rfl) ?_
  refine lv_iadd hx hb dX12_bundleHas_11 ?_
  refine tz_i (nI ((10 + (4 * jb)) + 2)) (nI_add (10 + (4 * jb)) 2) ?_
  refine va_iald hx hb hK hP 1 0 rfl rfl (vp_in_nI (n := ((10 + (4 * jb)) + 2)) (N := 350) (by omega) (by decide)) dX12_bundleHas_12 ?_
  refine lv_topi (fun x_1 ex_2 => ?_)
  exact W.iret (v := x_1) hx hb hr (fun t ht hW => ⟨x_1, rfl, trivial, ht⟩) (fun _ h => absurd h List.not_mem_nil) dX12_bundleHas_13
set_option maxRecDepth 20000 in
theorem iw_m_bundleHas3_X12 : ∀ w ∈ wsX120, w ∈ wsX12_bundleHas := by decide +kernel
set_option maxHeartbeats 4000000 in
set_option maxRecDepth 100000 in
theorem m_bundleHas3 (l : Launch) (dC : Nat → ClassId) (dI : Nat → Nat → Nat) (mo : Nat) (nw : Nat) (kp : Nat) (ik : Nat) (mr : Nat) (la_ : Int64) (lb_ : Int64) (mw : Nat) (lc_ : Int64) (ti_ : Int32) (cb_ : Int32) (ld_ : Int64) (le_ : Int64) (mq : Nat) (mz : Nat) (my : Nat) (sm_ : Int32) (mb : Nat) (bl_ : Int32) (ta_ : Int32) (tl_ : Int32) (tk_ : Int32) (vl_ : Int32) (mx : Nat) (mv : Nat) (cn_ : ClassId) (fn : Nat → Int32) (jb : Nat) (hOn : tz_OK 350 fn) (hjb : jb < 5) : Met l yX12_bundleHas wsX12_bundleHas ({ frames := 0, cells := 0, slots := 0, locals := 0 }) (va_Pc [.ref mo, .int (nI jb), .int 3] (fun U => va_P (dC, dI) vwCl [(mo, .inr (12, [.ref nw, .ref kp, .ref ik, .ref mr, .long la_, .long lb_, .ref mw, .long lc_, .int ti_, .int cb_, .long ld_, .long le_, .ref mq, .ref mz, .ref my, .int sm_, .ref mb, .int bl_, .int ta_, .int tl_, .int tk_, .int vl_, .ref mx, .ref mv])), (nw, .inl (cn_, 350, .inl fn))] U.heap ∧ va_K (dC, dI) vwCl [(cn_, .int)] U)) (vp_Si (fun r => -1 ≤ r.toInt ∧ r.toInt ≤ 4)) 0 0 (fun _ => False) := by
  refine Met.ofW (cc := cX12_bundleHas) (maxL := 3) (ret := (some .int)) (by decide) rfl ?_
  intro p e s m args below meth c s₁ B hml hv
  obtain ⟨rfl, hP, hK⟩ := hv
  have hx := B.exec
  have hb := B.bytes
  have hr := B.returns
  have hts := atoms_spec (ws := wsX12_bundleHas) B.pre
  have hown : s.vm.findClass RX12 = some m.cls := findClass_of_methodNamed B.named
  have hlocks := B.notSynchronized
  have hl := lv_entry ([.ref mo, .int (nI jb), .int 3]) (n := 3) (Nat.le_of_ble_eq_true rfl)
  rw [lg_entry_eq]
  generalize (lg_sl ([.ref mo, .int (nI jb), .int 3]) ++ List.replicate (3 - (lg_sl ([.ref mo, .int (nI jb), .int 3])).length) Slot.unset).toArray = ls at hl ⊢
  have hl : lv_has ls 3 [(0, .ref mo), (1, .int (nI jb)), (2, .int 3)] := hl
  refine lv_aload_n hx hb dX12_bundleHas_0 rfl (lv_at hl 0 rfl) ?_
  refine va_get (D := (dC, dI)) (ci := 12) (v := .ref nw) (C := RX12) (T := TX12) (N := 24) hx hb hts iw_m_bundleHas3_X12 hown hK hP 0 rfl rfl 0 (by decide) (hts (.fieldLink RX12 7 "ThriceCountedModel" "now" "[I") (by decide +kernel)) (fun _ h9 => h9) rfl dX12_bundleHas_1 ?_
  refine lv_bipush (v := 10) hx hb dX12_bundleHas_4 (by decide) ?_
  refine lv_iconst (v := 4) hx hb dX12_bundleHas_6 (by decide) ?_
  refine lv_iload_n hx hb dX12_bundleHas_7 rfl (lv_at hl 1 rfl) ?_
  refine lv_imul hx hb dX12_bundleHas_8 ?_
  refine tz_i (nI (4 * jb)) (pk_mul 4 jb) ?_
  refine lv_iadd hx hb dX12_bundleHas_9 ?_
  refine tz_i (nI (10 + (4 * jb))) (nI_add 10 (4 * jb)) ?_
  refine lv_iload_n hx hb dX12_bundleHas_10 rfl (lv_at hl 2 rfl) ?_
  refine lv_iadd hx hb dX12_bundleHas_11 ?_
  refine tz_i (nI ((10 + (4 * jb)) + 3)) (nI_add (10 + (4 * jb)) 3) ?_
  refine va_iald hx hb hK hP 1 0 rfl rfl (vp_in_nI (n := ((10 + (4 * jb)) + 3)) (N := 350) (by omega) (by decide)) dX12_bundleHas_12 ?_
  refine lv_topi (fun x_1 ex_2 => ?_)
  have hb_3 : -1 ≤ x_1.toInt ∧ x_1.toInt ≤ 4 := tz_ld_at hOn (by omega) ex_2 (by omega) (tz_b_si jb (by omega))
  exact W.iret (v := x_1) hx hb hr (fun t ht hW => ⟨x_1, rfl, hb_3, ht⟩) (fun _ h => absurd h List.not_mem_nil) dX12_bundleHas_13
set_option maxRecDepth 20000 in
theorem iw_m_bundleHasX_X12 : ∀ w ∈ wsX120, w ∈ wsX12_bundleHas := by decide +kernel
set_option maxHeartbeats 4000000 in
set_option maxRecDepth 100000 in
theorem m_bundleHasX (l : Launch) (dC : Nat → ClassId) (dI : Nat → Nat → Nat) (mo : Nat) (nw : Nat) (kp : Nat) (ik : Nat) (mr : Nat) (la_ : Int64) (lb_ : Int64) (mw : Nat) (lc_ : Int64) (ti_ : Int32) (cb_ : Int32) (ld_ : Int64) (le_ : Int64) (mq : Nat) (mz : Nat) (my : Nat) (sm_ : Int32) (mb : Nat) (bl_ : Int32) (ta_ : Int32) (tl_ : Int32) (tk_ : Int32) (vl_ : Int32) (mx : Nat) (mv : Nat) (cn_ : ClassId) (fn : Nat → Int32) (jb : Nat) (jd : Nat) (hOn : tz_OK 350 fn) (hjb : jb < 5) (hjd : jd < 4) : Met l yX12_bundleHas wsX12_bundleHas ({ frames := 0, cells := 0, slots := 0, locals := 0 }) (va_Pc [.ref mo, .int (nI jb), .int (nI jd)] (fun U => va_P (dC, dI) vwCl [(mo, .inr (12, [.ref nw, .ref kp, .ref ik, .ref mr, .long la_, .long lb_, .ref mw, .long lc_, .int ti_, .int cb_, .long ld_, .long le_, .ref mq, .ref mz, .ref my, .int sm_, .ref mb, .int bl_, .int ta_, .int tl_, .int tk_, .int vl_, .ref mx, .ref mv])), (nw, .inl (cn_, 350, .inl fn))] U.heap ∧ va_K (dC, dI) vwCl [(cn_, .int)] U)) (vp_Si (fun r => True)) 0 0 (fun _ => False) := by
  refine Met.ofW (cc := cX12_bundleHas) (maxL := 3) (ret := (some .int)) (by decide) rfl ?_
  intro p e s m args below meth c s₁ B hml hv
  obtain ⟨rfl, hP, hK⟩ := hv
  have hx := B.exec
  have hb := B.bytes
  have hr := B.returns
  have hts := atoms_spec (ws := wsX12_bundleHas) B.pre
  have hown : s.vm.findClass RX12 = some m.cls := findClass_of_methodNamed B.named
  have hlocks := B.notSynchronized
  have hl := lv_entry ([.ref mo, .int (nI jb), .int (nI jd)]) (n := 3) (Nat.le_of_ble_eq_true rfl)
  rw [lg_entry_eq]
  generalize (lg_sl ([.ref mo, .int (nI jb), .int (nI jd)]) ++ List.replicate (3 - (lg_sl ([.ref mo, .int (nI jb), .int (nI jd)])).length) Slot.unset).toArray = ls at hl ⊢
  have hl : lv_has ls 3 [(0, .ref mo), (1, .int (nI jb)), (2, .int (nI jd))] := hl
  refine lv_aload_n hx hb dX12_bundleHas_0 rfl (lv_at hl 0 rfl) ?_
  refine va_get (D := (dC, dI)) (ci := 12) (v := .ref nw) (C := RX12) (T := TX12) (N := 24) hx hb hts iw_m_bundleHasX_X12 hown hK hP 0 rfl rfl 0 (by decide) (hts (.fieldLink RX12 7 "ThriceCountedModel" "now" "[I") (by decide +kernel)) (fun _ h9 => h9) rfl dX12_bundleHas_1 ?_
  refine lv_bipush (v := 10) hx hb dX12_bundleHas_4 (by decide) ?_
  refine lv_iconst (v := 4) hx hb dX12_bundleHas_6 (by decide) ?_
  refine lv_iload_n hx hb dX12_bundleHas_7 rfl (lv_at hl 1 rfl) ?_
  refine lv_imul hx hb dX12_bundleHas_8 ?_
  refine tz_i (nI (4 * jb)) (pk_mul 4 jb) ?_
  refine lv_iadd hx hb dX12_bundleHas_9 ?_
  refine tz_i (nI (10 + (4 * jb))) (nI_add 10 (4 * jb)) ?_
  refine lv_iload_n hx hb dX12_bundleHas_10 rfl (lv_at hl 2 rfl) ?_
  refine lv_iadd hx hb dX12_bundleHas_11 ?_
  refine tz_i (nI ((10 + (4 * jb)) + jd)) (nI_add (10 + (4 * jb)) jd) ?_
  refine va_iald hx hb hK hP 1 0 rfl rfl (vp_in_nI (n := ((10 + (4 * jb)) + jd)) (N := 350) (by omega) (by decide)) dX12_bundleHas_12 ?_
  refine lv_topi (fun x_1 ex_2 => ?_)
  have hb_3 : tz_bd ((10 + (4 * jb)) + jd) x_1 := tz_bd_ld hOn (by omega) ex_2 (by omega)
  exact W.iret (v := x_1) hx hb hr (fun t ht hW => ⟨x_1, rfl, trivial, ht⟩) (fun _ h => absurd h List.not_mem_nil) dX12_bundleHas_13
theorem dX12_countHas_0 : decode cX12_countHas 0 = .ok (.aload_n 0, 1) := by decide +kernel
theorem dX12_countHas_1 : decode cX12_countHas 1 = .ok (.getfield 7, 3) := by decide +kernel
theorem dX12_countHas_4 : decode cX12_countHas 4 = .ok (.bipush 30, 2) := by decide +kernel
theorem dX12_countHas_6 : decode cX12_countHas 6 = .ok (.iconst 4, 1) := by decide +kernel
theorem dX12_countHas_7 : decode cX12_countHas 7 = .ok (.iload_n 1, 1) := by decide +kernel
theorem dX12_countHas_8 : decode cX12_countHas 8 = .ok (.imul, 1) := by decide +kernel
theorem dX12_countHas_9 : decode cX12_countHas 9 = .ok (.iadd, 1) := by decide +kernel
theorem dX12_countHas_10 : decode cX12_countHas 10 = .ok (.iload_n 2, 1) := by decide +kernel
theorem dX12_countHas_11 : decode cX12_countHas 11 = .ok (.iadd, 1) := by decide +kernel
theorem dX12_countHas_12 : decode cX12_countHas 12 = .ok (.iaload, 1) := by decide +kernel
theorem dX12_countHas_13 : decode cX12_countHas 13 = .ok (.ireturn, 1) := by decide +kernel
set_option maxRecDepth 20000 in
theorem iw_m_countHas0_X12 : ∀ w ∈ wsX120, w ∈ wsX12_countHas := by decide +kernel
set_option maxHeartbeats 4000000 in
set_option maxRecDepth 100000 in
theorem m_countHas0 (l : Launch) (dC : Nat → ClassId) (dI : Nat → Nat → Nat) (mo : Nat) (nw : Nat) (kp : Nat) (ik : Nat) (mr : Nat) (la_ : Int64) (lb_ : Int64) (mw : Nat) (lc_ : Int64) (ti_ : Int32) (cb_ : Int32) (ld_ : Int64) (le_ : Int64) (mq : Nat) (mz : Nat) (my : Nat) (sm_ : Int32) (mb : Nat) (bl_ : Int32) (ta_ : Int32) (tl_ : Int32) (tk_ : Int32) (vl_ : Int32) (mx : Nat) (mv : Nat) (cn_ : ClassId) (fn : Nat → Int32) (jb : Nat) (hOn : tz_OK 350 fn) (hjb : jb < 8) : Met l yX12_countHas wsX12_countHas ({ frames := 0, cells := 0, slots := 0, locals := 0 }) (va_Pc [.ref mo, .int (nI jb), .int 0] (fun U => va_P (dC, dI) vwCl [(mo, .inr (12, [.ref nw, .ref kp, .ref ik, .ref mr, .long la_, .long lb_, .ref mw, .long lc_, .int ti_, .int cb_, .long ld_, .long le_, .ref mq, .ref mz, .ref my, .int sm_, .ref mb, .int bl_, .int ta_, .int tl_, .int tk_, .int vl_, .ref mx, .ref mv])), (nw, .inl (cn_, 350, .inl fn))] U.heap ∧ va_K (dC, dI) vwCl [(cn_, .int)] U)) (vp_Si (fun r => ∃ j : Nat, j ≤ 4 ∧ r = nI j)) 0 0 (fun _ => False) := by
  refine Met.ofW (cc := cX12_countHas) (maxL := 3) (ret := (some .int)) (by decide) rfl ?_
  intro p e s m args below meth c s₁ B hml hv
  obtain ⟨rfl, hP, hK⟩ := hv
  have hx := B.exec
  have hb := B.bytes
  have hr := B.returns
  have hts := atoms_spec (ws := wsX12_countHas) B.pre
  have hown : s.vm.findClass RX12 = some m.cls := findClass_of_methodNamed B.named
  have hlocks := B.notSynchronized
  have hl := lv_entry ([.ref mo, .int (nI jb), .int 0]) (n := 3) (Nat.le_of_ble_eq_true rfl)
  rw [lg_entry_eq]
  generalize (lg_sl ([.ref mo, .int (nI jb), .int 0]) ++ List.replicate (3 - (lg_sl ([.ref mo, .int (nI jb), .int 0])).length) Slot.unset).toArray = ls at hl ⊢
  have hl : lv_has ls 3 [(0, .ref mo), (1, .int (nI jb)), (2, .int 0)] := hl
  refine lv_aload_n hx hb dX12_countHas_0 rfl (lv_at hl 0 rfl) ?_
  refine va_get (D := (dC, dI)) (ci := 12) (v := .ref nw) (C := RX12) (T := TX12) (N := 24) hx hb hts iw_m_countHas0_X12 hown hK hP 0 rfl rfl 0 (by decide) (hts (.fieldLink RX12 7 "ThriceCountedModel" "now" "[I") (by decide +kernel)) (fun _ h9 => h9) rfl dX12_countHas_1 ?_
  refine lv_bipush (v := 30) hx hb dX12_countHas_4 (by decide) ?_
  refine lv_iconst (v := 4) hx hb dX12_countHas_6 (by decide) ?_
  refine lv_iload_n hx hb dX12_countHas_7 rfl (lv_at hl 1 rfl) ?_
  refine lv_imul hx hb dX12_countHas_8 ?_
  refine tz_i (nI (4 * jb)) (pk_mul 4 jb) ?_
  refine lv_iadd hx hb dX12_countHas_9 ?_
  refine tz_i (nI (30 + (4 * jb))) (nI_add 30 (4 * jb)) ?_
  refine lv_iload_n hx hb dX12_countHas_10 rfl (lv_at hl 2 rfl) ?_
  refine lv_iadd hx hb dX12_countHas_11 ?_
  refine tz_i (nI ((30 + (4 * jb)) + 0)) (nI_add (30 + (4 * jb)) 0) ?_
  refine va_iald hx hb hK hP 1 0 rfl rfl (vp_in_nI (n := ((30 + (4 * jb)) + 0)) (N := 350) (by omega) (by decide)) dX12_countHas_12 ?_
  obtain ⟨j_1, hj_2, ej_3⟩ := hOn.natc (K := ((30 + (4 * jb)) + 0)) (n := 4) (by omega) (by omega) (tz_b_of jb (by omega))
  refine tz_i (nI j_1) ej_3 ?_
  exact W.iret (v := (nI j_1)) hx hb hr (fun t ht hW => ⟨(nI j_1), rfl, ⟨j_1, by omega, rfl⟩, ht⟩) (fun _ h => absurd h List.not_mem_nil) dX12_countHas_13
set_option maxRecDepth 20000 in
theorem iw_m_countHas1_X12 : ∀ w ∈ wsX120, w ∈ wsX12_countHas := by decide +kernel
set_option maxHeartbeats 4000000 in
set_option maxRecDepth 100000 in
theorem m_countHas1 (l : Launch) (dC : Nat → ClassId) (dI : Nat → Nat → Nat) (mo : Nat) (nw : Nat) (kp : Nat) (ik : Nat) (mr : Nat) (la_ : Int64) (lb_ : Int64) (mw : Nat) (lc_ : Int64) (ti_ : Int32) (cb_ : Int32) (ld_ : Int64) (le_ : Int64) (mq : Nat) (mz : Nat) (my : Nat) (sm_ : Int32) (mb : Nat) (bl_ : Int32) (ta_ : Int32) (tl_ : Int32) (tk_ : Int32) (vl_ : Int32) (mx : Nat) (mv : Nat) (cn_ : ClassId) (fn : Nat → Int32) (jb : Nat) (hOn : tz_OK 350 fn) (hjb : jb < 8) : Met l yX12_countHas wsX12_countHas ({ frames := 0, cells := 0, slots := 0, locals := 0 }) (va_Pc [.ref mo, .int (nI jb), .int 1] (fun U => va_P (dC, dI) vwCl [(mo, .inr (12, [.ref nw, .ref kp, .ref ik, .ref mr, .long la_, .long lb_, .ref mw, .long lc_, .int ti_, .int cb_, .long ld_, .long le_, .ref mq, .ref mz, .ref my, .int sm_, .ref mb, .int bl_, .int ta_, .int tl_, .int tk_, .int vl_, .ref mx, .ref mv])), (nw, .inl (cn_, 350, .inl fn))] U.heap ∧ va_K (dC, dI) vwCl [(cn_, .int)] U)) (vp_Si (fun r => ∃ j : Nat, j ≤ 5 ∧ r = nI j)) 0 0 (fun _ => False) := by
  refine Met.ofW (cc := cX12_countHas) (maxL := 3) (ret := (some .int)) (by decide) rfl ?_
  intro p e s m args below meth c s₁ B hml hv
  obtain ⟨rfl, hP, hK⟩ := hv
  have hx := B.exec
  have hb := B.bytes
  have hr := B.returns
  have hts := atoms_spec (ws := wsX12_countHas) B.pre
  have hown : s.vm.findClass RX12 = some m.cls := findClass_of_methodNamed B.named
  have hlocks := B.notSynchronized
  have hl := lv_entry ([.ref mo, .int (nI jb), .int 1]) (n := 3) (Nat.le_of_ble_eq_true rfl)
  rw [lg_entry_eq]
  generalize (lg_sl ([.ref mo, .int (nI jb), .int 1]) ++ List.replicate (3 - (lg_sl ([.ref mo, .int (nI jb), .int 1])).length) Slot.unset).toArray = ls at hl ⊢
  have hl : lv_has ls 3 [(0, .ref mo), (1, .int (nI jb)), (2, .int 1)] := hl
  refine lv_aload_n hx hb dX12_countHas_0 rfl (lv_at hl 0 rfl) ?_
  refine va_get (D := (dC, dI)) (ci := 12) (v := .ref nw) (C := RX12) (T := TX12) (N := 24) hx hb hts iw_m_countHas1_X12 hown hK hP 0 rfl rfl 0 (by decide) (hts (.fieldLink RX12 7 "ThriceCountedModel" "now" "[I") (by decide +kernel)) (fun _ h9 => h9) rfl dX12_countHas_1 ?_
  refine lv_bipush (v := 30) hx hb dX12_countHas_4 (by decide) ?_
  refine lv_iconst (v := 4) hx hb dX12_countHas_6 (by decide) ?_
  refine lv_iload_n hx hb dX12_countHas_7 rfl (lv_at hl 1 rfl) ?_
  refine lv_imul hx hb dX12_countHas_8 ?_
  refine tz_i (nI (4 * jb)) (pk_mul 4 jb) ?_
  refine lv_iadd hx hb dX12_countHas_9 ?_
  refine tz_i (nI (30 + (4 * jb))) (nI_add 30 (4 * jb)) ?_
  refine lv_iload_n hx hb dX12_countHas_10 rfl (lv_at hl 2 rfl) ?_
  refine lv_iadd hx hb dX12_countHas_11 ?_
  refine tz_i (nI ((30 + (4 * jb)) + 1)) (nI_add (30 + (4 * jb)) 1) ?_
  refine va_iald hx hb hK hP 1 0 rfl rfl (vp_in_nI (n := ((30 + (4 * jb)) + 1)) (N := 350) (by omega) (by decide)) dX12_countHas_12 ?_
  obtain ⟨j_1, hj_2, ej_3⟩ := hOn.natc (K := ((30 + (4 * jb)) + 1)) (n := 5) (by omega) (by omega) (tz_b_wy jb (by omega))
  refine tz_i (nI j_1) ej_3 ?_
  exact W.iret (v := (nI j_1)) hx hb hr (fun t ht hW => ⟨(nI j_1), rfl, ⟨j_1, by omega, rfl⟩, ht⟩) (fun _ h => absurd h List.not_mem_nil) dX12_countHas_13
set_option maxRecDepth 20000 in
theorem iw_m_countHas2_X12 : ∀ w ∈ wsX120, w ∈ wsX12_countHas := by decide +kernel
set_option maxHeartbeats 4000000 in
set_option maxRecDepth 100000 in
theorem m_countHas2 (l : Launch) (dC : Nat → ClassId) (dI : Nat → Nat → Nat) (mo : Nat) (nw : Nat) (kp : Nat) (ik : Nat) (mr : Nat) (la_ : Int64) (lb_ : Int64) (mw : Nat) (lc_ : Int64) (ti_ : Int32) (cb_ : Int32) (ld_ : Int64) (le_ : Int64) (mq : Nat) (mz : Nat) (my : Nat) (sm_ : Int32) (mb : Nat) (bl_ : Int32) (ta_ : Int32) (tl_ : Int32) (tk_ : Int32) (vl_ : Int32) (mx : Nat) (mv : Nat) (cn_ : ClassId) (fn : Nat → Int32) (jb : Nat) (hOn : tz_OK 350 fn) (hjb : jb < 8) : Met l yX12_countHas wsX12_countHas ({ frames := 0, cells := 0, slots := 0, locals := 0 }) (va_Pc [.ref mo, .int (nI jb), .int 2] (fun U => va_P (dC, dI) vwCl [(mo, .inr (12, [.ref nw, .ref kp, .ref ik, .ref mr, .long la_, .long lb_, .ref mw, .long lc_, .int ti_, .int cb_, .long ld_, .long le_, .ref mq, .ref mz, .ref my, .int sm_, .ref mb, .int bl_, .int ta_, .int tl_, .int tk_, .int vl_, .ref mx, .ref mv])), (nw, .inl (cn_, 350, .inl fn))] U.heap ∧ va_K (dC, dI) vwCl [(cn_, .int)] U)) (vp_Si (fun r => True)) 0 0 (fun _ => False) := by
  refine Met.ofW (cc := cX12_countHas) (maxL := 3) (ret := (some .int)) (by decide) rfl ?_
  intro p e s m args below meth c s₁ B hml hv
  obtain ⟨rfl, hP, hK⟩ := hv
  have hx := B.exec
  have hb := B.bytes
  have hr := B.returns
  have hts := atoms_spec (ws := wsX12_countHas) B.pre
  have hown : s.vm.findClass RX12 = some m.cls := findClass_of_methodNamed B.named
  have hlocks := B.notSynchronized
  have hl := lv_entry ([.ref mo, .int (nI jb), .int 2]) (n := 3) (Nat.le_of_ble_eq_true rfl)
  rw [lg_entry_eq]
  generalize (lg_sl ([.ref mo, .int (nI jb), .int 2]) ++ List.replicate (3 - (lg_sl ([.ref mo, .int (nI jb), .int 2])).length) Slot.unset).toArray = ls at hl ⊢
  have hl : lv_has ls 3 [(0, .ref mo), (1, .int (nI jb)), (2, .int 2)] := hl
  refine lv_aload_n hx hb dX12_countHas_0 rfl (lv_at hl 0 rfl) ?_
  refine va_get (D := (dC, dI)) (ci := 12) (v := .ref nw) (C := RX12) (T := TX12) (N := 24) hx hb hts iw_m_countHas2_X12 hown hK hP 0 rfl rfl 0 (by decide) (hts (.fieldLink RX12 7 "ThriceCountedModel" "now" "[I") (by decide +kernel)) (fun _ h9 => h9) rfl dX12_countHas_1 ?_
  refine lv_bipush (v := 30) hx hb dX12_countHas_4 (by decide) ?_
  refine lv_iconst (v := 4) hx hb dX12_countHas_6 (by decide) ?_
  refine lv_iload_n hx hb dX12_countHas_7 rfl (lv_at hl 1 rfl) ?_
  refine lv_imul hx hb dX12_countHas_8 ?_
  refine tz_i (nI (4 * jb)) (pk_mul 4 jb) ?_
  refine lv_iadd hx hb dX12_countHas_9 ?_
  refine tz_i (nI (30 + (4 * jb))) (nI_add 30 (4 * jb)) ?_
  refine lv_iload_n hx hb dX12_countHas_10 rfl (lv_at hl 2 rfl) ?_
  refine lv_iadd hx hb dX12_countHas_11 ?_
  refine tz_i (nI ((30 + (4 * jb)) + 2)) (nI_add (30 + (4 * jb)) 2) ?_
  refine va_iald hx hb hK hP 1 0 rfl rfl (vp_in_nI (n := ((30 + (4 * jb)) + 2)) (N := 350) (by omega) (by decide)) dX12_countHas_12 ?_
  refine lv_topi (fun x_1 ex_2 => ?_)
  exact W.iret (v := x_1) hx hb hr (fun t ht hW => ⟨x_1, rfl, trivial, ht⟩) (fun _ h => absurd h List.not_mem_nil) dX12_countHas_13
set_option maxRecDepth 20000 in
theorem iw_m_countHas3_X12 : ∀ w ∈ wsX120, w ∈ wsX12_countHas := by decide +kernel
set_option maxHeartbeats 4000000 in
set_option maxRecDepth 100000 in
theorem m_countHas3 (l : Launch) (dC : Nat → ClassId) (dI : Nat → Nat → Nat) (mo : Nat) (nw : Nat) (kp : Nat) (ik : Nat) (mr : Nat) (la_ : Int64) (lb_ : Int64) (mw : Nat) (lc_ : Int64) (ti_ : Int32) (cb_ : Int32) (ld_ : Int64) (le_ : Int64) (mq : Nat) (mz : Nat) (my : Nat) (sm_ : Int32) (mb : Nat) (bl_ : Int32) (ta_ : Int32) (tl_ : Int32) (tk_ : Int32) (vl_ : Int32) (mx : Nat) (mv : Nat) (cn_ : ClassId) (fn : Nat → Int32) (jb : Nat) (hOn : tz_OK 350 fn) (hjb : jb < 8) : Met l yX12_countHas wsX12_countHas ({ frames := 0, cells := 0, slots := 0, locals := 0 }) (va_Pc [.ref mo, .int (nI jb), .int 3] (fun U => va_P (dC, dI) vwCl [(mo, .inr (12, [.ref nw, .ref kp, .ref ik, .ref mr, .long la_, .long lb_, .ref mw, .long lc_, .int ti_, .int cb_, .long ld_, .long le_, .ref mq, .ref mz, .ref my, .int sm_, .ref mb, .int bl_, .int ta_, .int tl_, .int tk_, .int vl_, .ref mx, .ref mv])), (nw, .inl (cn_, 350, .inl fn))] U.heap ∧ va_K (dC, dI) vwCl [(cn_, .int)] U)) (vp_Si (fun r => True)) 0 0 (fun _ => False) := by
  refine Met.ofW (cc := cX12_countHas) (maxL := 3) (ret := (some .int)) (by decide) rfl ?_
  intro p e s m args below meth c s₁ B hml hv
  obtain ⟨rfl, hP, hK⟩ := hv
  have hx := B.exec
  have hb := B.bytes
  have hr := B.returns
  have hts := atoms_spec (ws := wsX12_countHas) B.pre
  have hown : s.vm.findClass RX12 = some m.cls := findClass_of_methodNamed B.named
  have hlocks := B.notSynchronized
  have hl := lv_entry ([.ref mo, .int (nI jb), .int 3]) (n := 3) (Nat.le_of_ble_eq_true rfl)
  rw [lg_entry_eq]
  generalize (lg_sl ([.ref mo, .int (nI jb), .int 3]) ++ List.replicate (3 - (lg_sl ([.ref mo, .int (nI jb), .int 3])).length) Slot.unset).toArray = ls at hl ⊢
  have hl : lv_has ls 3 [(0, .ref mo), (1, .int (nI jb)), (2, .int 3)] := hl
  refine lv_aload_n hx hb dX12_countHas_0 rfl (lv_at hl 0 rfl) ?_
  refine va_get (D := (dC, dI)) (ci := 12) (v := .ref nw) (C := RX12) (T := TX12) (N := 24) hx hb hts iw_m_countHas3_X12 hown hK hP 0 rfl rfl 0 (by decide) (hts (.fieldLink RX12 7 "ThriceCountedModel" "now" "[I") (by decide +kernel)) (fun _ h9 => h9) rfl dX12_countHas_1 ?_
  refine lv_bipush (v := 30) hx hb dX12_countHas_4 (by decide) ?_
  refine lv_iconst (v := 4) hx hb dX12_countHas_6 (by decide) ?_
  refine lv_iload_n hx hb dX12_countHas_7 rfl (lv_at hl 1 rfl) ?_
  refine lv_imul hx hb dX12_countHas_8 ?_
  refine tz_i (nI (4 * jb)) (pk_mul 4 jb) ?_
  refine lv_iadd hx hb dX12_countHas_9 ?_
  refine tz_i (nI (30 + (4 * jb))) (nI_add 30 (4 * jb)) ?_
  refine lv_iload_n hx hb dX12_countHas_10 rfl (lv_at hl 2 rfl) ?_
  refine lv_iadd hx hb dX12_countHas_11 ?_
  refine tz_i (nI ((30 + (4 * jb)) + 3)) (nI_add (30 + (4 * jb)) 3) ?_
  refine va_iald hx hb hK hP 1 0 rfl rfl (vp_in_nI (n := ((30 + (4 * jb)) + 3)) (N := 350) (by omega) (by decide)) dX12_countHas_12 ?_
  refine lv_topi (fun x_1 ex_2 => ?_)
  exact W.iret (v := x_1) hx hb hr (fun t ht hW => ⟨x_1, rfl, trivial, ht⟩) (fun _ h => absurd h List.not_mem_nil) dX12_countHas_13
set_option maxRecDepth 20000 in
theorem iw_m_countHasX_X12 : ∀ w ∈ wsX120, w ∈ wsX12_countHas := by decide +kernel
set_option maxHeartbeats 4000000 in
set_option maxRecDepth 100000 in
theorem m_countHasX (l : Launch) (dC : Nat → ClassId) (dI : Nat → Nat → Nat) (mo : Nat) (nw : Nat) (kp : Nat) (ik : Nat) (mr : Nat) (la_ : Int64) (lb_ : Int64) (mw : Nat) (lc_ : Int64) (ti_ : Int32) (cb_ : Int32) (ld_ : Int64) (le_ : Int64) (mq : Nat) (mz : Nat) (my : Nat) (sm_ : Int32) (mb : Nat) (bl_ : Int32) (ta_ : Int32) (tl_ : Int32) (tk_ : Int32) (vl_ : Int32) (mx : Nat) (mv : Nat) (cn_ : ClassId) (fn : Nat → Int32) (jb : Nat) (jd : Nat) (hOn : tz_OK 350 fn) (hjb : jb < 8) (hjd : jd < 4) : Met l yX12_countHas wsX12_countHas ({ frames := 0, cells := 0, slots := 0, locals := 0 }) (va_Pc [.ref mo, .int (nI jb), .int (nI jd)] (fun U => va_P (dC, dI) vwCl [(mo, .inr (12, [.ref nw, .ref kp, .ref ik, .ref mr, .long la_, .long lb_, .ref mw, .long lc_, .int ti_, .int cb_, .long ld_, .long le_, .ref mq, .ref mz, .ref my, .int sm_, .ref mb, .int bl_, .int ta_, .int tl_, .int tk_, .int vl_, .ref mx, .ref mv])), (nw, .inl (cn_, 350, .inl fn))] U.heap ∧ va_K (dC, dI) vwCl [(cn_, .int)] U)) (vp_Si (fun r => True)) 0 0 (fun _ => False) := by
  refine Met.ofW (cc := cX12_countHas) (maxL := 3) (ret := (some .int)) (by decide) rfl ?_
  intro p e s m args below meth c s₁ B hml hv
  obtain ⟨rfl, hP, hK⟩ := hv
  have hx := B.exec
  have hb := B.bytes
  have hr := B.returns
  have hts := atoms_spec (ws := wsX12_countHas) B.pre
  have hown : s.vm.findClass RX12 = some m.cls := findClass_of_methodNamed B.named
  have hlocks := B.notSynchronized
  have hl := lv_entry ([.ref mo, .int (nI jb), .int (nI jd)]) (n := 3) (Nat.le_of_ble_eq_true rfl)
  rw [lg_entry_eq]
  generalize (lg_sl ([.ref mo, .int (nI jb), .int (nI jd)]) ++ List.replicate (3 - (lg_sl ([.ref mo, .int (nI jb), .int (nI jd)])).length) Slot.unset).toArray = ls at hl ⊢
  have hl : lv_has ls 3 [(0, .ref mo), (1, .int (nI jb)), (2, .int (nI jd))] := hl
  refine lv_aload_n hx hb dX12_countHas_0 rfl (lv_at hl 0 rfl) ?_
  refine va_get (D := (dC, dI)) (ci := 12) (v := .ref nw) (C := RX12) (T := TX12) (N := 24) hx hb hts iw_m_countHasX_X12 hown hK hP 0 rfl rfl 0 (by decide) (hts (.fieldLink RX12 7 "ThriceCountedModel" "now" "[I") (by decide +kernel)) (fun _ h9 => h9) rfl dX12_countHas_1 ?_
  refine lv_bipush (v := 30) hx hb dX12_countHas_4 (by decide) ?_
  refine lv_iconst (v := 4) hx hb dX12_countHas_6 (by decide) ?_
  refine lv_iload_n hx hb dX12_countHas_7 rfl (lv_at hl 1 rfl) ?_
  refine lv_imul hx hb dX12_countHas_8 ?_
  refine tz_i (nI (4 * jb)) (pk_mul 4 jb) ?_
  refine lv_iadd hx hb dX12_countHas_9 ?_
  refine tz_i (nI (30 + (4 * jb))) (nI_add 30 (4 * jb)) ?_
  refine lv_iload_n hx hb dX12_countHas_10 rfl (lv_at hl 2 rfl) ?_
  refine lv_iadd hx hb dX12_countHas_11 ?_
  refine tz_i (nI ((30 + (4 * jb)) + jd)) (nI_add (30 + (4 * jb)) jd) ?_
  refine va_iald hx hb hK hP 1 0 rfl rfl (vp_in_nI (n := ((30 + (4 * jb)) + jd)) (N := 350) (by omega) (by decide)) dX12_countHas_12 ?_
  refine lv_topi (fun x_1 ex_2 => ?_)
  have hb_3 : tz_bd ((30 + (4 * jb)) + jd) x_1 := tz_bd_ld hOn (by omega) ex_2 (by omega)
  exact W.iret (v := x_1) hx hb hr (fun t ht hW => ⟨x_1, rfl, trivial, ht⟩) (fun _ h => absurd h List.not_mem_nil) dX12_countHas_13
theorem dX12_causeHas_0 : decode cX12_causeHas 0 = .ok (.aload_n 0, 1) := by decide +kernel
theorem dX12_causeHas_1 : decode cX12_causeHas 1 = .ok (.getfield 7, 3) := by decide +kernel
theorem dX12_causeHas_4 : decode cX12_causeHas 4 = .ok (.bipush 62, 2) := by decide +kernel
theorem dX12_causeHas_6 : decode cX12_causeHas 6 = .ok (.iconst 4, 1) := by decide +kernel
theorem dX12_causeHas_7 : decode cX12_causeHas 7 = .ok (.iload_n 1, 1) := by decide +kernel
theorem dX12_causeHas_8 : decode cX12_causeHas 8 = .ok (.imul, 1) := by decide +kernel
theorem dX12_causeHas_9 : decode cX12_causeHas 9 = .ok (.iadd, 1) := by decide +kernel
theorem dX12_causeHas_10 : decode cX12_causeHas 10 = .ok (.iload_n 2, 1) := by decide +kernel
theorem dX12_causeHas_11 : decode cX12_causeHas 11 = .ok (.iadd, 1) := by decide +kernel
theorem dX12_causeHas_12 : decode cX12_causeHas 12 = .ok (.iaload, 1) := by decide +kernel
theorem dX12_causeHas_13 : decode cX12_causeHas 13 = .ok (.ireturn, 1) := by decide +kernel
set_option maxRecDepth 20000 in
theorem iw_m_causeHas0_X12 : ∀ w ∈ wsX120, w ∈ wsX12_causeHas := by decide +kernel
set_option maxHeartbeats 4000000 in
set_option maxRecDepth 100000 in
theorem m_causeHas0 (l : Launch) (dC : Nat → ClassId) (dI : Nat → Nat → Nat) (mo : Nat) (nw : Nat) (kp : Nat) (ik : Nat) (mr : Nat) (la_ : Int64) (lb_ : Int64) (mw : Nat) (lc_ : Int64) (ti_ : Int32) (cb_ : Int32) (ld_ : Int64) (le_ : Int64) (mq : Nat) (mz : Nat) (my : Nat) (sm_ : Int32) (mb : Nat) (bl_ : Int32) (ta_ : Int32) (tl_ : Int32) (tk_ : Int32) (vl_ : Int32) (mx : Nat) (mv : Nat) (cn_ : ClassId) (fn : Nat → Int32) (jb : Nat) (hOn : tz_OK 350 fn) (hjb : jb < 6) : Met l yX12_causeHas wsX12_causeHas ({ frames := 0, cells := 0, slots := 0, locals := 0 }) (va_Pc [.ref mo, .int (nI jb), .int 0] (fun U => va_P (dC, dI) vwCl [(mo, .inr (12, [.ref nw, .ref kp, .ref ik, .ref mr, .long la_, .long lb_, .ref mw, .long lc_, .int ti_, .int cb_, .long ld_, .long le_, .ref mq, .ref mz, .ref my, .int sm_, .ref mb, .int bl_, .int ta_, .int tl_, .int tk_, .int vl_, .ref mx, .ref mv])), (nw, .inl (cn_, 350, .inl fn))] U.heap ∧ va_K (dC, dI) vwCl [(cn_, .int)] U)) (vp_Si (fun r => True)) 0 0 (fun _ => False) := by
  refine Met.ofW (cc := cX12_causeHas) (maxL := 3) (ret := (some .int)) (by decide) rfl ?_
  intro p e s m args below meth c s₁ B hml hv
  obtain ⟨rfl, hP, hK⟩ := hv
  have hx := B.exec
  have hb := B.bytes
  have hr := B.returns
  have hts := atoms_spec (ws := wsX12_causeHas) B.pre
  have hown : s.vm.findClass RX12 = some m.cls := findClass_of_methodNamed B.named
  have hlocks := B.notSynchronized
  have hl := lv_entry ([.ref mo, .int (nI jb), .int 0]) (n := 3) (Nat.le_of_ble_eq_true rfl)
  rw [lg_entry_eq]
  generalize (lg_sl ([.ref mo, .int (nI jb), .int 0]) ++ List.replicate (3 - (lg_sl ([.ref mo, .int (nI jb), .int 0])).length) Slot.unset).toArray = ls at hl ⊢
  have hl : lv_has ls 3 [(0, .ref mo), (1, .int (nI jb)), (2, .int 0)] := hl
  refine lv_aload_n hx hb dX12_causeHas_0 rfl (lv_at hl 0 rfl) ?_
  refine va_get (D := (dC, dI)) (ci := 12) (v := .ref nw) (C := RX12) (T := TX12) (N := 24) hx hb hts iw_m_causeHas0_X12 hown hK hP 0 rfl rfl 0 (by decide) (hts (.fieldLink RX12 7 "ThriceCountedModel" "now" "[I") (by decide +kernel)) (fun _ h9 => h9) rfl dX12_causeHas_1 ?_
  refine lv_bipush (v := 62) hx hb dX12_causeHas_4 (by decide) ?_
  refine lv_iconst (v := 4) hx hb dX12_causeHas_6 (by decide) ?_
  refine lv_iload_n hx hb dX12_causeHas_7 rfl (lv_at hl 1 rfl) ?_
  refine lv_imul hx hb dX12_causeHas_8 ?_
  refine tz_i (nI (4 * jb)) (pk_mul 4 jb) ?_
  refine lv_iadd hx hb dX12_causeHas_9 ?_
  refine tz_i (nI (62 + (4 * jb))) (nI_add 62 (4 * jb)) ?_
  refine lv_iload_n hx hb dX12_causeHas_10 rfl (lv_at hl 2 rfl) ?_
  refine lv_iadd hx hb dX12_causeHas_11 ?_
  refine tz_i (nI ((62 + (4 * jb)) + 0)) (nI_add (62 + (4 * jb)) 0) ?_
  refine va_iald hx hb hK hP 1 0 rfl rfl (vp_in_nI (n := ((62 + (4 * jb)) + 0)) (N := 350) (by omega) (by decide)) dX12_causeHas_12 ?_
  refine lv_topi (fun x_1 ex_2 => ?_)
  exact W.iret (v := x_1) hx hb hr (fun t ht hW => ⟨x_1, rfl, trivial, ht⟩) (fun _ h => absurd h List.not_mem_nil) dX12_causeHas_13
set_option maxRecDepth 20000 in
theorem iw_m_causeHas1_X12 : ∀ w ∈ wsX120, w ∈ wsX12_causeHas := by decide +kernel
set_option maxHeartbeats 4000000 in
set_option maxRecDepth 100000 in
theorem m_causeHas1 (l : Launch) (dC : Nat → ClassId) (dI : Nat → Nat → Nat) (mo : Nat) (nw : Nat) (kp : Nat) (ik : Nat) (mr : Nat) (la_ : Int64) (lb_ : Int64) (mw : Nat) (lc_ : Int64) (ti_ : Int32) (cb_ : Int32) (ld_ : Int64) (le_ : Int64) (mq : Nat) (mz : Nat) (my : Nat) (sm_ : Int32) (mb : Nat) (bl_ : Int32) (ta_ : Int32) (tl_ : Int32) (tk_ : Int32) (vl_ : Int32) (mx : Nat) (mv : Nat) (cn_ : ClassId) (fn : Nat → Int32) (jb : Nat) (hOn : tz_OK 350 fn) (hjb : jb < 6) : Met l yX12_causeHas wsX12_causeHas ({ frames := 0, cells := 0, slots := 0, locals := 0 }) (va_Pc [.ref mo, .int (nI jb), .int 1] (fun U => va_P (dC, dI) vwCl [(mo, .inr (12, [.ref nw, .ref kp, .ref ik, .ref mr, .long la_, .long lb_, .ref mw, .long lc_, .int ti_, .int cb_, .long ld_, .long le_, .ref mq, .ref mz, .ref my, .int sm_, .ref mb, .int bl_, .int ta_, .int tl_, .int tk_, .int vl_, .ref mx, .ref mv])), (nw, .inl (cn_, 350, .inl fn))] U.heap ∧ va_K (dC, dI) vwCl [(cn_, .int)] U)) (vp_Si (fun r => ∃ j : Nat, j ≤ 20 ∧ r = nI j)) 0 0 (fun _ => False) := by
  refine Met.ofW (cc := cX12_causeHas) (maxL := 3) (ret := (some .int)) (by decide) rfl ?_
  intro p e s m args below meth c s₁ B hml hv
  obtain ⟨rfl, hP, hK⟩ := hv
  have hx := B.exec
  have hb := B.bytes
  have hr := B.returns
  have hts := atoms_spec (ws := wsX12_causeHas) B.pre
  have hown : s.vm.findClass RX12 = some m.cls := findClass_of_methodNamed B.named
  have hlocks := B.notSynchronized
  have hl := lv_entry ([.ref mo, .int (nI jb), .int 1]) (n := 3) (Nat.le_of_ble_eq_true rfl)
  rw [lg_entry_eq]
  generalize (lg_sl ([.ref mo, .int (nI jb), .int 1]) ++ List.replicate (3 - (lg_sl ([.ref mo, .int (nI jb), .int 1])).length) Slot.unset).toArray = ls at hl ⊢
  have hl : lv_has ls 3 [(0, .ref mo), (1, .int (nI jb)), (2, .int 1)] := hl
  refine lv_aload_n hx hb dX12_causeHas_0 rfl (lv_at hl 0 rfl) ?_
  refine va_get (D := (dC, dI)) (ci := 12) (v := .ref nw) (C := RX12) (T := TX12) (N := 24) hx hb hts iw_m_causeHas1_X12 hown hK hP 0 rfl rfl 0 (by decide) (hts (.fieldLink RX12 7 "ThriceCountedModel" "now" "[I") (by decide +kernel)) (fun _ h9 => h9) rfl dX12_causeHas_1 ?_
  refine lv_bipush (v := 62) hx hb dX12_causeHas_4 (by decide) ?_
  refine lv_iconst (v := 4) hx hb dX12_causeHas_6 (by decide) ?_
  refine lv_iload_n hx hb dX12_causeHas_7 rfl (lv_at hl 1 rfl) ?_
  refine lv_imul hx hb dX12_causeHas_8 ?_
  refine tz_i (nI (4 * jb)) (pk_mul 4 jb) ?_
  refine lv_iadd hx hb dX12_causeHas_9 ?_
  refine tz_i (nI (62 + (4 * jb))) (nI_add 62 (4 * jb)) ?_
  refine lv_iload_n hx hb dX12_causeHas_10 rfl (lv_at hl 2 rfl) ?_
  refine lv_iadd hx hb dX12_causeHas_11 ?_
  refine tz_i (nI ((62 + (4 * jb)) + 1)) (nI_add (62 + (4 * jb)) 1) ?_
  refine va_iald hx hb hK hP 1 0 rfl rfl (vp_in_nI (n := ((62 + (4 * jb)) + 1)) (N := 350) (by omega) (by decide)) dX12_causeHas_12 ?_
  obtain ⟨j_1, hj_2, ej_3⟩ := hOn.natc (K := ((62 + (4 * jb)) + 1)) (n := 20) (by omega) (by omega) (tz_b_c1 jb (by omega))
  refine tz_i (nI j_1) ej_3 ?_
  exact W.iret (v := (nI j_1)) hx hb hr (fun t ht hW => ⟨(nI j_1), rfl, ⟨j_1, by omega, rfl⟩, ht⟩) (fun _ h => absurd h List.not_mem_nil) dX12_causeHas_13
set_option maxRecDepth 20000 in
theorem iw_m_causeHas2_X12 : ∀ w ∈ wsX120, w ∈ wsX12_causeHas := by decide +kernel
set_option maxHeartbeats 4000000 in
set_option maxRecDepth 100000 in
theorem m_causeHas2 (l : Launch) (dC : Nat → ClassId) (dI : Nat → Nat → Nat) (mo : Nat) (nw : Nat) (kp : Nat) (ik : Nat) (mr : Nat) (la_ : Int64) (lb_ : Int64) (mw : Nat) (lc_ : Int64) (ti_ : Int32) (cb_ : Int32) (ld_ : Int64) (le_ : Int64) (mq : Nat) (mz : Nat) (my : Nat) (sm_ : Int32) (mb : Nat) (bl_ : Int32) (ta_ : Int32) (tl_ : Int32) (tk_ : Int32) (vl_ : Int32) (mx : Nat) (mv : Nat) (cn_ : ClassId) (fn : Nat → Int32) (jb : Nat) (hOn : tz_OK 350 fn) (hjb : jb < 6) : Met l yX12_causeHas wsX12_causeHas ({ frames := 0, cells := 0, slots := 0, locals := 0 }) (va_Pc [.ref mo, .int (nI jb), .int 2] (fun U => va_P (dC, dI) vwCl [(mo, .inr (12, [.ref nw, .ref kp, .ref ik, .ref mr, .long la_, .long lb_, .ref mw, .long lc_, .int ti_, .int cb_, .long ld_, .long le_, .ref mq, .ref mz, .ref my, .int sm_, .ref mb, .int bl_, .int ta_, .int tl_, .int tk_, .int vl_, .ref mx, .ref mv])), (nw, .inl (cn_, 350, .inl fn))] U.heap ∧ va_K (dC, dI) vwCl [(cn_, .int)] U)) (vp_Si (fun r => True)) 0 0 (fun _ => False) := by
  refine Met.ofW (cc := cX12_causeHas) (maxL := 3) (ret := (some .int)) (by decide) rfl ?_
  intro p e s m args below meth c s₁ B hml hv
  obtain ⟨rfl, hP, hK⟩ := hv
  have hx := B.exec
  have hb := B.bytes
  have hr := B.returns
  have hts := atoms_spec (ws := wsX12_causeHas) B.pre
  have hown : s.vm.findClass RX12 = some m.cls := findClass_of_methodNamed B.named
  have hlocks := B.notSynchronized
  have hl := lv_entry ([.ref mo, .int (nI jb), .int 2]) (n := 3) (Nat.le_of_ble_eq_true rfl)
  rw [lg_entry_eq]
  generalize (lg_sl ([.ref mo, .int (nI jb), .int 2]) ++ List.replicate (3 - (lg_sl ([.ref mo, .int (nI jb), .int 2])).length) Slot.unset).toArray = ls at hl ⊢
  have hl : lv_has ls 3 [(0, .ref mo), (1, .int (nI jb)), (2, .int 2)] := hl
  refine lv_aload_n hx hb dX12_causeHas_0 rfl (lv_at hl 0 rfl) ?_
  refine va_get (D := (dC, dI)) (ci := 12) (v := .ref nw) (C := RX12) (T := TX12) (N := 24) hx hb hts iw_m_causeHas2_X12 hown hK hP 0 rfl rfl 0 (by decide) (hts (.fieldLink RX12 7 "ThriceCountedModel" "now" "[I") (by decide +kernel)) (fun _ h9 => h9) rfl dX12_causeHas_1 ?_
  refine lv_bipush (v := 62) hx hb dX12_causeHas_4 (by decide) ?_
  refine lv_iconst (v := 4) hx hb dX12_causeHas_6 (by decide) ?_
  refine lv_iload_n hx hb dX12_causeHas_7 rfl (lv_at hl 1 rfl) ?_
  refine lv_imul hx hb dX12_causeHas_8 ?_
  refine tz_i (nI (4 * jb)) (pk_mul 4 jb) ?_
  refine lv_iadd hx hb dX12_causeHas_9 ?_
  refine tz_i (nI (62 + (4 * jb))) (nI_add 62 (4 * jb)) ?_
  refine lv_iload_n hx hb dX12_causeHas_10 rfl (lv_at hl 2 rfl) ?_
  refine lv_iadd hx hb dX12_causeHas_11 ?_
  refine tz_i (nI ((62 + (4 * jb)) + 2)) (nI_add (62 + (4 * jb)) 2) ?_
  refine va_iald hx hb hK hP 1 0 rfl rfl (vp_in_nI (n := ((62 + (4 * jb)) + 2)) (N := 350) (by omega) (by decide)) dX12_causeHas_12 ?_
  refine lv_topi (fun x_1 ex_2 => ?_)
  exact W.iret (v := x_1) hx hb hr (fun t ht hW => ⟨x_1, rfl, trivial, ht⟩) (fun _ h => absurd h List.not_mem_nil) dX12_causeHas_13
set_option maxRecDepth 20000 in
theorem iw_m_causeHas3_X12 : ∀ w ∈ wsX120, w ∈ wsX12_causeHas := by decide +kernel
set_option maxHeartbeats 4000000 in
set_option maxRecDepth 100000 in
theorem m_causeHas3 (l : Launch) (dC : Nat → ClassId) (dI : Nat → Nat → Nat) (mo : Nat) (nw : Nat) (kp : Nat) (ik : Nat) (mr : Nat) (la_ : Int64) (lb_ : Int64) (mw : Nat) (lc_ : Int64) (ti_ : Int32) (cb_ : Int32) (ld_ : Int64) (le_ : Int64) (mq : Nat) (mz : Nat) (my : Nat) (sm_ : Int32) (mb : Nat) (bl_ : Int32) (ta_ : Int32) (tl_ : Int32) (tk_ : Int32) (vl_ : Int32) (mx : Nat) (mv : Nat) (cn_ : ClassId) (fn : Nat → Int32) (jb : Nat) (hOn : tz_OK 350 fn) (hjb : jb < 6) : Met l yX12_causeHas wsX12_causeHas ({ frames := 0, cells := 0, slots := 0, locals := 0 }) (va_Pc [.ref mo, .int (nI jb), .int 3] (fun U => va_P (dC, dI) vwCl [(mo, .inr (12, [.ref nw, .ref kp, .ref ik, .ref mr, .long la_, .long lb_, .ref mw, .long lc_, .int ti_, .int cb_, .long ld_, .long le_, .ref mq, .ref mz, .ref my, .int sm_, .ref mb, .int bl_, .int ta_, .int tl_, .int tk_, .int vl_, .ref mx, .ref mv])), (nw, .inl (cn_, 350, .inl fn))] U.heap ∧ va_K (dC, dI) vwCl [(cn_, .int)] U)) (vp_Si (fun r => True)) 0 0 (fun _ => False) := by
  refine Met.ofW (cc := cX12_causeHas) (maxL := 3) (ret := (some .int)) (by decide) rfl ?_
  intro p e s m args below meth c s₁ B hml hv
  obtain ⟨rfl, hP, hK⟩ := hv
  have hx := B.exec
  have hb := B.bytes
  have hr := B.returns
  have hts := atoms_spec (ws := wsX12_causeHas) B.pre
  have hown : s.vm.findClass RX12 = some m.cls := findClass_of_methodNamed B.named
  have hlocks := B.notSynchronized
  have hl := lv_entry ([.ref mo, .int (nI jb), .int 3]) (n := 3) (Nat.le_of_ble_eq_true rfl)
  rw [lg_entry_eq]
  generalize (lg_sl ([.ref mo, .int (nI jb), .int 3]) ++ List.replicate (3 - (lg_sl ([.ref mo, .int (nI jb), .int 3])).length) Slot.unset).toArray = ls at hl ⊢
  have hl : lv_has ls 3 [(0, .ref mo), (1, .int (nI jb)), (2, .int 3)] := hl
  refine lv_aload_n hx hb dX12_causeHas_0 rfl (lv_at hl 0 rfl) ?_
  refine va_get (D := (dC, dI)) (ci := 12) (v := .ref nw) (C := RX12) (T := TX12) (N := 24) hx hb hts iw_m_causeHas3_X12 hown hK hP 0 rfl rfl 0 (by decide) (hts (.fieldLink RX12 7 "ThriceCountedModel" "now" "[I") (by decide +kernel)) (fun _ h9 => h9) rfl dX12_causeHas_1 ?_
  refine lv_bipush (v := 62) hx hb dX12_causeHas_4 (by decide) ?_
  refine lv_iconst (v := 4) hx hb dX12_causeHas_6 (by decide) ?_
  refine lv_iload_n hx hb dX12_causeHas_7 rfl (lv_at hl 1 rfl) ?_
  refine lv_imul hx hb dX12_causeHas_8 ?_
  refine tz_i (nI (4 * jb)) (pk_mul 4 jb) ?_
  refine lv_iadd hx hb dX12_causeHas_9 ?_
  refine tz_i (nI (62 + (4 * jb))) (nI_add 62 (4 * jb)) ?_
  refine lv_iload_n hx hb dX12_causeHas_10 rfl (lv_at hl 2 rfl) ?_
  refine lv_iadd hx hb dX12_causeHas_11 ?_
  refine tz_i (nI ((62 + (4 * jb)) + 3)) (nI_add (62 + (4 * jb)) 3) ?_
  refine va_iald hx hb hK hP 1 0 rfl rfl (vp_in_nI (n := ((62 + (4 * jb)) + 3)) (N := 350) (by omega) (by decide)) dX12_causeHas_12 ?_
  refine lv_topi (fun x_1 ex_2 => ?_)
  exact W.iret (v := x_1) hx hb hr (fun t ht hW => ⟨x_1, rfl, trivial, ht⟩) (fun _ h => absurd h List.not_mem_nil) dX12_causeHas_13
theorem dX12_keep_0 : decode cX12_keep 0 = .ok (.aload_n 0, 1) := by decide +kernel
theorem dX12_keep_1 : decode cX12_keep 1 = .ok (.getfield 7, 3) := by decide +kernel
theorem dX12_keep_4 : decode cX12_keep 4 = .ok (.iconst 4, 1) := by decide +kernel
theorem dX12_keep_5 : decode cX12_keep 5 = .ok (.iaload, 1) := by decide +kernel
theorem dX12_keep_6 : decode cX12_keep 6 = .ok (.bipush 8, 2) := by decide +kernel
theorem dX12_keep_8 : decode cX12_keep 8 = .ok (.if_icmp .ne 44, 3) := by decide +kernel
theorem dX12_keep_52 : decode cX12_keep 52 = .ok (.bipush 86, 2) := by decide +kernel
theorem dX12_keep_54 : decode cX12_keep 54 = .ok (.bipush 33, 2) := by decide +kernel
theorem dX12_keep_56 : decode cX12_keep 56 = .ok (.aload_n 0, 1) := by decide +kernel
theorem dX12_keep_57 : decode cX12_keep 57 = .ok (.getfield 7, 3) := by decide +kernel
theorem dX12_keep_60 : decode cX12_keep 60 = .ok (.iconst 4, 1) := by decide +kernel
theorem dX12_keep_61 : decode cX12_keep 61 = .ok (.iaload, 1) := by decide +kernel
theorem dX12_keep_62 : decode cX12_keep 62 = .ok (.imul, 1) := by decide +kernel
theorem dX12_keep_63 : decode cX12_keep 63 = .ok (.iadd, 1) := by decide +kernel
theorem dX12_keep_64 : decode cX12_keep 64 = .ok (.istore_n 1, 1) := by decide +kernel
theorem dX12_keep_65 : decode cX12_keep 65 = .ok (.iconst 0, 1) := by decide +kernel
theorem dX12_keep_66 : decode cX12_keep 66 = .ok (.istore_n 2, 1) := by decide +kernel
theorem dX12_keep_67 : decode cX12_keep 67 = .ok (.iload_n 2, 1) := by decide +kernel
theorem dX12_keep_68 : decode cX12_keep 68 = .ok (.bipush 32, 2) := by decide +kernel
theorem dX12_keep_70 : decode cX12_keep 70 = .ok (.if_icmp .ge 26, 3) := by decide +kernel
theorem dX12_keep_73 : decode cX12_keep 73 = .ok (.aload_n 0, 1) := by decide +kernel
theorem dX12_keep_74 : decode cX12_keep 74 = .ok (.getfield 7, 3) := by decide +kernel
theorem dX12_keep_77 : decode cX12_keep 77 = .ok (.iload_n 1, 1) := by decide +kernel
theorem dX12_keep_78 : decode cX12_keep 78 = .ok (.iload_n 2, 1) := by decide +kernel
theorem dX12_keep_79 : decode cX12_keep 79 = .ok (.iadd, 1) := by decide +kernel
theorem dX12_keep_80 : decode cX12_keep 80 = .ok (.aload_n 0, 1) := by decide +kernel
theorem dX12_keep_81 : decode cX12_keep 81 = .ok (.getfield 7, 3) := by decide +kernel
theorem dX12_keep_84 : decode cX12_keep 84 = .ok (.bipush 30, 2) := by decide +kernel
theorem dX12_keep_86 : decode cX12_keep 86 = .ok (.iload_n 2, 1) := by decide +kernel
theorem dX12_keep_87 : decode cX12_keep 87 = .ok (.iadd, 1) := by decide +kernel
theorem dX12_keep_88 : decode cX12_keep 88 = .ok (.iaload, 1) := by decide +kernel
theorem dX12_keep_89 : decode cX12_keep 89 = .ok (.iastore, 1) := by decide +kernel
theorem dX12_keep_90 : decode cX12_keep 90 = .ok (.iinc 2 1, 3) := by decide +kernel
theorem dX12_keep_93 : decode cX12_keep 93 = .ok (.goto (-26), 3) := by decide +kernel
theorem dX12_keep_96 : decode cX12_keep 96 = .ok (.aload_n 0, 1) := by decide +kernel
theorem dX12_keep_97 : decode cX12_keep 97 = .ok (.getfield 7, 3) := by decide +kernel
theorem dX12_keep_100 : decode cX12_keep 100 = .ok (.iload_n 1, 1) := by decide +kernel
theorem dX12_keep_101 : decode cX12_keep 101 = .ok (.bipush 32, 2) := by decide +kernel
theorem dX12_keep_103 : decode cX12_keep 103 = .ok (.iadd, 1) := by decide +kernel
theorem dX12_keep_104 : decode cX12_keep 104 = .ok (.aload_n 0, 1) := by decide +kernel
theorem dX12_keep_105 : decode cX12_keep 105 = .ok (.getfield 7, 3) := by decide +kernel
theorem dX12_keep_108 : decode cX12_keep 108 = .ok (.iconst 2, 1) := by decide +kernel
theorem dX12_keep_109 : decode cX12_keep 109 = .ok (.iaload, 1) := by decide +kernel
theorem dX12_keep_110 : decode cX12_keep 110 = .ok (.iastore, 1) := by decide +kernel
theorem dX12_keep_111 : decode cX12_keep 111 = .ok (.aload_n 0, 1) := by decide +kernel
theorem dX12_keep_112 : decode cX12_keep 112 = .ok (.getfield 7, 3) := by decide +kernel
theorem dX12_keep_115 : decode cX12_keep 115 = .ok (.iconst 4, 1) := by decide +kernel
theorem dX12_keep_116 : decode cX12_keep 116 = .ok (.dup2, 1) := by decide +kernel
theorem dX12_keep_117 : decode cX12_keep 117 = .ok (.iaload, 1) := by decide +kernel
theorem dX12_keep_118 : decode cX12_keep 118 = .ok (.iconst 1, 1) := by decide +kernel
theorem dX12_keep_119 : decode cX12_keep 119 = .ok (.iadd, 1) := by decide +kernel
theorem dX12_keep_120 : decode cX12_keep 120 = .ok (.iastore, 1) := by decide +kernel
theorem dX12_keep_121 : decode cX12_keep 121 = .ok (.return_, 1) := by decide +kernel
theorem dX12_keep_11 : decode cX12_keep 11 = .ok (.iconst 0, 1) := by decide +kernel
theorem dX12_keep_12 : decode cX12_keep 12 = .ok (.istore_n 1, 1) := by decide +kernel
theorem dX12_keep_13 : decode cX12_keep 13 = .ok (.iload_n 1, 1) := by decide +kernel
theorem dX12_keep_14 : decode cX12_keep 14 = .ok (.sipush 231, 3) := by decide +kernel
theorem dX12_keep_17 : decode cX12_keep 17 = .ok (.if_icmp .ge 27, 3) := by decide +kernel
theorem dX12_keep_20 : decode cX12_keep 20 = .ok (.aload_n 0, 1) := by decide +kernel
theorem dX12_keep_21 : decode cX12_keep 21 = .ok (.getfield 7, 3) := by decide +kernel
theorem dX12_keep_24 : decode cX12_keep 24 = .ok (.bipush 86, 2) := by decide +kernel
theorem dX12_keep_26 : decode cX12_keep 26 = .ok (.iload_n 1, 1) := by decide +kernel
theorem dX12_keep_27 : decode cX12_keep 27 = .ok (.iadd, 1) := by decide +kernel
theorem dX12_keep_28 : decode cX12_keep 28 = .ok (.aload_n 0, 1) := by decide +kernel
theorem dX12_keep_29 : decode cX12_keep 29 = .ok (.getfield 7, 3) := by decide +kernel
theorem dX12_keep_32 : decode cX12_keep 32 = .ok (.bipush 119, 2) := by decide +kernel
theorem dX12_keep_34 : decode cX12_keep 34 = .ok (.iload_n 1, 1) := by decide +kernel
theorem dX12_keep_35 : decode cX12_keep 35 = .ok (.iadd, 1) := by decide +kernel
theorem dX12_keep_36 : decode cX12_keep 36 = .ok (.iaload, 1) := by decide +kernel
theorem dX12_keep_37 : decode cX12_keep 37 = .ok (.iastore, 1) := by decide +kernel
theorem dX12_keep_38 : decode cX12_keep 38 = .ok (.iinc 1 1, 3) := by decide +kernel
theorem dX12_keep_41 : decode cX12_keep 41 = .ok (.goto (-28), 3) := by decide +kernel
theorem dX12_keep_44 : decode cX12_keep 44 = .ok (.aload_n 0, 1) := by decide +kernel
theorem dX12_keep_45 : decode cX12_keep 45 = .ok (.getfield 7, 3) := by decide +kernel
theorem dX12_keep_48 : decode cX12_keep 48 = .ok (.iconst 4, 1) := by decide +kernel
theorem dX12_keep_49 : decode cX12_keep 49 = .ok (.bipush 7, 2) := by decide +kernel
theorem dX12_keep_51 : decode cX12_keep 51 = .ok (.iastore, 1) := by decide +kernel
set_option maxRecDepth 20000 in
theorem iw_m_keep_X12 : ∀ w ∈ wsX120, w ∈ wsX12_keep := by decide +kernel
set_option maxHeartbeats 4000000 in
set_option maxRecDepth 100000 in
theorem m_keep (l : Launch) (dC : Nat → ClassId) (dI : Nat → Nat → Nat) (mo : Nat) (nw : Nat) (kp : Nat) (ik : Nat) (mr : Nat) (la_ : Int64) (lb_ : Int64) (mw : Nat) (lc_ : Int64) (ti_ : Int32) (cb_ : Int32) (ld_ : Int64) (le_ : Int64) (mq : Nat) (mz : Nat) (my : Nat) (sm_ : Int32) (mb : Nat) (bl_ : Int32) (ta_ : Int32) (tl_ : Int32) (tk_ : Int32) (vl_ : Int32) (mx : Nat) (mv : Nat) (cn_ : ClassId) (fn : Nat → Int32) (jc : Nat) (sz : Nat) (hOn : tz_OK 350 fn) (e2 : fn 2 = nI jc) (hjc : jc ≤ 8) : Met l yX12_keep wsX12_keep ({ frames := 0, cells := 0, slots := 0, locals := 0 }) (va_Pc [.ref mo] (fun U => U.heap.size = sz ∧ va_P (dC, dI) vwCl [(mo, .inr (12, [.ref nw, .ref kp, .ref ik, .ref mr, .long la_, .long lb_, .ref mw, .long lc_, .int ti_, .int cb_, .long ld_, .long le_, .ref mq, .ref mz, .ref my, .int sm_, .ref mb, .int bl_, .int ta_, .int tl_, .int tk_, .int vl_, .ref mx, .ref mv])), (nw, .inl (cn_, 350, .inl fn))] U.heap ∧ va_K (dC, dI) vwCl [(cn_, .int)] U ∧ va_D (fun _ => True) [(mo, .inr (12, [.ref nw, .ref kp, .ref ik, .ref mr, .long la_, .long lb_, .ref mw, .long lc_, .int ti_, .int cb_, .long ld_, .long le_, .ref mq, .ref mz, .ref my, .int sm_, .ref mb, .int bl_, .int ta_, .int tl_, .int tk_, .int vl_, .ref mx, .ref mv])), (nw, .inl (cn_, 350, .inl fn))])) (va_Qv (fun (_ : Unit) => True) (fun _ t => ∃ (gn : Nat → Int32), (tz_OK 350 gn) ∧ (gn 2 = nI jc) ∧ va_P (dC, dI) vwCl [(mo, .inr (12, [.ref nw, .ref kp, .ref ik, .ref mr, .long la_, .long lb_, .ref mw, .long lc_, .int ti_, .int cb_, .long ld_, .long le_, .ref mq, .ref mz, .ref my, .int sm_, .ref mb, .int bl_, .int ta_, .int tl_, .int tk_, .int vl_, .ref mx, .ref mv])), (nw, .inl (cn_, 350, .inl gn))] t.heap ∧ va_K (dC, dI) vwCl [(cn_, .int)] t ∧ va_D (va_A [(mo, .inr (12, [.ref nw, .ref kp, .ref ik, .ref mr, .long la_, .long lb_, .ref mw, .long lc_, .int ti_, .int cb_, .long ld_, .long le_, .ref mq, .ref mz, .ref my, .int sm_, .ref mb, .int bl_, .int ta_, .int tl_, .int tk_, .int vl_, .ref mx, .ref mv])), (nw, .inl (cn_, 350, .inl fn))] sz) [(mo, .inr (12, [.ref nw, .ref kp, .ref ik, .ref mr, .long la_, .long lb_, .ref mw, .long lc_, .int ti_, .int cb_, .long ld_, .long le_, .ref mq, .ref mz, .ref my, .int sm_, .ref mb, .int bl_, .int ta_, .int tl_, .int tk_, .int vl_, .ref mx, .ref mv])), (nw, .inl (cn_, 350, .inl gn))]) (va_A [(mo, .inr (12, [.ref nw, .ref kp, .ref ik, .ref mr, .long la_, .long lb_, .ref mw, .long lc_, .int ti_, .int cb_, .long ld_, .long le_, .ref mq, .ref mz, .ref my, .int sm_, .ref mb, .int bl_, .int ta_, .int tl_, .int tk_, .int vl_, .ref mx, .ref mv])), (nw, .inl (cn_, 350, .inl fn))] sz)) 0 0 (va_A [(mo, .inr (12, [.ref nw, .ref kp, .ref ik, .ref mr, .long la_, .long lb_, .ref mw, .long lc_, .int ti_, .int cb_, .long ld_, .long le_, .ref mq, .ref mz, .ref my, .int sm_, .ref mb, .int bl_, .int ta_, .int tl_, .int tk_, .int vl_, .ref mx, .ref mv])), (nw, .inl (cn_, 350, .inl fn))] sz) := by
  refine Met.ofW (cc := cX12_keep) (maxL := 3) (ret := none) (by decide) rfl ?_
  intro p e s m args below meth c s₁ B hml hv
  obtain ⟨rfl, hsz, hP, hK, hD0⟩ := hv
  have hx := B.exec
  have hb := B.bytes
  have hr := B.returns
  have hts := atoms_spec (ws := wsX12_keep) B.pre
  have hown : s.vm.findClass RX12 = some m.cls := findClass_of_methodNamed B.named
  have hlocks := B.notSynchronized
  subst hsz
  have hD := hD0.self (sz := s.heap.size)
  generalize hAe : va_A [(mo, .inr (12, [.ref nw, .ref kp, .ref ik, .ref mr, .long la_, .long lb_, .ref mw, .long lc_, .int ti_, .int cb_, .long ld_, .long le_, .ref mq, .ref mz, .ref my, .int sm_, .ref mb, .int bl_, .int ta_, .int tl_, .int tk_, .int vl_, .ref mx, .ref mv])), (nw, .inl (cn_, 350, .inl fn))] s.heap.size = A at hD ⊢
  have hA : ∀ q : Nat, s.heap.size ≤ q → A q := fun q h => by rw [← hAe]; exact Or.inr h
  have hS : va_S A s.heap s.heap [] := va_S.rf
  have hP : va_P (dC, dI) vwCl [(mo, .inr (12, [.ref nw, .ref kp, .ref ik, .ref mr, .long la_, .long lb_, .ref mw, .long lc_, .int ti_, .int cb_, .long ld_, .long le_, .ref mq, .ref mz, .ref my, .int sm_, .ref mb, .int bl_, .int ta_, .int tl_, .int tk_, .int vl_, .ref mx, .ref mv])), (nw, .inl (cn_, 350, .inl fn))] s.heap := hP
  have hl := lv_entry ([.ref mo]) (n := 3) (Nat.le_of_ble_eq_true rfl)
  rw [lg_entry_eq]
  generalize (lg_sl ([.ref mo]) ++ List.replicate (3 - (lg_sl ([.ref mo])).length) Slot.unset).toArray = ls at hl ⊢
  have hl : lv_has ls 3 [(0, .ref mo)] := hl
  refine lv_aload_n hx hb dX12_keep_0 rfl (lv_at hl 0 rfl) ?_
  refine va_get (D := (dC, dI)) (ci := 12) (v := .ref nw) (C := RX12) (T := TX12) (N := 24) hx hb hts iw_m_keep_X12 hown hK hP 0 rfl rfl 0 (by decide) (hts (.fieldLink RX12 7 "ThriceCountedModel" "now" "[I") (by decide +kernel)) (fun _ h9 => h9) rfl dX12_keep_1 ?_
  refine lv_iconst (v := 4) hx hb dX12_keep_4 (by decide) ?_
  refine va_iald hx hb hK hP 1 0 rfl rfl (show ¬ ((4 : Int32) < 0 ∨ 350 ≤ (4 : Int32).toNatClampNeg) by decide) dX12_keep_5 ?_
  obtain ⟨j_1, hj_2, ej_3⟩ := hOn.nat (K := 4) (n := 8) (by omega) (show tz_b 4 = (0, 8) from by decide)
  refine tz_i (nI j_1) ej_3 ?_
  refine lv_bipush (v := 8) hx hb dX12_keep_6 (by decide) ?_
  refine lv_icmp_ne (tgt := 52) hx hb dX12_keep_8 (by decide) (fun c_4 => ?_) (fun c_4 => ?_)
  · have hn_5 : ¬ j_1 = 8 := fun q => c_4 ((nI_eq (a := j_1) (b := 8) (by omega) (by omega)).mpr q)
    refine lv_bipush (v := 86) hx hb dX12_keep_52 (by decide) ?_
    refine lv_bipush (v := 33) hx hb dX12_keep_54 (by decide) ?_
    refine lv_aload_n hx hb dX12_keep_56 rfl (lv_at hl 0 rfl) ?_
    refine va_get (D := (dC, dI)) (ci := 12) (v := .ref nw) (C := RX12) (T := TX12) (N := 24) hx hb hts iw_m_keep_X12 hown hK hP 0 rfl rfl 0 (by decide) (hts (.fieldLink RX12 7 "ThriceCountedModel" "now" "[I") (by decide +kernel)) (fun _ h9 => h9) rfl dX12_keep_57 ?_
    refine lv_iconst (v := 4) hx hb dX12_keep_60 (by decide) ?_
    refine va_iald hx hb hK hP 1 0 rfl rfl (show ¬ ((4 : Int32) < 0 ∨ 350 ≤ (4 : Int32).toNatClampNeg) by decide) dX12_keep_61 ?_
    refine tz_i (nI j_1) ej_3 ?_
    refine lv_imul hx hb dX12_keep_62 ?_
    refine tz_i (nI (33 * j_1)) (pk_mul 33 j_1) ?_
    refine lv_iadd hx hb dX12_keep_63 ?_
    refine tz_i (nI (86 + (33 * j_1))) (nI_add 86 (33 * j_1)) ?_
    refine lv_istore_n (lv' := [(1, .int (nI (86 + (33 * j_1)))), (0, .ref mo)]) hx hb dX12_keep_64 rfl hl (by decide) rfl (fun ls hl => ?_)
    refine lv_iconst (v := 0) hx hb dX12_keep_65 (by decide) ?_
    refine lv_istore_n (lv' := [(2, .int 0), (1, .int (nI (86 + (33 * j_1)))), (0, .ref mo)]) hx hb dX12_keep_66 rfl hl (by decide) rfl (fun ls hl => ?_)
    refine tz_while (σ := Nat × (Nat → Int32) × Heap × List Loc × Array Slot) (fun x => W p l e _ s m _ below meth c x.2.2.1 x.2.2.2.1 _ _ _ (F0 m 67 x.2.2.2.2 [])) (fun x => tz_OK 350 x.2.1 ∧ x.2.1 2 = nI jc ∧ x.2.1 4 = nI j_1 ∧ x.1 ≤ 32 ∧ va_P (dC, dI) vwCl [(mo, .inr (12, [.ref nw, .ref kp, .ref ik, .ref mr, .long la_, .long lb_, .ref mw, .long lc_, .int ti_, .int cb_, .long ld_, .long le_, .ref mq, .ref mz, .ref my, .int sm_, .ref mb, .int bl_, .int ta_, .int tl_, .int tk_, .int vl_, .ref mx, .ref mv])), (nw, .inl (cn_, 350, .inl x.2.1))] x.2.2.1 ∧ va_D A [(mo, .inr (12, [.ref nw, .ref kp, .ref ik, .ref mr, .long la_, .long lb_, .ref mw, .long lc_, .int ti_, .int cb_, .long ld_, .long le_, .ref mq, .ref mz, .ref my, .int sm_, .ref mb, .int bl_, .int ta_, .int tl_, .int tk_, .int vl_, .ref mx, .ref mv])), (nw, .inl (cn_, 350, .inl x.2.1))] ∧ va_S A s.heap x.2.2.1 x.2.2.2.1 ∧ lv_has x.2.2.2.2 3 [(2, .int (nI x.1)), (1, .int (nI (86 + (33 * j_1)))), (0, .ref mo)]) (fun x => 32 - x.1) ?_ (0, fn, s.heap, [], ls) ⟨hOn, e2, ej_3, by (try dsimp only); omega, hP, hD, hS, hl⟩
    rintro ⟨k_6, f_17, H, locs, ls⟩ ⟨hi_23_0, hi_24_1, hi_25_2, hi_26_3, hP, hD, hS, hl⟩ ih_27
    dsimp only at hi_23_0 hi_24_1 hi_25_2 hi_26_3 hP hD hS hl ih_27 ⊢
    refine lv_iload_n hx hb dX12_keep_67 rfl (lv_at hl 0 rfl) ?_
    refine lv_bipush (v := 32) hx hb dX12_keep_68 (by decide) ?_
    refine lv_icmp_ge (tgt := 96) hx hb dX12_keep_70 (by decide) (fun c_28 => ?_) (fun c_28 => ?_)
    · have hn_29 : 32 ≤ k_6 := (nI_leI (a := 32) (b := k_6) (by omega) (by omega)).mp c_28
      refine lv_aload_n hx hb dX12_keep_96 rfl (lv_at hl 2 rfl) ?_
      refine va_get (D := (dC, dI)) (ci := 12) (v := .ref nw) (C := RX12) (T := TX12) (N := 24) hx hb hts iw_m_keep_X12 hown hK hP 0 rfl rfl 0 (by decide) (hts (.fieldLink RX12 7 "ThriceCountedModel" "now" "[I") (by decide +kernel)) (fun _ h9 => h9) rfl dX12_keep_97 ?_
      refine lv_iload_n hx hb dX12_keep_100 rfl (lv_at hl 1 rfl) ?_
      refine lv_bipush (v := 32) hx hb dX12_keep_101 (by decide) ?_
      refine lv_iadd hx hb dX12_keep_103 ?_
      refine tz_i (nI ((86 + (33 * j_1)) + 32)) (nI_add (86 + (33 * j_1)) 32) ?_
      refine lv_aload_n hx hb dX12_keep_104 rfl (lv_at hl 2 rfl) ?_
      refine va_get (D := (dC, dI)) (ci := 12) (v := .ref nw) (C := RX12) (T := TX12) (N := 24) hx hb hts iw_m_keep_X12 hown hK hP 0 rfl rfl 0 (by decide) (hts (.fieldLink RX12 7 "ThriceCountedModel" "now" "[I") (by decide +kernel)) (fun _ h9 => h9) rfl dX12_keep_105 ?_
      refine lv_iconst (v := 2) hx hb dX12_keep_108 (by decide) ?_
      refine va_iald hx hb hK hP 1 0 rfl rfl (show ¬ ((2 : Int32) < 0 ∨ 350 ≤ (2 : Int32).toNatClampNeg) by decide) dX12_keep_109 ?_
      refine tz_i (nI jc) hi_24_1 ?_
      refine va_iast hx hb hK hP hD hS 1 0 rfl rfl (vp_in_nI (n := ((86 + (33 * j_1)) + 32)) (N := 350) (by omega) (by decide)) dX12_keep_110 (fun H locs hP hD hS => ?_)
      have hk_31 : tz_OK 350 (upd f_17 (Int32.toNatClampNeg (nI ((86 + (33 * j_1)) + 32))) (nI jc)) := hi_23_0.updc (K := ((86 + (33 * j_1)) + 32)) (by omega) (tz_bd_nI (tz_b_kcK (u := j_1) (by omega) (by omega)) (by omega) (by omega) (by omega)) (by omega) (fun i hi => by omega)
      have hk_32 : (upd f_17 (Int32.toNatClampNeg (nI ((86 + (33 * j_1)) + 32))) (nI jc)) 2 = nI jc := tz_upd_ne (K := ((86 + (33 * j_1)) + 32)) (by omega) (by omega) hi_24_1
      have hk_33 : (upd f_17 (Int32.toNatClampNeg (nI ((86 + (33 * j_1)) + 32))) (nI jc)) 4 = nI j_1 := tz_upd_ne (K := ((86 + (33 * j_1)) + 32)) (by omega) (by omega) hi_25_2
      generalize (upd f_17 (Int32.toNatClampNeg (nI ((86 + (33 * j_1)) + 32))) (nI jc)) = f_30 at hP hD hk_31 hk_32 hk_33
      have hP : va_P (dC, dI) vwCl [(mo, .inr (12, [.ref nw, .ref kp, .ref ik, .ref mr, .long la_, .long lb_, .ref mw, .long lc_, .int ti_, .int cb_, .long ld_, .long le_, .ref mq, .ref mz, .ref my, .int sm_, .ref mb, .int bl_, .int ta_, .int tl_, .int tk_, .int vl_, .ref mx, .ref mv])), (nw, .inl (cn_, 350, .inl f_30))] H := hP
      have hD : va_D A [(mo, .inr (12, [.ref nw, .ref kp, .ref ik, .ref mr, .long la_, .long lb_, .ref mw, .long lc_, .int ti_, .int cb_, .long ld_, .long le_, .ref mq, .ref mz, .ref my, .int sm_, .ref mb, .int bl_, .int ta_, .int tl_, .int tk_, .int vl_, .ref mx, .ref mv])), (nw, .inl (cn_, 350, .inl f_30))] := hD
      refine lv_aload_n hx hb dX12_keep_111 rfl (lv_at hl 2 rfl) ?_
      refine va_get (D := (dC, dI)) (ci := 12) (v := .ref nw) (C := RX12) (T := TX12) (N := 24) hx hb hts iw_m_keep_X12 hown hK hP 0 rfl rfl 0 (by decide) (hts (.fieldLink RX12 7 "ThriceCountedModel" "now" "[I") (by decide +kernel)) (fun _ h9 => h9) rfl dX12_keep_112 ?_
      refine lv_iconst (v := 4) hx hb dX12_keep_115 (by decide) ?_
      refine lv_dup2_11 hx hb dX12_keep_116 rfl rfl ?_
      refine va_iald hx hb hK hP 1 0 rfl rfl (show ¬ ((4 : Int32) < 0 ∨ 350 ≤ (4 : Int32).toNatClampNeg) by decide) dX12_keep_117 ?_
      refine tz_i (nI j_1) hk_33 ?_
      refine lv_iconst (v := 1) hx hb dX12_keep_118 (by decide) ?_
      refine lv_iadd hx hb dX12_keep_119 ?_
      refine tz_i (nI (j_1 + 1)) (nI_add j_1 1) ?_
      refine va_iast hx hb hK hP hD hS 1 0 rfl rfl (show ¬ ((4 : Int32) < 0 ∨ 350 ≤ (4 : Int32).toNatClampNeg) by decide) dX12_keep_120 (fun H locs hP hD hS => ?_)
      have hk_35 : tz_OK 350 (upd f_30 (Int32.toNatClampNeg 4) (nI (j_1 + 1))) := hk_31.updc (K := 4) (by omega) (tz_bd_nI (show tz_b 4 = (0, 8) from by decide) (by omega) (by omega) (by omega)) (by omega) (fun i hi => by omega)
      have hk_36 : (upd f_30 (Int32.toNatClampNeg 4) (nI (j_1 + 1))) 2 = nI jc := tz_upd_ne (K := 4) (by omega) (by omega) hk_32
      have hk_37 : (upd f_30 (Int32.toNatClampNeg 4) (nI (j_1 + 1))) 4 = nI (j_1 + 1) := tz_upd_eq (K := 4) (by omega)
      generalize (upd f_30 (Int32.toNatClampNeg 4) (nI (j_1 + 1))) = f_34 at hP hD hk_35 hk_36 hk_37
      have hP : va_P (dC, dI) vwCl [(mo, .inr (12, [.ref nw, .ref kp, .ref ik, .ref mr, .long la_, .long lb_, .ref mw, .long lc_, .int ti_, .int cb_, .long ld_, .long le_, .ref mq, .ref mz, .ref my, .int sm_, .ref mb, .int bl_, .int ta_, .int tl_, .int tk_, .int vl_, .ref mx, .ref mv])), (nw, .inl (cn_, 350, .inl f_34))] H := hP
      have hD : va_D A [(mo, .inr (12, [.ref nw, .ref kp, .ref ik, .ref mr, .long la_, .long lb_, .ref mw, .long lc_, .int ti_, .int cb_, .long ld_, .long le_, .ref mq, .ref mz, .ref my, .int sm_, .ref mb, .int bl_, .int ta_, .int tl_, .int tk_, .int vl_, .ref mx, .ref mv])), (nw, .inl (cn_, 350, .inl f_34))] := hD
      have hP9 := hP.sub (ws' := [(mo, .inr (12, [.ref nw, .ref kp, .ref ik, .ref mr, .long la_, .long lb_, .ref mw, .long lc_, .int ti_, .int cb_, .long ld_, .long le_, .ref mq, .ref mz, .ref my, .int sm_, .ref mb, .int bl_, .int ta_, .int tl_, .int tk_, .int vl_, .ref mx, .ref mv])), (nw, .inl (cn_, 350, .inl f_34))]) [0, 1] rfl
      have hD9 := hD.sub (ws' := [(mo, .inr (12, [.ref nw, .ref kp, .ref ik, .ref mr, .long la_, .long lb_, .ref mw, .long lc_, .int ti_, .int cb_, .long ld_, .long le_, .ref mq, .ref mz, .ref my, .int sm_, .ref mb, .int bl_, .int ta_, .int tl_, .int tk_, .int vl_, .ref mx, .ref mv])), (nw, .inl (cn_, 350, .inl f_34))]) [0, 1] (by decide) rfl
      have hK9 := hK.sub (tys' := [(cn_, .int)]) [0] rfl
      exact W.vret hx hb hr (fun t ht hW => ⟨⟨(), rfl, trivial, f_34, hk_35, hk_36, by rw [ht]; exact hP9, va_K.moved hW.alike hK9, hD9⟩, hS.F ht⟩) hS.2.2 dX12_keep_121
    · have hn_38 : ¬ 32 ≤ k_6 := fun q => c_28 ((nI_leI (a := 32) (b := k_6) (by omega) (by omega)).mpr q)
      refine lv_aload_n hx hb dX12_keep_73 rfl (lv_at hl 2 rfl) ?_
      refine va_get (D := (dC, dI)) (ci := 12) (v := .ref nw) (C := RX12) (T := TX12) (N := 24) hx hb hts iw_m_keep_X12 hown hK hP 0 rfl rfl 0 (by decide) (hts (.fieldLink RX12 7 "ThriceCountedModel" "now" "[I") (by decide +kernel)) (fun _ h9 => h9) rfl dX12_keep_74 ?_
      refine lv_iload_n hx hb dX12_keep_77 rfl (lv_at hl 1 rfl) ?_
      refine lv_iload_n hx hb dX12_keep_78 rfl (lv_at hl 0 rfl) ?_
      refine lv_iadd hx hb dX12_keep_79 ?_
      refine tz_i (nI ((86 + (33 * j_1)) + k_6)) (nI_add (86 + (33 * j_1)) k_6) ?_
      refine lv_aload_n hx hb dX12_keep_80 rfl (lv_at hl 2 rfl) ?_
      refine va_get (D := (dC, dI)) (ci := 12) (v := .ref nw) (C := RX12) (T := TX12) (N := 24) hx hb hts iw_m_keep_X12 hown hK hP 0 rfl rfl 0 (by decide) (hts (.fieldLink RX12 7 "ThriceCountedModel" "now" "[I") (by decide +kernel)) (fun _ h9 => h9) rfl dX12_keep_81 ?_
      refine lv_bipush (v := 30) hx hb dX12_keep_84 (by decide) ?_
      refine lv_iload_n hx hb dX12_keep_86 rfl (lv_at hl 0 rfl) ?_
      refine lv_iadd hx hb dX12_keep_87 ?_
      refine tz_i (nI (30 + k_6)) (nI_add 30 k_6) ?_
      refine va_iald hx hb hK hP 1 0 rfl rfl (vp_in_nI (n := (30 + k_6)) (N := 350) (by omega) (by decide)) dX12_keep_88 ?_
      refine lv_topi (fun x_39 ex_40 => ?_)
      have hb_41 : tz_bd (30 + k_6) x_39 := tz_bd_ld hi_23_0 (by omega) ex_40 (by omega)
      refine va_iast hx hb hK hP hD hS 1 0 rfl rfl (vp_in_nI (n := ((86 + (33 * j_1)) + k_6)) (N := 350) (by omega) (by decide)) dX12_keep_89 (fun H locs hP hD hS => ?_)
      have hk_43 : tz_OK 350 (upd f_17 (Int32.toNatClampNeg (nI ((86 + (33 * j_1)) + k_6))) x_39) := hi_23_0.updc (K := ((86 + (33 * j_1)) + k_6)) (by omega) (tz_bd_cp (tz_b_kpK (u := j_1) (k := k_6) (by omega) (by omega) (by omega)) hb_41) (by omega) (fun i hi => by omega)
      have hk_44 : (upd f_17 (Int32.toNatClampNeg (nI ((86 + (33 * j_1)) + k_6))) x_39) 2 = nI jc := tz_upd_ne (K := ((86 + (33 * j_1)) + k_6)) (by omega) (by omega) hi_24_1
      have hk_45 : (upd f_17 (Int32.toNatClampNeg (nI ((86 + (33 * j_1)) + k_6))) x_39) 4 = nI j_1 := tz_upd_ne (K := ((86 + (33 * j_1)) + k_6)) (by omega) (by omega) hi_25_2
      generalize (upd f_17 (Int32.toNatClampNeg (nI ((86 + (33 * j_1)) + k_6))) x_39) = f_42 at hP hD hk_43 hk_44 hk_45
      have hP : va_P (dC, dI) vwCl [(mo, .inr (12, [.ref nw, .ref kp, .ref ik, .ref mr, .long la_, .long lb_, .ref mw, .long lc_, .int ti_, .int cb_, .long ld_, .long le_, .ref mq, .ref mz, .ref my, .int sm_, .ref mb, .int bl_, .int ta_, .int tl_, .int tk_, .int vl_, .ref mx, .ref mv])), (nw, .inl (cn_, 350, .inl f_42))] H := hP
      have hD : va_D A [(mo, .inr (12, [.ref nw, .ref kp, .ref ik, .ref mr, .long la_, .long lb_, .ref mw, .long lc_, .int ti_, .int cb_, .long ld_, .long le_, .ref mq, .ref mz, .ref my, .int sm_, .ref mb, .int bl_, .int ta_, .int tl_, .int tk_, .int vl_, .ref mx, .ref mv])), (nw, .inl (cn_, 350, .inl f_42))] := hD
      refine lv_iinc (v := (nI (k_6 + 1))) (lv' := [(2, .int (nI (k_6 + 1))), (1, .int (nI (86 + (33 * j_1)))), (0, .ref mo)]) hx hb dX12_keep_90 hl (k := 0) rfl (nI_add k_6 1) (by decide) rfl (fun ls hl => ?_)
      refine lv_goto (tgt := 67) hx hb dX12_keep_93 (by decide) ?_
      exact ih_27 ((k_6 + 1), f_42, H, locs, ls) ⟨hk_43, hk_44, hk_45, by dsimp only; omega, hP, hD, hS, lv_sub hl [0, 1, 2] rfl⟩ (by dsimp only; omega)
  · have hn_46 : j_1 = 8 := (nI_eq (a := j_1) (b := 8) (by omega) (by omega)).mp c_4
    refine lv_iconst (v := 0) hx hb dX12_keep_11 (by decide) ?_
    refine lv_istore_n (lv' := [(1, .int 0), (0, .ref mo)]) hx hb dX12_keep_12 rfl hl (by decide) rfl (fun ls hl => ?_)
    refine tz_while (σ := Nat × (Nat → Int32) × Heap × List Loc × Array Slot) (fun x => W p l e _ s m _ below meth c x.2.2.1 x.2.2.2.1 _ _ _ (F0 m 13 x.2.2.2.2 [])) (fun x => tz_OK 350 x.2.1 ∧ x.2.1 2 = nI jc ∧ x.1 ≤ 231 ∧ va_P (dC, dI) vwCl [(mo, .inr (12, [.ref nw, .ref kp, .ref ik, .ref mr, .long la_, .long lb_, .ref mw, .long lc_, .int ti_, .int cb_, .long ld_, .long le_, .ref mq, .ref mz, .ref my, .int sm_, .ref mb, .int bl_, .int ta_, .int tl_, .int tk_, .int vl_, .ref mx, .ref mv])), (nw, .inl (cn_, 350, .inl x.2.1))] x.2.2.1 ∧ va_D A [(mo, .inr (12, [.ref nw, .ref kp, .ref ik, .ref mr, .long la_, .long lb_, .ref mw, .long lc_, .int ti_, .int cb_, .long ld_, .long le_, .ref mq, .ref mz, .ref my, .int sm_, .ref mb, .int bl_, .int ta_, .int tl_, .int tk_, .int vl_, .ref mx, .ref mv])), (nw, .inl (cn_, 350, .inl x.2.1))] ∧ va_S A s.heap x.2.2.1 x.2.2.2.1 ∧ lv_has x.2.2.2.2 3 [(1, .int (nI x.1)), (0, .ref mo)]) (fun x => 231 - x.1) ?_ (0, fn, s.heap, [], ls) ⟨hOn, e2, by (try dsimp only); omega, hP, hD, hS, hl⟩
    rintro ⟨k_47, f_58, H, locs, ls⟩ ⟨hi_64_0, hi_65_1, hi_66_2, hP, hD, hS, hl⟩ ih_67
    dsimp only at hi_64_0 hi_65_1 hi_66_2 hP hD hS hl ih_67 ⊢
    refine lv_iload_n hx hb dX12_keep_13 rfl (lv_at hl 0 rfl) ?_
    refine lv_sipush (v := 231) hx hb dX12_keep_14 (by decide) ?_
    refine lv_icmp_ge (tgt := 44) hx hb dX12_keep_17 (by decide) (fun c_68 => ?_) (fun c_68 => ?_)
    · have hn_69 : 231 ≤ k_47 := (nI_leI (a := 231) (b := k_47) (by omega) (by omega)).mp c_68
      refine lv_aload_n hx hb dX12_keep_44 rfl (lv_at hl 1 rfl) ?_
      refine va_get (D := (dC, dI)) (ci := 12) (v := .ref nw) (C := RX12) (T := TX12) (N := 24) hx hb hts iw_m_keep_X12 hown hK hP 0 rfl rfl 0 (by decide) (hts (.fieldLink RX12 7 "ThriceCountedModel" "now" "[I") (by decide +kernel)) (fun _ h9 => h9) rfl dX12_keep_45 ?_
      refine lv_iconst (v := 4) hx hb dX12_keep_48 (by decide) ?_
      refine lv_bipush (v := 7) hx hb dX12_keep_49 (by decide) ?_
      refine va_iast hx hb hK hP hD hS 1 0 rfl rfl (show ¬ ((4 : Int32) < 0 ∨ 350 ≤ (4 : Int32).toNatClampNeg) by decide) dX12_keep_51 (fun H locs hP hD hS => ?_)
      have hk_71 : tz_OK 350 (upd f_58 (Int32.toNatClampNeg 4) 7) := hi_64_0.updc (K := 4) (by omega) (tz_bd_of (show tz_b 4 = (0, 8) from by decide) (by decide) (by decide)) (by omega) (fun i hi => by omega)
      have hk_72 : (upd f_58 (Int32.toNatClampNeg 4) 7) 2 = nI jc := tz_upd_ne (K := 4) (by omega) (by omega) hi_65_1
      have hk_73 : (upd f_58 (Int32.toNatClampNeg 4) 7) 4 = nI 7 := tz_upd_eq (K := 4) (by omega)
      generalize (upd f_58 (Int32.toNatClampNeg 4) 7) = f_70 at hP hD hk_71 hk_72 hk_73
      have hP : va_P (dC, dI) vwCl [(mo, .inr (12, [.ref nw, .ref kp, .ref ik, .ref mr, .long la_, .long lb_, .ref mw, .long lc_, .int ti_, .int cb_, .long ld_, .long le_, .ref mq, .ref mz, .ref my, .int sm_, .ref mb, .int bl_, .int ta_, .int tl_, .int tk_, .int vl_, .ref mx, .ref mv])), (nw, .inl (cn_, 350, .inl f_70))] H := hP
      have hD : va_D A [(mo, .inr (12, [.ref nw, .ref kp, .ref ik, .ref mr, .long la_, .long lb_, .ref mw, .long lc_, .int ti_, .int cb_, .long ld_, .long le_, .ref mq, .ref mz, .ref my, .int sm_, .ref mb, .int bl_, .int ta_, .int tl_, .int tk_, .int vl_, .ref mx, .ref mv])), (nw, .inl (cn_, 350, .inl f_70))] := hD
      refine lv_bipush (v := 86) hx hb dX12_keep_52 (by decide) ?_
      refine lv_bipush (v := 33) hx hb dX12_keep_54 (by decide) ?_
      refine lv_aload_n hx hb dX12_keep_56 rfl (lv_at hl 1 rfl) ?_
      refine va_get (D := (dC, dI)) (ci := 12) (v := .ref nw) (C := RX12) (T := TX12) (N := 24) hx hb hts iw_m_keep_X12 hown hK hP 0 rfl rfl 0 (by decide) (hts (.fieldLink RX12 7 "ThriceCountedModel" "now" "[I") (by decide +kernel)) (fun _ h9 => h9) rfl dX12_keep_57 ?_
      refine lv_iconst (v := 4) hx hb dX12_keep_60 (by decide) ?_
      refine va_iald hx hb hK hP 1 0 rfl rfl (show ¬ ((4 : Int32) < 0 ∨ 350 ≤ (4 : Int32).toNatClampNeg) by decide) dX12_keep_61 ?_
      refine tz_i 7 hk_73 ?_
      refine lv_imul hx hb dX12_keep_62 ?_
      refine tz_i 231 (by decide) ?_
      refine lv_iadd hx hb dX12_keep_63 ?_
      refine tz_i 317 (by decide) ?_
      refine lv_istore_n (lv' := [(1, .int 317), (0, .ref mo)]) hx hb dX12_keep_64 rfl hl (by decide) rfl (fun ls hl => ?_)
      refine lv_iconst (v := 0) hx hb dX12_keep_65 (by decide) ?_
      refine lv_istore_n (lv' := [(2, .int 0), (1, .int 317), (0, .ref mo)]) hx hb dX12_keep_66 rfl hl (by decide) rfl (fun ls hl => ?_)
      refine tz_while (σ := Nat × (Nat → Int32) × Heap × List Loc × Array Slot) (fun x => W p l e _ s m _ below meth c x.2.2.1 x.2.2.2.1 _ _ _ (F0 m 67 x.2.2.2.2 [])) (fun x => tz_OK 350 x.2.1 ∧ x.2.1 2 = nI jc ∧ x.2.1 4 = nI 7 ∧ x.1 ≤ 32 ∧ va_P (dC, dI) vwCl [(mo, .inr (12, [.ref nw, .ref kp, .ref ik, .ref mr, .long la_, .long lb_, .ref mw, .long lc_, .int ti_, .int cb_, .long ld_, .long le_, .ref mq, .ref mz, .ref my, .int sm_, .ref mb, .int bl_, .int ta_, .int tl_, .int tk_, .int vl_, .ref mx, .ref mv])), (nw, .inl (cn_, 350, .inl x.2.1))] x.2.2.1 ∧ va_D A [(mo, .inr (12, [.ref nw, .ref kp, .ref ik, .ref mr, .long la_, .long lb_, .ref mw, .long lc_, .int ti_, .int cb_, .long ld_, .long le_, .ref mq, .ref mz, .ref my, .int sm_, .ref mb, .int bl_, .int ta_, .int tl_, .int tk_, .int vl_, .ref mx, .ref mv])), (nw, .inl (cn_, 350, .inl x.2.1))] ∧ va_S A s.heap x.2.2.1 x.2.2.2.1 ∧ lv_has x.2.2.2.2 3 [(2, .int (nI x.1)), (1, .int 317), (0, .ref mo)]) (fun x => 32 - x.1) ?_ (0, f_70, H, locs, ls) ⟨hk_71, hk_72, hk_73, by (try dsimp only); omega, hP, hD, hS, hl⟩
      rintro ⟨k_74, f_85, H, locs, ls⟩ ⟨hi_91_0, hi_92_1, hi_93_2, hi_94_3, hP, hD, hS, hl⟩ ih_95
      dsimp only at hi_91_0 hi_92_1 hi_93_2 hi_94_3 hP hD hS hl ih_95 ⊢
      refine lv_iload_n hx hb dX12_keep_67 rfl (lv_at hl 0 rfl) ?_
      refine lv_bipush (v := 32) hx hb dX12_keep_68 (by decide) ?_
      refine lv_icmp_ge (tgt := 96) hx hb dX12_keep_70 (by decide) (fun c_96 => ?_) (fun c_96 => ?_)
      · have hn_97 : 32 ≤ k_74 := (nI_leI (a := 32) (b := k_74) (by omega) (by omega)).mp c_96
        refine lv_aload_n hx hb dX12_keep_96 rfl (lv_at hl 2 rfl) ?_
        refine va_get (D := (dC, dI)) (ci := 12) (v := .ref nw) (C := RX12) (T := TX12) (N := 24) hx hb hts iw_m_keep_X12 hown hK hP 0 rfl rfl 0 (by decide) (hts (.fieldLink RX12 7 "ThriceCountedModel" "now" "[I") (by decide +kernel)) (fun _ h9 => h9) rfl dX12_keep_97 ?_
        refine lv_iload_n hx hb dX12_keep_100 rfl (lv_at hl 1 rfl) ?_
        refine lv_bipush (v := 32) hx hb dX12_keep_101 (by decide) ?_
        refine lv_iadd hx hb dX12_keep_103 ?_
        refine tz_i 349 (by decide) ?_
        refine lv_aload_n hx hb dX12_keep_104 rfl (lv_at hl 2 rfl) ?_
        refine va_get (D := (dC, dI)) (ci := 12) (v := .ref nw) (C := RX12) (T := TX12) (N := 24) hx hb hts iw_m_keep_X12 hown hK hP 0 rfl rfl 0 (by decide) (hts (.fieldLink RX12 7 "ThriceCountedModel" "now" "[I") (by decide +kernel)) (fun _ h9 => h9) rfl dX12_keep_105 ?_
        refine lv_iconst (v := 2) hx hb dX12_keep_108 (by decide) ?_
        refine va_iald hx hb hK hP 1 0 rfl rfl (show ¬ ((2 : Int32) < 0 ∨ 350 ≤ (2 : Int32).toNatClampNeg) by decide) dX12_keep_109 ?_
        refine tz_i (nI jc) hi_92_1 ?_
        refine va_iast hx hb hK hP hD hS 1 0 rfl rfl (show ¬ ((349 : Int32) < 0 ∨ 350 ≤ (349 : Int32).toNatClampNeg) by decide) dX12_keep_110 (fun H locs hP hD hS => ?_)
        have hk_99 : tz_OK 350 (upd f_85 (Int32.toNatClampNeg 349) (nI jc)) := hi_91_0.updc (K := 349) (by omega) (tz_bd_nI (tz_b_kcK (u := 7) (by omega) (by omega)) (by omega) (by omega) (by omega)) (by omega) (fun i hi => by omega)
        have hk_100 : (upd f_85 (Int32.toNatClampNeg 349) (nI jc)) 2 = nI jc := tz_upd_ne (K := 349) (by omega) (by omega) hi_92_1
        have hk_101 : (upd f_85 (Int32.toNatClampNeg 349) (nI jc)) 4 = nI 7 := tz_upd_ne (K := 349) (by omega) (by omega) hi_93_2
        have hk_102 : (upd f_85 (Int32.toNatClampNeg 349) (nI jc)) 349 = nI jc := tz_upd_eq (K := 349) (by omega)
        generalize (upd f_85 (Int32.toNatClampNeg 349) (nI jc)) = f_98 at hP hD hk_99 hk_100 hk_101 hk_102
        have hP : va_P (dC, dI) vwCl [(mo, .inr (12, [.ref nw, .ref kp, .ref ik, .ref mr, .long la_, .long lb_, .ref mw, .long lc_, .int ti_, .int cb_, .long ld_, .long le_, .ref mq, .ref mz, .ref my, .int sm_, .ref mb, .int bl_, .int ta_, .int tl_, .int tk_, .int vl_, .ref mx, .ref mv])), (nw, .inl (cn_, 350, .inl f_98))] H := hP
        have hD : va_D A [(mo, .inr (12, [.ref nw, .ref kp, .ref ik, .ref mr, .long la_, .long lb_, .ref mw, .long lc_, .int ti_, .int cb_, .long ld_, .long le_, .ref mq, .ref mz, .ref my, .int sm_, .ref mb, .int bl_, .int ta_, .int tl_, .int tk_, .int vl_, .ref mx, .ref mv])), (nw, .inl (cn_, 350, .inl f_98))] := hD
        refine lv_aload_n hx hb dX12_keep_111 rfl (lv_at hl 2 rfl) ?_
        refine va_get (D := (dC, dI)) (ci := 12) (v := .ref nw) (C := RX12) (T := TX12) (N := 24) hx hb hts iw_m_keep_X12 hown hK hP 0 rfl rfl 0 (by decide) (hts (.fieldLink RX12 7 "ThriceCountedModel" "now" "[I") (by decide +kernel)) (fun _ h9 => h9) rfl dX12_keep_112 ?_
        refine lv_iconst (v := 4) hx hb dX12_keep_115 (by decide) ?_
        refine lv_dup2_11 hx hb dX12_keep_116 rfl rfl ?_
        refine va_iald hx hb hK hP 1 0 rfl rfl (show ¬ ((4 : Int32) < 0 ∨ 350 ≤ (4 : Int32).toNatClampNeg) by decide) dX12_keep_117 ?_
        refine tz_i 7 hk_101 ?_
        refine lv_iconst (v := 1) hx hb dX12_keep_118 (by decide) ?_
        refine lv_iadd hx hb dX12_keep_119 ?_
        refine tz_i 8 (by decide) ?_
        refine va_iast hx hb hK hP hD hS 1 0 rfl rfl (show ¬ ((4 : Int32) < 0 ∨ 350 ≤ (4 : Int32).toNatClampNeg) by decide) dX12_keep_120 (fun H locs hP hD hS => ?_)
        have hk_104 : tz_OK 350 (upd f_98 (Int32.toNatClampNeg 4) 8) := hk_99.updc (K := 4) (by omega) (tz_bd_of (show tz_b 4 = (0, 8) from by decide) (by decide) (by decide)) (by omega) (fun i hi => by omega)
        have hk_105 : (upd f_98 (Int32.toNatClampNeg 4) 8) 2 = nI jc := tz_upd_ne (K := 4) (by omega) (by omega) hk_100
        have hk_106 : (upd f_98 (Int32.toNatClampNeg 4) 8) 349 = nI jc := tz_upd_ne (K := 4) (by omega) (by omega) hk_102
        have hk_107 : (upd f_98 (Int32.toNatClampNeg 4) 8) 4 = nI 8 := tz_upd_eq (K := 4) (by omega)
        generalize (upd f_98 (Int32.toNatClampNeg 4) 8) = f_103 at hP hD hk_104 hk_105 hk_106 hk_107
        have hP : va_P (dC, dI) vwCl [(mo, .inr (12, [.ref nw, .ref kp, .ref ik, .ref mr, .long la_, .long lb_, .ref mw, .long lc_, .int ti_, .int cb_, .long ld_, .long le_, .ref mq, .ref mz, .ref my, .int sm_, .ref mb, .int bl_, .int ta_, .int tl_, .int tk_, .int vl_, .ref mx, .ref mv])), (nw, .inl (cn_, 350, .inl f_103))] H := hP
        have hD : va_D A [(mo, .inr (12, [.ref nw, .ref kp, .ref ik, .ref mr, .long la_, .long lb_, .ref mw, .long lc_, .int ti_, .int cb_, .long ld_, .long le_, .ref mq, .ref mz, .ref my, .int sm_, .ref mb, .int bl_, .int ta_, .int tl_, .int tk_, .int vl_, .ref mx, .ref mv])), (nw, .inl (cn_, 350, .inl f_103))] := hD
        have hP9 := hP.sub (ws' := [(mo, .inr (12, [.ref nw, .ref kp, .ref ik, .ref mr, .long la_, .long lb_, .ref mw, .long lc_, .int ti_, .int cb_, .long ld_, .long le_, .ref mq, .ref mz, .ref my, .int sm_, .ref mb, .int bl_, .int ta_, .int tl_, .int tk_, .int vl_, .ref mx, .ref mv])), (nw, .inl (cn_, 350, .inl f_103))]) [0, 1] rfl
        have hD9 := hD.sub (ws' := [(mo, .inr (12, [.ref nw, .ref kp, .ref ik, .ref mr, .long la_, .long lb_, .ref mw, .long lc_, .int ti_, .int cb_, .long ld_, .long le_, .ref mq, .ref mz, .ref my, .int sm_, .ref mb, .int bl_, .int ta_, .int tl_, .int tk_, .int vl_, .ref mx, .ref mv])), (nw, .inl (cn_, 350, .inl f_103))]) [0, 1] (by decide) rfl
        have hK9 := hK.sub (tys' := [(cn_, .int)]) [0] rfl
        exact W.vret hx hb hr (fun t ht hW => ⟨⟨(), rfl, trivial, f_103, hk_104, hk_105, by rw [ht]; exact hP9, va_K.moved hW.alike hK9, hD9⟩, hS.F ht⟩) hS.2.2 dX12_keep_121
      · have hn_108 : ¬ 32 ≤ k_74 := fun q => c_96 ((nI_leI (a := 32) (b := k_74) (by omega) (by omega)).mpr q)
        refine lv_aload_n hx hb dX12_keep_73 rfl (lv_at hl 2 rfl) ?_
        refine va_get (D := (dC, dI)) (ci := 12) (v := .ref nw) (C := RX12) (T := TX12) (N := 24) hx hb hts iw_m_keep_X12 hown hK hP 0 rfl rfl 0 (by decide) (hts (.fieldLink RX12 7 "ThriceCountedModel" "now" "[I") (by decide +kernel)) (fun _ h9 => h9) rfl dX12_keep_74 ?_
        refine lv_iload_n hx hb dX12_keep_77 rfl (lv_at hl 1 rfl) ?_
        refine lv_iload_n hx hb dX12_keep_78 rfl (lv_at hl 0 rfl) ?_
        refine lv_iadd hx hb dX12_keep_79 ?_
        refine tz_i (nI (317 + k_74)) (nI_add 317 k_74) ?_
        refine lv_aload_n hx hb dX12_keep_80 rfl (lv_at hl 2 rfl) ?_
        refine va_get (D := (dC, dI)) (ci := 12) (v := .ref nw) (C := RX12) (T := TX12) (N := 24) hx hb hts iw_m_keep_X12 hown hK hP 0 rfl rfl 0 (by decide) (hts (.fieldLink RX12 7 "ThriceCountedModel" "now" "[I") (by decide +kernel)) (fun _ h9 => h9) rfl dX12_keep_81 ?_
        refine lv_bipush (v := 30) hx hb dX12_keep_84 (by decide) ?_
        refine lv_iload_n hx hb dX12_keep_86 rfl (lv_at hl 0 rfl) ?_
        refine lv_iadd hx hb dX12_keep_87 ?_
        refine tz_i (nI (30 + k_74)) (nI_add 30 k_74) ?_
        refine va_iald hx hb hK hP 1 0 rfl rfl (vp_in_nI (n := (30 + k_74)) (N := 350) (by omega) (by decide)) dX12_keep_88 ?_
        refine lv_topi (fun x_109 ex_110 => ?_)
        have hb_111 : tz_bd (30 + k_74) x_109 := tz_bd_ld hi_91_0 (by omega) ex_110 (by omega)
        refine va_iast hx hb hK hP hD hS 1 0 rfl rfl (vp_in_nI (n := (317 + k_74)) (N := 350) (by omega) (by decide)) dX12_keep_89 (fun H locs hP hD hS => ?_)
        have hk_113 : tz_OK 350 (upd f_85 (Int32.toNatClampNeg (nI (317 + k_74))) x_109) := hi_91_0.updc (K := (317 + k_74)) (by omega) (tz_bd_cp (tz_b_kpK (u := 7) (k := k_74) (by omega) (by omega) (by omega)) hb_111) (by omega) (fun i hi => by omega)
        have hk_114 : (upd f_85 (Int32.toNatClampNeg (nI (317 + k_74))) x_109) 2 = nI jc := tz_upd_ne (K := (317 + k_74)) (by omega) (by omega) hi_92_1
        have hk_115 : (upd f_85 (Int32.toNatClampNeg (nI (317 + k_74))) x_109) 4 = nI 7 := tz_upd_ne (K := (317 + k_74)) (by omega) (by omega) hi_93_2
        generalize (upd f_85 (Int32.toNatClampNeg (nI (317 + k_74))) x_109) = f_112 at hP hD hk_113 hk_114 hk_115
        have hP : va_P (dC, dI) vwCl [(mo, .inr (12, [.ref nw, .ref kp, .ref ik, .ref mr, .long la_, .long lb_, .ref mw, .long lc_, .int ti_, .int cb_, .long ld_, .long le_, .ref mq, .ref mz, .ref my, .int sm_, .ref mb, .int bl_, .int ta_, .int tl_, .int tk_, .int vl_, .ref mx, .ref mv])), (nw, .inl (cn_, 350, .inl f_112))] H := hP
        have hD : va_D A [(mo, .inr (12, [.ref nw, .ref kp, .ref ik, .ref mr, .long la_, .long lb_, .ref mw, .long lc_, .int ti_, .int cb_, .long ld_, .long le_, .ref mq, .ref mz, .ref my, .int sm_, .ref mb, .int bl_, .int ta_, .int tl_, .int tk_, .int vl_, .ref mx, .ref mv])), (nw, .inl (cn_, 350, .inl f_112))] := hD
        refine lv_iinc (v := (nI (k_74 + 1))) (lv' := [(2, .int (nI (k_74 + 1))), (1, .int 317), (0, .ref mo)]) hx hb dX12_keep_90 hl (k := 0) rfl (nI_add k_74 1) (by decide) rfl (fun ls hl => ?_)
        refine lv_goto (tgt := 67) hx hb dX12_keep_93 (by decide) ?_
        exact ih_95 ((k_74 + 1), f_112, H, locs, ls) ⟨hk_113, hk_114, hk_115, by dsimp only; omega, hP, hD, hS, lv_sub hl [0, 1, 2] rfl⟩ (by dsimp only; omega)
    · have hn_116 : ¬ 231 ≤ k_47 := fun q => c_68 ((nI_leI (a := 231) (b := k_47) (by omega) (by omega)).mpr q)
      refine lv_aload_n hx hb dX12_keep_20 rfl (lv_at hl 1 rfl) ?_
      refine va_get (D := (dC, dI)) (ci := 12) (v := .ref nw) (C := RX12) (T := TX12) (N := 24) hx hb hts iw_m_keep_X12 hown hK hP 0 rfl rfl 0 (by decide) (hts (.fieldLink RX12 7 "ThriceCountedModel" "now" "[I") (by decide +kernel)) (fun _ h9 => h9) rfl dX12_keep_21 ?_
      refine lv_bipush (v := 86) hx hb dX12_keep_24 (by decide) ?_
      refine lv_iload_n hx hb dX12_keep_26 rfl (lv_at hl 0 rfl) ?_
      refine lv_iadd hx hb dX12_keep_27 ?_
      refine tz_i (nI (86 + k_47)) (nI_add 86 k_47) ?_
      refine lv_aload_n hx hb dX12_keep_28 rfl (lv_at hl 1 rfl) ?_
      refine va_get (D := (dC, dI)) (ci := 12) (v := .ref nw) (C := RX12) (T := TX12) (N := 24) hx hb hts iw_m_keep_X12 hown hK hP 0 rfl rfl 0 (by decide) (hts (.fieldLink RX12 7 "ThriceCountedModel" "now" "[I") (by decide +kernel)) (fun _ h9 => h9) rfl dX12_keep_29 ?_
      refine lv_bipush (v := 119) hx hb dX12_keep_32 (by decide) ?_
      refine lv_iload_n hx hb dX12_keep_34 rfl (lv_at hl 0 rfl) ?_
      refine lv_iadd hx hb dX12_keep_35 ?_
      refine tz_i (nI (119 + k_47)) (nI_add 119 k_47) ?_
      refine va_iald hx hb hK hP 1 0 rfl rfl (vp_in_nI (n := (119 + k_47)) (N := 350) (by omega) (by decide)) dX12_keep_36 ?_
      refine lv_topi (fun x_117 ex_118 => ?_)
      have hb_119 : tz_bd (119 + k_47) x_117 := tz_bd_ld hi_64_0 (by omega) ex_118 (by omega)
      refine va_iast hx hb hK hP hD hS 1 0 rfl rfl (vp_in_nI (n := (86 + k_47)) (N := 350) (by omega) (by decide)) dX12_keep_37 (fun H locs hP hD hS => ?_)
      have hk_121 : tz_OK 350 (upd f_58 (Int32.toNatClampNeg (nI (86 + k_47))) x_117) := hi_64_0.updc (K := (86 + k_47)) (by omega) (tz_bd_cp (tz_b_shK (k := k_47) (by omega) (by omega) (by omega)) hb_119) (by omega) (fun i hi => by omega)
      have hk_122 : (upd f_58 (Int32.toNatClampNeg (nI (86 + k_47))) x_117) 2 = nI jc := tz_upd_ne (K := (86 + k_47)) (by omega) (by omega) hi_65_1
      generalize (upd f_58 (Int32.toNatClampNeg (nI (86 + k_47))) x_117) = f_120 at hP hD hk_121 hk_122
      have hP : va_P (dC, dI) vwCl [(mo, .inr (12, [.ref nw, .ref kp, .ref ik, .ref mr, .long la_, .long lb_, .ref mw, .long lc_, .int ti_, .int cb_, .long ld_, .long le_, .ref mq, .ref mz, .ref my, .int sm_, .ref mb, .int bl_, .int ta_, .int tl_, .int tk_, .int vl_, .ref mx, .ref mv])), (nw, .inl (cn_, 350, .inl f_120))] H := hP
      have hD : va_D A [(mo, .inr (12, [.ref nw, .ref kp, .ref ik, .ref mr, .long la_, .long lb_, .ref mw, .long lc_, .int ti_, .int cb_, .long ld_, .long le_, .ref mq, .ref mz, .ref my, .int sm_, .ref mb, .int bl_, .int ta_, .int tl_, .int tk_, .int vl_, .ref mx, .ref mv])), (nw, .inl (cn_, 350, .inl f_120))] := hD
      refine lv_iinc (v := (nI (k_47 + 1))) (lv' := [(1, .int (nI (k_47 + 1))), (0, .ref mo)]) hx hb dX12_keep_38 hl (k := 0) rfl (nI_add k_47 1) (by decide) rfl (fun ls hl => ?_)
      refine lv_goto (tgt := 13) hx hb dX12_keep_41 (by decide) ?_
      exact ih_67 ((k_47 + 1), f_120, H, locs, ls) ⟨hk_121, hk_122, by dsimp only; omega, hP, hD, hS, lv_sub hl [0, 1] rfl⟩ (by dsimp only; omega)
set_option maxRecDepth 20000 in
theorem ggX12_back_X12_isCount : GoodIn wsX12_back wsX12_isCount := goodIn_r _ [6, 1, 7, 8, 5, 9, 19, 20, 21, 22, 23, 24, 25, 26, 27, 28, 29, 30, 31, 32, 33, 34, 35, 36, 37, 38, 39, 40, 41, 42] (by decide +kernel) (by decide +kernel)
set_option maxRecDepth 20000 in
theorem gX12_back_X12_isCount : GoodIn wsX12_back (wsV RX12 110 RX12 yX12_isCount wsX12_isCount) := goodIn_app (goodIn_of _ (by decide +kernel)) ggX12_back_X12_isCount
set_option maxRecDepth 20000 in
theorem ggX12_back_X12_keep : GoodIn wsX12_back wsX12_keep := goodIn_r _ [18, 1, 19, 20, 21, 22, 23, 24, 25, 26, 27, 28, 29, 30, 31, 32, 33, 34, 35, 36, 37, 38, 39, 40, 41, 42] (by decide +kernel) (by decide +kernel)
set_option maxRecDepth 20000 in
theorem gX12_back_X12_keep : GoodIn wsX12_back (wsV RX12 103 RX12 yX12_keep wsX12_keep) := goodIn_app (goodIn_of _ (by decide +kernel)) ggX12_back_X12_keep
set_option maxRecDepth 20000 in
theorem ggX12_back_X12_bad : GoodIn wsX12_back wsX12_bad := goodIn_r _ [13, 14, 19, 20, 21, 22, 23, 24, 25, 26, 27, 28, 29, 30, 31, 32, 33, 34, 35, 36, 37, 38, 39, 40, 41, 42] (by decide +kernel) (by decide +kernel)
set_option maxRecDepth 20000 in
theorem gX12_back_X12_bad : GoodIn wsX12_back (wsV RX12 61 RX12 yX12_bad wsX12_bad) := goodIn_app (goodIn_of _ (by decide +kernel)) ggX12_back_X12_bad
theorem dX12_back_0 : decode cX12_back 0 = .ok (.aload_n 0, 1) := by decide +kernel
theorem dX12_back_1 : decode cX12_back 1 = .ok (.iload_n 1, 1) := by decide +kernel
theorem dX12_back_2 : decode cX12_back 2 = .ok (.invokevirtual 110, 3) := by decide +kernel
theorem dX12_back_5 : decode cX12_back 5 = .ok (.ifCond .ne 10, 3) := by decide +kernel
theorem dX12_back_15 : decode cX12_back 15 = .ok (.aload_n 0, 1) := by decide +kernel
theorem dX12_back_16 : decode cX12_back 16 = .ok (.invokevirtual 103, 3) := by decide +kernel
theorem dX12_back_19 : decode cX12_back 19 = .ok (.iconst 4, 1) := by decide +kernel
theorem dX12_back_20 : decode cX12_back 20 = .ok (.iload_n 1, 1) := by decide +kernel
theorem dX12_back_21 : decode cX12_back 21 = .ok (.imul, 1) := by decide +kernel
theorem dX12_back_22 : decode cX12_back 22 = .ok (.istore_n 2, 1) := by decide +kernel
theorem dX12_back_23 : decode cX12_back 23 = .ok (.iload_n 2, 1) := by decide +kernel
theorem dX12_back_24 : decode cX12_back 24 = .ok (.bipush 28, 2) := by decide +kernel
theorem dX12_back_26 : decode cX12_back 26 = .ok (.if_icmp .ge 29, 3) := by decide +kernel
theorem dX12_back_29 : decode cX12_back 29 = .ok (.aload_n 0, 1) := by decide +kernel
theorem dX12_back_30 : decode cX12_back 30 = .ok (.getfield 7, 3) := by decide +kernel
theorem dX12_back_33 : decode cX12_back 33 = .ok (.bipush 30, 2) := by decide +kernel
theorem dX12_back_35 : decode cX12_back 35 = .ok (.iload_n 2, 1) := by decide +kernel
theorem dX12_back_36 : decode cX12_back 36 = .ok (.iadd, 1) := by decide +kernel
theorem dX12_back_37 : decode cX12_back 37 = .ok (.aload_n 0, 1) := by decide +kernel
theorem dX12_back_38 : decode cX12_back 38 = .ok (.getfield 7, 3) := by decide +kernel
theorem dX12_back_41 : decode cX12_back 41 = .ok (.bipush 30, 2) := by decide +kernel
theorem dX12_back_43 : decode cX12_back 43 = .ok (.iload_n 2, 1) := by decide +kernel
theorem dX12_back_44 : decode cX12_back 44 = .ok (.iadd, 1) := by decide +kernel
theorem dX12_back_45 : decode cX12_back 45 = .ok (.iconst 4, 1) := by decide +kernel
theorem dX12_back_46 : decode cX12_back 46 = .ok (.iadd, 1) := by decide +kernel
theorem dX12_back_47 : decode cX12_back 47 = .ok (.iaload, 1) := by decide +kernel
theorem dX12_back_48 : decode cX12_back 48 = .ok (.iastore, 1) := by decide +kernel
theorem dX12_back_49 : decode cX12_back 49 = .ok (.iinc 2 1, 3) := by decide +kernel
theorem dX12_back_52 : decode cX12_back 52 = .ok (.goto (-29), 3) := by decide +kernel
theorem dX12_back_55 : decode cX12_back 55 = .ok (.aload_n 0, 1) := by decide +kernel
theorem dX12_back_56 : decode cX12_back 56 = .ok (.getfield 7, 3) := by decide +kernel
theorem dX12_back_59 : decode cX12_back 59 = .ok (.iconst 2, 1) := by decide +kernel
theorem dX12_back_60 : decode cX12_back 60 = .ok (.dup2, 1) := by decide +kernel
theorem dX12_back_61 : decode cX12_back 61 = .ok (.iaload, 1) := by decide +kernel
theorem dX12_back_62 : decode cX12_back 62 = .ok (.iconst 1, 1) := by decide +kernel
theorem dX12_back_63 : decode cX12_back 63 = .ok (.isub, 1) := by decide +kernel
theorem dX12_back_64 : decode cX12_back 64 = .ok (.iastore, 1) := by decide +kernel
theorem dX12_back_65 : decode cX12_back 65 = .ok (.aload_n 0, 1) := by decide +kernel
theorem dX12_back_66 : decode cX12_back 66 = .ok (.getfield 7, 3) := by decide +kernel
theorem dX12_back_69 : decode cX12_back 69 = .ok (.iconst 2, 1) := by decide +kernel
theorem dX12_back_70 : decode cX12_back 70 = .ok (.iaload, 1) := by decide +kernel
theorem dX12_back_71 : decode cX12_back 71 = .ok (.ireturn, 1) := by decide +kernel
theorem dX12_back_8 : decode cX12_back 8 = .ok (.aload_n 0, 1) := by decide +kernel
theorem dX12_back_9 : decode cX12_back 9 = .ok (.bipush (-2), 2) := by decide +kernel
theorem dX12_back_11 : decode cX12_back 11 = .ok (.invokevirtual 61, 3) := by decide +kernel
theorem dX12_back_14 : decode cX12_back 14 = .ok (.ireturn, 1) := by decide +kernel
set_option maxRecDepth 20000 in
theorem iw_m_back_X12 : ∀ w ∈ wsX120, w ∈ wsX12_back := by decide +kernel
set_option maxHeartbeats 4000000 in
set_option maxRecDepth 100000 in
theorem m_back (l : Launch) (dC : Nat → ClassId) (dI : Nat → Nat → Nat) (mo : Nat) (nw : Nat) (kp : Nat) (ik : Nat) (mr : Nat) (la_ : Int64) (lb_ : Int64) (mw : Nat) (lc_ : Int64) (ti_ : Int32) (cb_ : Int32) (ld_ : Int64) (le_ : Int64) (mq : Nat) (mz : Nat) (my : Nat) (sm_ : Int32) (mb : Nat) (bl_ : Int32) (ta_ : Int32) (tl_ : Int32) (tk_ : Int32) (vl_ : Int32) (mx : Nat) (mv : Nat) (cn_ : ClassId) (fn : Nat → Int32) (cr_ : ClassId) (fr_ : Nat → Int32) (na : Int32) (sz : Nat) (hOn : tz_OK 350 fn) : Met l yX12_back wsX12_back ({ frames := 2, cells := 0, slots := 0, locals := 46 }) (va_Pc [.ref mo, .int na] (fun U => U.heap.size = sz ∧ va_P (dC, dI) vwCl [(mo, .inr (12, [.ref nw, .ref kp, .ref ik, .ref mr, .long la_, .long lb_, .ref mw, .long lc_, .int ti_, .int cb_, .long ld_, .long le_, .ref mq, .ref mz, .ref my, .int sm_, .ref mb, .int bl_, .int ta_, .int tl_, .int tk_, .int vl_, .ref mx, .ref mv])), (nw, .inl (cn_, 350, .inl fn)), (mr, .inl (cr_, 3, .inl fr_))] U.heap ∧ va_K (dC, dI) vwCl [(cn_, .int), (cr_, .int)] U ∧ va_D (fun _ => True) [(mo, .inr (12, [.ref nw, .ref kp, .ref ik, .ref mr, .long la_, .long lb_, .ref mw, .long lc_, .int ti_, .int cb_, .long ld_, .long le_, .ref mq, .ref mz, .ref my, .int sm_, .ref mb, .int bl_, .int ta_, .int tl_, .int tk_, .int vl_, .ref mx, .ref mv])), (nw, .inl (cn_, 350, .inl fn)), (mr, .inl (cr_, 3, .inl fr_))])) (va_Qi (fun (r : Int32) (_ : Unit) => True) (fun _ t => ∃ (gn : Nat → Int32) (gr_ : Nat → Int32), (tz_OK 350 gn) ∧ va_P (dC, dI) vwCl [(mo, .inr (12, [.ref nw, .ref kp, .ref ik, .ref mr, .long la_, .long lb_, .ref mw, .long lc_, .int ti_, .int cb_, .long ld_, .long le_, .ref mq, .ref mz, .ref my, .int sm_, .ref mb, .int bl_, .int ta_, .int tl_, .int tk_, .int vl_, .ref mx, .ref mv])), (nw, .inl (cn_, 350, .inl gn)), (mr, .inl (cr_, 3, .inl gr_))] t.heap ∧ va_K (dC, dI) vwCl [(cn_, .int), (cr_, .int)] t ∧ va_D (va_A [(mo, .inr (12, [.ref nw, .ref kp, .ref ik, .ref mr, .long la_, .long lb_, .ref mw, .long lc_, .int ti_, .int cb_, .long ld_, .long le_, .ref mq, .ref mz, .ref my, .int sm_, .ref mb, .int bl_, .int ta_, .int tl_, .int tk_, .int vl_, .ref mx, .ref mv])), (nw, .inl (cn_, 350, .inl fn)), (mr, .inl (cr_, 3, .inl fr_))] sz) [(mo, .inr (12, [.ref nw, .ref kp, .ref ik, .ref mr, .long la_, .long lb_, .ref mw, .long lc_, .int ti_, .int cb_, .long ld_, .long le_, .ref mq, .ref mz, .ref my, .int sm_, .ref mb, .int bl_, .int ta_, .int tl_, .int tk_, .int vl_, .ref mx, .ref mv])), (nw, .inl (cn_, 350, .inl gn)), (mr, .inl (cr_, 3, .inl gr_))]) (va_A [(mo, .inr (12, [.ref nw, .ref kp, .ref ik, .ref mr, .long la_, .long lb_, .ref mw, .long lc_, .int ti_, .int cb_, .long ld_, .long le_, .ref mq, .ref mz, .ref my, .int sm_, .ref mb, .int bl_, .int ta_, .int tl_, .int tk_, .int vl_, .ref mx, .ref mv])), (nw, .inl (cn_, 350, .inl fn)), (mr, .inl (cr_, 3, .inl fr_))] sz)) 0 0 (va_A [(mo, .inr (12, [.ref nw, .ref kp, .ref ik, .ref mr, .long la_, .long lb_, .ref mw, .long lc_, .int ti_, .int cb_, .long ld_, .long le_, .ref mq, .ref mz, .ref my, .int sm_, .ref mb, .int bl_, .int ta_, .int tl_, .int tk_, .int vl_, .ref mx, .ref mv])), (nw, .inl (cn_, 350, .inl fn)), (mr, .inl (cr_, 3, .inl fr_))] sz) := by
  refine Met.ofW (cc := cX12_back) (maxL := 3) (ret := (some .int)) (by decide) rfl ?_
  intro p e s m args below meth c s₁ B hml hv
  obtain ⟨rfl, hsz, hP, hK, hD0⟩ := hv
  have hx := B.exec
  have hb := B.bytes
  have hr := B.returns
  have hts := atoms_spec (ws := wsX12_back) B.pre
  have hown : s.vm.findClass RX12 = some m.cls := findClass_of_methodNamed B.named
  have hlocks := B.notSynchronized
  subst hsz
  have hD := hD0.self (sz := s.heap.size)
  generalize hAe : va_A [(mo, .inr (12, [.ref nw, .ref kp, .ref ik, .ref mr, .long la_, .long lb_, .ref mw, .long lc_, .int ti_, .int cb_, .long ld_, .long le_, .ref mq, .ref mz, .ref my, .int sm_, .ref mb, .int bl_, .int ta_, .int tl_, .int tk_, .int vl_, .ref mx, .ref mv])), (nw, .inl (cn_, 350, .inl fn)), (mr, .inl (cr_, 3, .inl fr_))] s.heap.size = A at hD ⊢
  have hA : ∀ q : Nat, s.heap.size ≤ q → A q := fun q h => by rw [← hAe]; exact Or.inr h
  have hS : va_S A s.heap s.heap [] := va_S.rf
  have hP : va_P (dC, dI) vwCl [(mo, .inr (12, [.ref nw, .ref kp, .ref ik, .ref mr, .long la_, .long lb_, .ref mw, .long lc_, .int ti_, .int cb_, .long ld_, .long le_, .ref mq, .ref mz, .ref my, .int sm_, .ref mb, .int bl_, .int ta_, .int tl_, .int tk_, .int vl_, .ref mx, .ref mv])), (nw, .inl (cn_, 350, .inl fn)), (mr, .inl (cr_, 3, .inl fr_))] s.heap := hP
  have hl := lv_entry ([.ref mo, .int na]) (n := 3) (Nat.le_of_ble_eq_true rfl)
  rw [lg_entry_eq]
  generalize (lg_sl ([.ref mo, .int na]) ++ List.replicate (3 - (lg_sl ([.ref mo, .int na])).length) Slot.unset).toArray = ls at hl ⊢
  have hl : lv_has ls 3 [(0, .ref mo), (1, .int na)] := hl
  refine lv_aload_n hx hb dX12_back_0 rfl (lv_at hl 0 rfl) ?_
  refine lv_iload_n hx hb dX12_back_1 rfl (lv_at hl 1 rfl) ?_
  have hPc_1 := hP.sub (ws' := [(mo, .inr (12, [.ref nw, .ref kp, .ref ik, .ref mr, .long la_, .long lb_, .ref mw, .long lc_, .int ti_, .int cb_, .long ld_, .long le_, .ref mq, .ref mz, .ref my, .int sm_, .ref mb, .int bl_, .int ta_, .int tl_, .int tk_, .int vl_, .ref mx, .ref mv])), (nw, .inl (cn_, 350, .inl fn))]) [0, 1] rfl
  have hKc_2 := hK.sub (tys' := [(cn_, .int)]) [0] rfl
  refine vp_callSi (va_Run.run (va_runV (As := [.int na]) (rest := []) ⟨hx, hb, hml, hown, hts⟩ (m_isCount l dC dI mo nw kp ik mr la_ lb_ mw lc_ ti_ cb_ ld_ le_ mq mz my sm_ mb bl_ ta_ tl_ tk_ vl_ mx mv cn_ fn na hOn) (cwV 1 hts gX12_back_X12_isCount rfl rfl rfl (by decide +kernel) ⟨Nat.le_of_ble_eq_true rfl, Nat.le_of_ble_eq_true rfl⟩) ⟨fun a U g mk q => by obtain ⟨q0, qP, qK⟩ := q; exact ⟨q0, qP, va_K.moved (u := U) (U := U.calling g mk a) (Vm.Alike.refl U.vm) qK⟩, va_recv hK hP (ci := 12) (q0 := 0) rfl rfl, fun U hU hW => ⟨rfl, by rw [hU]; exact hPc_1, va_K.moved hW.alike hKc_2⟩⟩ rfl rfl hl.1 rfl (lv_room (Nat.le_of_ble_eq_true rfl)) dX12_back_2 ⟨Nat.le_of_ble_eq_true rfl, Nat.le_of_ble_eq_true rfl⟩)) (fun r_3 hw_4 => ?_)
  by_cases hc_5 : 0 ≤ na ∧ na < (fn 2)
  · obtain rfl : 1 = r_3 := (hw_4.trans (if_pos hc_5)).symm
    obtain ⟨j_7, hj_8, ej_9⟩ := hOn.nat (K := 2) (n := 8) (by omega) (show tz_b 2 = (0, 8) from by decide)
    obtain ⟨j_6, hj_10, rfl⟩ := tz_idx2 (J := j_7) hc_5 ej_9 (by omega)
    refine lv_if_ne (tgt := 15) hx hb dX12_back_5 (by decide) (fun c_11 => ?_) (fun c_11 => ?_)
    · refine lv_aload_n hx hb dX12_back_15 rfl (lv_at hl 0 rfl) ?_
      have hPc := hP.sub (ws' := [(mo, .inr (12, [.ref nw, .ref kp, .ref ik, .ref mr, .long la_, .long lb_, .ref mw, .long lc_, .int ti_, .int cb_, .long ld_, .long le_, .ref mq, .ref mz, .ref my, .int sm_, .ref mb, .int bl_, .int ta_, .int tl_, .int tk_, .int vl_, .ref mx, .ref mv])), (nw, .inl (cn_, 350, .inl fn))]) [0, 1] rfl
      have hDc := hD.sub (ws' := [(mo, .inr (12, [.ref nw, .ref kp, .ref ik, .ref mr, .long la_, .long lb_, .ref mw, .long lc_, .int ti_, .int cb_, .long ld_, .long le_, .ref mq, .ref mz, .ref my, .int sm_, .ref mb, .int bl_, .int ta_, .int tl_, .int tk_, .int vl_, .ref mx, .ref mv])), (nw, .inl (cn_, 350, .inl fn))]) [0, 1] (by decide) rfl
      have hKc := hK.sub (tys' := [(cn_, .int)]) [0] rfl
      have hFc := va_free (wc := [(mo, .inr (12, [.ref nw, .ref kp, .ref ik, .ref mr, .long la_, .long lb_, .ref mw, .long lc_, .int ti_, .int cb_, .long ld_, .long le_, .ref mq, .ref mz, .ref my, .int sm_, .ref mb, .int bl_, .int ta_, .int tl_, .int tk_, .int vl_, .ref mx, .ref mv])), (nw, .inl (cn_, 350, .inl fn))]) hD hS hA [0, 1] rfl
      refine va_callv (va_runV (As := []) (rest := []) ⟨hx, hb, hml, hown, hts⟩ (m_keep l dC dI mo nw kp ik mr la_ lb_ mw lc_ ti_ cb_ ld_ le_ mq mz my sm_ mb bl_ ta_ tl_ tk_ vl_ mx mv cn_ fn j_7 s.heap.size hOn ej_9 (by omega)) (cwV 0 hts gX12_back_X12_keep rfl rfl rfl (by decide +kernel) ⟨Nat.le_of_ble_eq_true rfl, Nat.le_of_ble_eq_true rfl⟩) ⟨fun a U g mk q => by obtain ⟨q0, q1, qP, qK, qD⟩ := q; exact ⟨q0, q1, qP, va_K.moved (u := U) (U := U.calling g mk a) (Vm.Alike.refl U.vm) qK, qD⟩, va_recv hK hP (ci := 12) (q0 := 0) rfl rfl, fun U hU hW => ⟨rfl, by rw [hU], by rw [hU]; exact hPc, va_K.moved hW.alike hKc, hDc.weaken (fun _ _ _ _ => trivial)⟩⟩ rfl rfl hl.1 rfl (lv_room (Nat.le_of_ble_eq_true rfl)) dX12_back_16 ⟨Nat.le_of_ble_eq_true rfl, Nat.le_of_ble_eq_true rfl⟩) hS (fun q _ h => hFc q h) hFc (fun u_ t H1 locs ht hvm hw_13 hB hz1 hk1 hS => ?_)
      obtain ⟨gn_14, hf_15, hf_16, hP1, hK1, hD1⟩ := hB
      rw [ht] at hP1
      have hK1 := va_K.moved hvm.symm hK1
      obtain ⟨hP, hD⟩ := va_join (wr := [(mr, .inl (cr_, 3, .inl fr_))]) (w1 := [(mo, .inr (12, [.ref nw, .ref kp, .ref ik, .ref mr, .long la_, .long lb_, .ref mw, .long lc_, .int ti_, .int cb_, .long ld_, .long le_, .ref mq, .ref mz, .ref my, .int sm_, .ref mb, .int bl_, .int ta_, .int tl_, .int tk_, .int vl_, .ref mx, .ref mv])), (nw, .inl (cn_, 350, .inl gn_14))]) hP hD [0, 1] [2] rfl rfl (by decide) (by decide) hk1 hFc hP1 hD1
      generalize H1 = H at hP hS ⊢
      have hP : va_P (dC, dI) vwCl [(mr, .inl (cr_, 3, .inl fr_)), (mo, .inr (12, [.ref nw, .ref kp, .ref ik, .ref mr, .long la_, .long lb_, .ref mw, .long lc_, .int ti_, .int cb_, .long ld_, .long le_, .ref mq, .ref mz, .ref my, .int sm_, .ref mb, .int bl_, .int ta_, .int tl_, .int tk_, .int vl_, .ref mx, .ref mv])), (nw, .inl (cn_, 350, .inl gn_14))] H := hP
      have hD : va_D A [(mr, .inl (cr_, 3, .inl fr_)), (mo, .inr (12, [.ref nw, .ref kp, .ref ik, .ref mr, .long la_, .long lb_, .ref mw, .long lc_, .int ti_, .int cb_, .long ld_, .long le_, .ref mq, .ref mz, .ref my, .int sm_, .ref mb, .int bl_, .int ta_, .int tl_, .int tk_, .int vl_, .ref mx, .ref mv])), (nw, .inl (cn_, 350, .inl gn_14))] := hD
      refine lv_iconst (v := 4) hx hb dX12_back_19 (by decide) ?_
      refine lv_iload_n hx hb dX12_back_20 rfl (lv_at hl 1 rfl) ?_
      refine lv_imul hx hb dX12_back_21 ?_
      refine tz_i (nI (4 * j_6)) (pk_mul 4 j_6) ?_
      refine lv_istore_n (lv' := [(2, .int (nI (4 * j_6))), (0, .ref mo), (1, .int (nI j_6))]) hx hb dX12_back_22 rfl hl (by decide) rfl (fun ls hl => ?_)
      refine tz_while (σ := Nat × (Nat → Int32) × Heap × List Loc × Array Slot) (fun x => W p l e _ s m _ below meth c x.2.2.1 x.2.2.2.1 _ _ _ (F0 m 23 x.2.2.2.2 [])) (fun x => tz_OK 350 x.2.1 ∧ x.2.1 2 = nI j_7 ∧ x.1 ≤ 28 + (4 * j_6) ∧ va_P (dC, dI) vwCl [(mr, .inl (cr_, 3, .inl fr_)), (mo, .inr (12, [.ref nw, .ref kp, .ref ik, .ref mr, .long la_, .long lb_, .ref mw, .long lc_, .int ti_, .int cb_, .long ld_, .long le_, .ref mq, .ref mz, .ref my, .int sm_, .ref mb, .int bl_, .int ta_, .int tl_, .int tk_, .int vl_, .ref mx, .ref mv])), (nw, .inl (cn_, 350, .inl x.2.1))] x.2.2.1 ∧ va_D A [(mr, .inl (cr_, 3, .inl fr_)), (mo, .inr (12, [.ref nw, .ref kp, .ref ik, .ref mr, .long la_, .long lb_, .ref mw, .long lc_, .int ti_, .int cb_, .long ld_, .long le_, .ref mq, .ref mz, .ref my, .int sm_, .ref mb, .int bl_, .int ta_, .int tl_, .int tk_, .int vl_, .ref mx, .ref mv])), (nw, .inl (cn_, 350, .inl x.2.1))] ∧ va_S A s.heap x.2.2.1 x.2.2.2.1 ∧ lv_has x.2.2.2.2 3 [(2, .int (nI x.1)), (0, .ref mo), (1, .int (nI j_6))]) (fun x => 28 + (4 * j_6) - x.1) ?_ ((4 * j_6), gn_14, H, locs, ls) ⟨hf_15, hf_16, by (try dsimp only); omega, hP, hD, hS, hl⟩
      rintro ⟨k_17, f_27, H, locs, ls⟩ ⟨hi_33_0, hi_34_1, hi_35_2, hP, hD, hS, hl⟩ ih_36
      dsimp only at hi_33_0 hi_34_1 hi_35_2 hP hD hS hl ih_36 ⊢
      refine lv_iload_n hx hb dX12_back_23 rfl (lv_at hl 0 rfl) ?_
      refine lv_bipush (v := 28) hx hb dX12_back_24 (by decide) ?_
      refine lv_icmp_ge (tgt := 55) hx hb dX12_back_26 (by decide) (fun c_37 => ?_) (fun c_37 => ?_)
      · have hn_38 : 28 ≤ k_17 := (nI_leI (a := 28) (b := k_17) (by omega) (by omega)).mp c_37
        refine lv_aload_n hx hb dX12_back_55 rfl (lv_at hl 1 rfl) ?_
        refine va_get (D := (dC, dI)) (ci := 12) (v := .ref nw) (C := RX12) (T := TX12) (N := 24) hx hb hts iw_m_back_X12 hown hK hP 1 rfl rfl 0 (by decide) (hts (.fieldLink RX12 7 "ThriceCountedModel" "now" "[I") (by decide +kernel)) (fun _ h9 => h9) rfl dX12_back_56 ?_
        refine lv_iconst (v := 2) hx hb dX12_back_59 (by decide) ?_
        refine lv_dup2_11 hx hb dX12_back_60 rfl rfl ?_
        refine va_iald hx hb hK hP 2 0 rfl rfl (show ¬ ((2 : Int32) < 0 ∨ 350 ≤ (2 : Int32).toNatClampNeg) by decide) dX12_back_61 ?_
        refine tz_i (nI j_7) hi_34_1 ?_
        refine lv_iconst (v := 1) hx hb dX12_back_62 (by decide) ?_
        refine lv_isub hx hb dX12_back_63 ?_
        refine tz_i (nI (j_7 - 1)) (pk_sub (a := j_7) (b := 1) (by omega)) ?_
        refine va_iast hx hb hK hP hD hS 2 0 rfl rfl (show ¬ ((2 : Int32) < 0 ∨ 350 ≤ (2 : Int32).toNatClampNeg) by decide) dX12_back_64 (fun H locs hP hD hS => ?_)
        have hk_40 : tz_OK 350 (upd f_27 (Int32.toNatClampNeg 2) (nI (j_7 - 1))) := hi_33_0.updc (K := 2) (by omega) (tz_bd_nI (show tz_b 2 = (0, 8) from by decide) (by omega) (by omega) (by omega)) (by omega) (fun i hi => by omega)
        have hk_41 : (upd f_27 (Int32.toNatClampNeg 2) (nI (j_7 - 1))) 2 = nI (j_7 - 1) := tz_upd_eq (K := 2) (by omega)
        generalize (upd f_27 (Int32.toNatClampNeg 2) (nI (j_7 - 1))) = f_39 at hP hD hk_40 hk_41
        have hP : va_P (dC, dI) vwCl [(mr, .inl (cr_, 3, .inl fr_)), (mo, .inr (12, [.ref nw, .ref kp, .ref ik, .ref mr, .long la_, .long lb_, .ref mw, .long lc_, .int ti_, .int cb_, .long ld_, .long le_, .ref mq, .ref mz, .ref my, .int sm_, .ref mb, .int bl_, .int ta_, .int tl_, .int tk_, .int vl_, .ref mx, .ref mv])), (nw, .inl (cn_, 350, .inl f_39))] H := hP
        have hD : va_D A [(mr, .inl (cr_, 3, .inl fr_)), (mo, .inr (12, [.ref nw, .ref kp, .ref ik, .ref mr, .long la_, .long lb_, .ref mw, .long lc_, .int ti_, .int cb_, .long ld_, .long le_, .ref mq, .ref mz, .ref my, .int sm_, .ref mb, .int bl_, .int ta_, .int tl_, .int tk_, .int vl_, .ref mx, .ref mv])), (nw, .inl (cn_, 350, .inl f_39))] := hD
        refine lv_aload_n hx hb dX12_back_65 rfl (lv_at hl 1 rfl) ?_
        refine va_get (D := (dC, dI)) (ci := 12) (v := .ref nw) (C := RX12) (T := TX12) (N := 24) hx hb hts iw_m_back_X12 hown hK hP 1 rfl rfl 0 (by decide) (hts (.fieldLink RX12 7 "ThriceCountedModel" "now" "[I") (by decide +kernel)) (fun _ h9 => h9) rfl dX12_back_66 ?_
        refine lv_iconst (v := 2) hx hb dX12_back_69 (by decide) ?_
        refine va_iald hx hb hK hP 2 0 rfl rfl (show ¬ ((2 : Int32) < 0 ∨ 350 ≤ (2 : Int32).toNatClampNeg) by decide) dX12_back_70 ?_
        refine tz_i (nI (j_7 - 1)) hk_41 ?_
        have hP9 := hP.sub (ws' := [(mo, .inr (12, [.ref nw, .ref kp, .ref ik, .ref mr, .long la_, .long lb_, .ref mw, .long lc_, .int ti_, .int cb_, .long ld_, .long le_, .ref mq, .ref mz, .ref my, .int sm_, .ref mb, .int bl_, .int ta_, .int tl_, .int tk_, .int vl_, .ref mx, .ref mv])), (nw, .inl (cn_, 350, .inl f_39)), (mr, .inl (cr_, 3, .inl fr_))]) [1, 2, 0] rfl
        have hD9 := hD.sub (ws' := [(mo, .inr (12, [.ref nw, .ref kp, .ref ik, .ref mr, .long la_, .long lb_, .ref mw, .long lc_, .int ti_, .int cb_, .long ld_, .long le_, .ref mq, .ref mz, .ref my, .int sm_, .ref mb, .int bl_, .int ta_, .int tl_, .int tk_, .int vl_, .ref mx, .ref mv])), (nw, .inl (cn_, 350, .inl f_39)), (mr, .inl (cr_, 3, .inl fr_))]) [1, 2, 0] (by decide) rfl
        have hK9 := hK.sub (tys' := [(cn_, .int), (cr_, .int)]) [0, 1] rfl
        exact W.iret (v := (nI (j_7 - 1))) hx hb hr (fun t ht hW => ⟨⟨(nI (j_7 - 1)), (), rfl, trivial, f_39, fr_, hk_40, by rw [ht]; exact hP9, va_K.moved hW.alike hK9, hD9⟩, hS.F ht⟩) hS.2.2 dX12_back_71
      · have hn_42 : ¬ 28 ≤ k_17 := fun q => c_37 ((nI_leI (a := 28) (b := k_17) (by omega) (by omega)).mpr q)
        refine lv_aload_n hx hb dX12_back_29 rfl (lv_at hl 1 rfl) ?_
        refine va_get (D := (dC, dI)) (ci := 12) (v := .ref nw) (C := RX12) (T := TX12) (N := 24) hx hb hts iw_m_back_X12 hown hK hP 1 rfl rfl 0 (by decide) (hts (.fieldLink RX12 7 "ThriceCountedModel" "now" "[I") (by decide +kernel)) (fun _ h9 => h9) rfl dX12_back_30 ?_
        refine lv_bipush (v := 30) hx hb dX12_back_33 (by decide) ?_
        refine lv_iload_n hx hb dX12_back_35 rfl (lv_at hl 0 rfl) ?_
        refine lv_iadd hx hb dX12_back_36 ?_
        refine tz_i (nI (30 + k_17)) (nI_add 30 k_17) ?_
        refine lv_aload_n hx hb dX12_back_37 rfl (lv_at hl 1 rfl) ?_
        refine va_get (D := (dC, dI)) (ci := 12) (v := .ref nw) (C := RX12) (T := TX12) (N := 24) hx hb hts iw_m_back_X12 hown hK hP 1 rfl rfl 0 (by decide) (hts (.fieldLink RX12 7 "ThriceCountedModel" "now" "[I") (by decide +kernel)) (fun _ h9 => h9) rfl dX12_back_38 ?_
        refine lv_bipush (v := 30) hx hb dX12_back_41 (by decide) ?_
        refine lv_iload_n hx hb dX12_back_43 rfl (lv_at hl 0 rfl) ?_
        refine lv_iadd hx hb dX12_back_44 ?_
        refine tz_i (nI (30 + k_17)) (nI_add 30 k_17) ?_
        refine lv_iconst (v := 4) hx hb dX12_back_45 (by decide) ?_
        refine lv_iadd hx hb dX12_back_46 ?_
        refine tz_i (nI ((30 + k_17) + 4)) (nI_add (30 + k_17) 4) ?_
        refine va_iald hx hb hK hP 2 0 rfl rfl (vp_in_nI (n := ((30 + k_17) + 4)) (N := 350) (by omega) (by decide)) dX12_back_47 ?_
        refine lv_topi (fun x_43 ex_44 => ?_)
        have hb_45 : tz_bd ((30 + k_17) + 4) x_43 := tz_bd_ld hi_33_0 (by omega) ex_44 (by omega)
        refine va_iast hx hb hK hP hD hS 2 0 rfl rfl (vp_in_nI (n := (30 + k_17)) (N := 350) (by omega) (by decide)) dX12_back_48 (fun H locs hP hD hS => ?_)
        have hk_47 : tz_OK 350 (upd f_27 (Int32.toNatClampNeg (nI (30 + k_17))) x_43) := hi_33_0.updc (K := (30 + k_17)) (by omega) (tz_bd_cp (tz_b_bkK (k := k_17) (by omega) (by omega) (by omega)) hb_45) (by omega) (fun i hi => by omega)
        have hk_48 : (upd f_27 (Int32.toNatClampNeg (nI (30 + k_17))) x_43) 2 = nI j_7 := tz_upd_ne (K := (30 + k_17)) (by omega) (by omega) hi_34_1
        generalize (upd f_27 (Int32.toNatClampNeg (nI (30 + k_17))) x_43) = f_46 at hP hD hk_47 hk_48
        have hP : va_P (dC, dI) vwCl [(mr, .inl (cr_, 3, .inl fr_)), (mo, .inr (12, [.ref nw, .ref kp, .ref ik, .ref mr, .long la_, .long lb_, .ref mw, .long lc_, .int ti_, .int cb_, .long ld_, .long le_, .ref mq, .ref mz, .ref my, .int sm_, .ref mb, .int bl_, .int ta_, .int tl_, .int tk_, .int vl_, .ref mx, .ref mv])), (nw, .inl (cn_, 350, .inl f_46))] H := hP
        have hD : va_D A [(mr, .inl (cr_, 3, .inl fr_)), (mo, .inr (12, [.ref nw, .ref kp, .ref ik, .ref mr, .long la_, .long lb_, .ref mw, .long lc_, .int ti_, .int cb_, .long ld_, .long le_, .ref mq, .ref mz, .ref my, .int sm_, .ref mb, .int bl_, .int ta_, .int tl_, .int tk_, .int vl_, .ref mx, .ref mv])), (nw, .inl (cn_, 350, .inl f_46))] := hD
        refine lv_iinc (v := (nI (k_17 + 1))) (lv' := [(2, .int (nI (k_17 + 1))), (0, .ref mo), (1, .int (nI j_6))]) hx hb dX12_back_49 hl (k := 0) rfl (nI_add k_17 1) (by decide) rfl (fun ls hl => ?_)
        refine lv_goto (tgt := 23) hx hb dX12_back_52 (by decide) ?_
        exact ih_36 ((k_17 + 1), f_46, H, locs, ls) ⟨hk_47, hk_48, by dsimp only; omega, hP, hD, hS, lv_sub hl [0, 1, 2] rfl⟩ (by dsimp only; omega)
    · exact absurd c_11 (by decide)
  · obtain rfl : 0 = r_3 := (hw_4.trans (if_neg hc_5)).symm
    refine lv_if_ne (tgt := 15) hx hb dX12_back_5 (by decide) (fun c_49 => ?_) (fun c_49 => ?_)
    · exact absurd c_49 (by decide)
    · refine lv_aload_n hx hb dX12_back_8 rfl (lv_at hl 0 rfl) ?_
      refine lv_bipush (v := (-2)) hx hb dX12_back_9 (by decide) ?_
      have hPc := hP.sub (ws' := [(mo, .inr (12, [.ref nw, .ref kp, .ref ik, .ref mr, .long la_, .long lb_, .ref mw, .long lc_, .int ti_, .int cb_, .long ld_, .long le_, .ref mq, .ref mz, .ref my, .int sm_, .ref mb, .int bl_, .int ta_, .int tl_, .int tk_, .int vl_, .ref mx, .ref mv])), (mr, .inl (cr_, 3, .inl fr_))]) [0, 2] rfl
      have hDc := hD.sub (ws' := [(mo, .inr (12, [.ref nw, .ref kp, .ref ik, .ref mr, .long la_, .long lb_, .ref mw, .long lc_, .int ti_, .int cb_, .long ld_, .long le_, .ref mq, .ref mz, .ref my, .int sm_, .ref mb, .int bl_, .int ta_, .int tl_, .int tk_, .int vl_, .ref mx, .ref mv])), (mr, .inl (cr_, 3, .inl fr_))]) [0, 2] (by decide) rfl
      have hKc := hK.sub (tys' := [(cr_, .int)]) [1] rfl
      have hFc := va_free (wc := [(mo, .inr (12, [.ref nw, .ref kp, .ref ik, .ref mr, .long la_, .long lb_, .ref mw, .long lc_, .int ti_, .int cb_, .long ld_, .long le_, .ref mq, .ref mz, .ref my, .int sm_, .ref mb, .int bl_, .int ta_, .int tl_, .int tk_, .int vl_, .ref mx, .ref mv])), (mr, .inl (cr_, 3, .inl fr_))]) hD hS hA [0, 2] rfl
      refine va_calli (va_runV (As := [.int (-2)]) (rest := []) ⟨hx, hb, hml, hown, hts⟩ (m_bad l dC dI mo nw kp ik mr la_ lb_ mw lc_ ti_ cb_ ld_ le_ mq mz my sm_ mb bl_ ta_ tl_ tk_ vl_ mx mv cr_ fr_ (-2) s.heap.size) (cwV 1 hts gX12_back_X12_bad rfl rfl rfl (by decide +kernel) ⟨Nat.le_of_ble_eq_true rfl, Nat.le_of_ble_eq_true rfl⟩) ⟨fun a U g mk q => by obtain ⟨q0, q1, qP, qK, qD⟩ := q; exact ⟨q0, q1, qP, va_K.moved (u := U) (U := U.calling g mk a) (Vm.Alike.refl U.vm) qK, qD⟩, va_recv hK hP (ci := 12) (q0 := 0) rfl rfl, fun U hU hW => ⟨rfl, by rw [hU], by rw [hU]; exact hPc, va_K.moved hW.alike hKc, hDc.weaken (fun _ _ _ _ => trivial)⟩⟩ rfl rfl hl.1 rfl (lv_room (Nat.le_of_ble_eq_true rfl)) dX12_back_11 ⟨Nat.le_of_ble_eq_true rfl, Nat.le_of_ble_eq_true rfl⟩) hS (fun q _ h => hFc q h) hFc (fun r_50 u_ t H1 locs ht hvm hw_51 hB hz1 hk1 hS => ?_)
      obtain ⟨gr__52, hP1, hK1, hD1⟩ := hB
      rw [ht] at hP1
      have hK1 := va_K.moved hvm.symm hK1
      obtain ⟨hP, hD⟩ := va_join (wr := [(nw, .inl (cn_, 350, .inl fn))]) (w1 := [(mo, .inr (12, [.ref nw, .ref kp, .ref ik, .ref mr, .long la_, .long lb_, .ref mw, .long lc_, .int ti_, .int cb_, .long ld_, .long le_, .ref mq, .ref mz, .ref my, .int sm_, .ref mb, .int bl_, .int ta_, .int tl_, .int tk_, .int vl_, .ref mx, .ref mv])), (mr, .inl (cr_, 3, .inl gr__52))]) hP hD [0, 2] [1] rfl rfl (by decide) (by decide) hk1 hFc hP1 hD1
      generalize H1 = H at hP hS ⊢
      have hP : va_P (dC, dI) vwCl [(nw, .inl (cn_, 350, .inl fn)), (mo, .inr (12, [.ref nw, .ref kp, .ref ik, .ref mr, .long la_, .long lb_, .ref mw, .long lc_, .int ti_, .int cb_, .long ld_, .long le_, .ref mq, .ref mz, .ref my, .int sm_, .ref mb, .int bl_, .int ta_, .int tl_, .int tk_, .int vl_, .ref mx, .ref mv])), (mr, .inl (cr_, 3, .inl gr__52))] H := hP
      have hD : va_D A [(nw, .inl (cn_, 350, .inl fn)), (mo, .inr (12, [.ref nw, .ref kp, .ref ik, .ref mr, .long la_, .long lb_, .ref mw, .long lc_, .int ti_, .int cb_, .long ld_, .long le_, .ref mq, .ref mz, .ref my, .int sm_, .ref mb, .int bl_, .int ta_, .int tl_, .int tk_, .int vl_, .ref mx, .ref mv])), (mr, .inl (cr_, 3, .inl gr__52))] := hD
      obtain rfl : (-2) = r_50 := hw_51.symm
      have hP9 := hP.sub (ws' := [(mo, .inr (12, [.ref nw, .ref kp, .ref ik, .ref mr, .long la_, .long lb_, .ref mw, .long lc_, .int ti_, .int cb_, .long ld_, .long le_, .ref mq, .ref mz, .ref my, .int sm_, .ref mb, .int bl_, .int ta_, .int tl_, .int tk_, .int vl_, .ref mx, .ref mv])), (nw, .inl (cn_, 350, .inl fn)), (mr, .inl (cr_, 3, .inl gr__52))]) [1, 0, 2] rfl
      have hD9 := hD.sub (ws' := [(mo, .inr (12, [.ref nw, .ref kp, .ref ik, .ref mr, .long la_, .long lb_, .ref mw, .long lc_, .int ti_, .int cb_, .long ld_, .long le_, .ref mq, .ref mz, .ref my, .int sm_, .ref mb, .int bl_, .int ta_, .int tl_, .int tk_, .int vl_, .ref mx, .ref mv])), (nw, .inl (cn_, 350, .inl fn)), (mr, .inl (cr_, 3, .inl gr__52))]) [1, 0, 2] (by decide) rfl
      have hK9 := hK.sub (tys' := [(cn_, .int), (cr_, .int)]) [0, 1] rfl
      exact W.iret (v := (-2)) hx hb hr (fun t ht hW => ⟨⟨(-2), (), rfl, trivial, fn, gr__52, hOn, by rw [ht]; exact hP9, va_K.moved hW.alike hK9, hD9⟩, hS.F ht⟩) hS.2.2 dX12_back_14
set_option maxRecDepth 20000 in
theorem ggX12_undo_X12_no : GoodIn wsX12_undo wsX12_no := goodIn_r _ [6, 7, 8, 9, 10, 11, 12, 13, 14, 15, 16, 17, 18, 19, 20, 21, 22, 23, 24, 25, 26, 27, 28, 29, 30, 31] (by decide +kernel) (by decide +kernel)
set_option maxRecDepth 20000 in
theorem gX12_undo_X12_no : GoodIn wsX12_undo (wsV RX12 113 RX12 yX12_no wsX12_no) := goodIn_app (goodIn_of _ (by decide +kernel)) ggX12_undo_X12_no
theorem dX12_undo_0 : decode cX12_undo 0 = .ok (.aload_n 0, 1) := by decide +kernel
theorem dX12_undo_1 : decode cX12_undo 1 = .ok (.getfield 7, 3) := by decide +kernel
theorem dX12_undo_4 : decode cX12_undo 4 = .ok (.iconst 4, 1) := by decide +kernel
theorem dX12_undo_5 : decode cX12_undo 5 = .ok (.iaload, 1) := by decide +kernel
theorem dX12_undo_6 : decode cX12_undo 6 = .ok (.ifCond .ne 8, 3) := by decide +kernel
theorem dX12_undo_14 : decode cX12_undo 14 = .ok (.aload_n 0, 1) := by decide +kernel
theorem dX12_undo_15 : decode cX12_undo 15 = .ok (.getfield 7, 3) := by decide +kernel
theorem dX12_undo_18 : decode cX12_undo 18 = .ok (.iconst 4, 1) := by decide +kernel
theorem dX12_undo_19 : decode cX12_undo 19 = .ok (.dup2, 1) := by decide +kernel
theorem dX12_undo_20 : decode cX12_undo 20 = .ok (.iaload, 1) := by decide +kernel
theorem dX12_undo_21 : decode cX12_undo 21 = .ok (.iconst 1, 1) := by decide +kernel
theorem dX12_undo_22 : decode cX12_undo 22 = .ok (.isub, 1) := by decide +kernel
theorem dX12_undo_23 : decode cX12_undo 23 = .ok (.iastore, 1) := by decide +kernel
theorem dX12_undo_24 : decode cX12_undo 24 = .ok (.bipush 86, 2) := by decide +kernel
theorem dX12_undo_26 : decode cX12_undo 26 = .ok (.bipush 33, 2) := by decide +kernel
theorem dX12_undo_28 : decode cX12_undo 28 = .ok (.aload_n 0, 1) := by decide +kernel
theorem dX12_undo_29 : decode cX12_undo 29 = .ok (.getfield 7, 3) := by decide +kernel
theorem dX12_undo_32 : decode cX12_undo 32 = .ok (.iconst 4, 1) := by decide +kernel
theorem dX12_undo_33 : decode cX12_undo 33 = .ok (.iaload, 1) := by decide +kernel
theorem dX12_undo_34 : decode cX12_undo 34 = .ok (.imul, 1) := by decide +kernel
theorem dX12_undo_35 : decode cX12_undo 35 = .ok (.iadd, 1) := by decide +kernel
theorem dX12_undo_36 : decode cX12_undo 36 = .ok (.istore_n 1, 1) := by decide +kernel
theorem dX12_undo_37 : decode cX12_undo 37 = .ok (.iconst 0, 1) := by decide +kernel
theorem dX12_undo_38 : decode cX12_undo 38 = .ok (.istore_n 2, 1) := by decide +kernel
theorem dX12_undo_39 : decode cX12_undo 39 = .ok (.iload_n 2, 1) := by decide +kernel
theorem dX12_undo_40 : decode cX12_undo 40 = .ok (.bipush 32, 2) := by decide +kernel
theorem dX12_undo_42 : decode cX12_undo 42 = .ok (.if_icmp .ge 26, 3) := by decide +kernel
theorem dX12_undo_45 : decode cX12_undo 45 = .ok (.aload_n 0, 1) := by decide +kernel
theorem dX12_undo_46 : decode cX12_undo 46 = .ok (.getfield 7, 3) := by decide +kernel
theorem dX12_undo_49 : decode cX12_undo 49 = .ok (.bipush 30, 2) := by decide +kernel
theorem dX12_undo_51 : decode cX12_undo 51 = .ok (.iload_n 2, 1) := by decide +kernel
theorem dX12_undo_52 : decode cX12_undo 52 = .ok (.iadd, 1) := by decide +kernel
theorem dX12_undo_53 : decode cX12_undo 53 = .ok (.aload_n 0, 1) := by decide +kernel
theorem dX12_undo_54 : decode cX12_undo 54 = .ok (.getfield 7, 3) := by decide +kernel
theorem dX12_undo_57 : decode cX12_undo 57 = .ok (.iload_n 1, 1) := by decide +kernel
theorem dX12_undo_58 : decode cX12_undo 58 = .ok (.iload_n 2, 1) := by decide +kernel
theorem dX12_undo_59 : decode cX12_undo 59 = .ok (.iadd, 1) := by decide +kernel
theorem dX12_undo_60 : decode cX12_undo 60 = .ok (.iaload, 1) := by decide +kernel
theorem dX12_undo_61 : decode cX12_undo 61 = .ok (.iastore, 1) := by decide +kernel
theorem dX12_undo_62 : decode cX12_undo 62 = .ok (.iinc 2 1, 3) := by decide +kernel
theorem dX12_undo_65 : decode cX12_undo 65 = .ok (.goto (-26), 3) := by decide +kernel
theorem dX12_undo_68 : decode cX12_undo 68 = .ok (.aload_n 0, 1) := by decide +kernel
theorem dX12_undo_69 : decode cX12_undo 69 = .ok (.getfield 7, 3) := by decide +kernel
theorem dX12_undo_72 : decode cX12_undo 72 = .ok (.iconst 2, 1) := by decide +kernel
theorem dX12_undo_73 : decode cX12_undo 73 = .ok (.aload_n 0, 1) := by decide +kernel
theorem dX12_undo_74 : decode cX12_undo 74 = .ok (.getfield 7, 3) := by decide +kernel
theorem dX12_undo_77 : decode cX12_undo 77 = .ok (.iload_n 1, 1) := by decide +kernel
theorem dX12_undo_78 : decode cX12_undo 78 = .ok (.bipush 32, 2) := by decide +kernel
theorem dX12_undo_80 : decode cX12_undo 80 = .ok (.iadd, 1) := by decide +kernel
theorem dX12_undo_81 : decode cX12_undo 81 = .ok (.iaload, 1) := by decide +kernel
theorem dX12_undo_82 : decode cX12_undo 82 = .ok (.iastore, 1) := by decide +kernel
theorem dX12_undo_83 : decode cX12_undo 83 = .ok (.aload_n 0, 1) := by decide +kernel
theorem dX12_undo_84 : decode cX12_undo 84 = .ok (.getfield 7, 3) := by decide +kernel
theorem dX12_undo_87 : decode cX12_undo 87 = .ok (.iconst 2, 1) := by decide +kernel
theorem dX12_undo_88 : decode cX12_undo 88 = .ok (.iaload, 1) := by decide +kernel
theorem dX12_undo_89 : decode cX12_undo 89 = .ok (.ireturn, 1) := by decide +kernel
theorem dX12_undo_9 : decode cX12_undo 9 = .ok (.aload_n 0, 1) := by decide +kernel
theorem dX12_undo_10 : decode cX12_undo 10 = .ok (.invokevirtual 113, 3) := by decide +kernel
theorem dX12_undo_13 : decode cX12_undo 13 = .ok (.ireturn, 1) := by decide +kernel
set_option maxRecDepth 20000 in
theorem iw_m_undo_X12 : ∀ w ∈ wsX120, w ∈ wsX12_undo := by decide +kernel
set_option maxHeartbeats 4000000 in
set_option maxRecDepth 100000 in
theorem m_undo (l : Launch) (dC : Nat → ClassId) (dI : Nat → Nat → Nat) (mo : Nat) (nw : Nat) (kp : Nat) (ik : Nat) (mr : Nat) (la_ : Int64) (lb_ : Int64) (mw : Nat) (lc_ : Int64) (ti_ : Int32) (cb_ : Int32) (ld_ : Int64) (le_ : Int64) (mq : Nat) (mz : Nat) (my : Nat) (sm_ : Int32) (mb : Nat) (bl_ : Int32) (ta_ : Int32) (tl_ : Int32) (tk_ : Int32) (vl_ : Int32) (mx : Nat) (mv : Nat) (cn_ : ClassId) (fn : Nat → Int32) (cr_ : ClassId) (fr_ : Nat → Int32) (sz : Nat) (hOn : tz_OK 350 fn) : Met l yX12_undo wsX12_undo ({ frames := 1, cells := 0, slots := 0, locals := 20 }) (va_Pc [.ref mo] (fun U => U.heap.size = sz ∧ va_P (dC, dI) vwCl [(mo, .inr (12, [.ref nw, .ref kp, .ref ik, .ref mr, .long la_, .long lb_, .ref mw, .long lc_, .int ti_, .int cb_, .long ld_, .long le_, .ref mq, .ref mz, .ref my, .int sm_, .ref mb, .int bl_, .int ta_, .int tl_, .int tk_, .int vl_, .ref mx, .ref mv])), (nw, .inl (cn_, 350, .inl fn)), (mr, .inl (cr_, 3, .inl fr_))] U.heap ∧ va_K (dC, dI) vwCl [(cn_, .int), (cr_, .int)] U ∧ va_D (fun _ => True) [(mo, .inr (12, [.ref nw, .ref kp, .ref ik, .ref mr, .long la_, .long lb_, .ref mw, .long lc_, .int ti_, .int cb_, .long ld_, .long le_, .ref mq, .ref mz, .ref my, .int sm_, .ref mb, .int bl_, .int ta_, .int tl_, .int tk_, .int vl_, .ref mx, .ref mv])), (nw, .inl (cn_, 350, .inl fn)), (mr, .inl (cr_, 3, .inl fr_))])) (va_Qi (fun (r : Int32) (_ : Unit) => True) (fun _ t => ∃ (gn : Nat → Int32) (gr_ : Nat → Int32), (tz_OK 350 gn) ∧ va_P (dC, dI) vwCl [(mo, .inr (12, [.ref nw, .ref kp, .ref ik, .ref mr, .long la_, .long lb_, .ref mw, .long lc_, .int ti_, .int cb_, .long ld_, .long le_, .ref mq, .ref mz, .ref my, .int sm_, .ref mb, .int bl_, .int ta_, .int tl_, .int tk_, .int vl_, .ref mx, .ref mv])), (nw, .inl (cn_, 350, .inl gn)), (mr, .inl (cr_, 3, .inl gr_))] t.heap ∧ va_K (dC, dI) vwCl [(cn_, .int), (cr_, .int)] t ∧ va_D (va_A [(mo, .inr (12, [.ref nw, .ref kp, .ref ik, .ref mr, .long la_, .long lb_, .ref mw, .long lc_, .int ti_, .int cb_, .long ld_, .long le_, .ref mq, .ref mz, .ref my, .int sm_, .ref mb, .int bl_, .int ta_, .int tl_, .int tk_, .int vl_, .ref mx, .ref mv])), (nw, .inl (cn_, 350, .inl fn)), (mr, .inl (cr_, 3, .inl fr_))] sz) [(mo, .inr (12, [.ref nw, .ref kp, .ref ik, .ref mr, .long la_, .long lb_, .ref mw, .long lc_, .int ti_, .int cb_, .long ld_, .long le_, .ref mq, .ref mz, .ref my, .int sm_, .ref mb, .int bl_, .int ta_, .int tl_, .int tk_, .int vl_, .ref mx, .ref mv])), (nw, .inl (cn_, 350, .inl gn)), (mr, .inl (cr_, 3, .inl gr_))]) (va_A [(mo, .inr (12, [.ref nw, .ref kp, .ref ik, .ref mr, .long la_, .long lb_, .ref mw, .long lc_, .int ti_, .int cb_, .long ld_, .long le_, .ref mq, .ref mz, .ref my, .int sm_, .ref mb, .int bl_, .int ta_, .int tl_, .int tk_, .int vl_, .ref mx, .ref mv])), (nw, .inl (cn_, 350, .inl fn)), (mr, .inl (cr_, 3, .inl fr_))] sz)) 0 0 (va_A [(mo, .inr (12, [.ref nw, .ref kp, .ref ik, .ref mr, .long la_, .long lb_, .ref mw, .long lc_, .int ti_, .int cb_, .long ld_, .long le_, .ref mq, .ref mz, .ref my, .int sm_, .ref mb, .int bl_, .int ta_, .int tl_, .int tk_, .int vl_, .ref mx, .ref mv])), (nw, .inl (cn_, 350, .inl fn)), (mr, .inl (cr_, 3, .inl fr_))] sz) := by
  refine Met.ofW (cc := cX12_undo) (maxL := 3) (ret := (some .int)) (by decide) rfl ?_
  intro p e s m args below meth c s₁ B hml hv
  obtain ⟨rfl, hsz, hP, hK, hD0⟩ := hv
  have hx := B.exec
  have hb := B.bytes
  have hr := B.returns
  have hts := atoms_spec (ws := wsX12_undo) B.pre
  have hown : s.vm.findClass RX12 = some m.cls := findClass_of_methodNamed B.named
  have hlocks := B.notSynchronized
  subst hsz
  have hD := hD0.self (sz := s.heap.size)
  generalize hAe : va_A [(mo, .inr (12, [.ref nw, .ref kp, .ref ik, .ref mr, .long la_, .long lb_, .ref mw, .long lc_, .int ti_, .int cb_, .long ld_, .long le_, .ref mq, .ref mz, .ref my, .int sm_, .ref mb, .int bl_, .int ta_, .int tl_, .int tk_, .int vl_, .ref mx, .ref mv])), (nw, .inl (cn_, 350, .inl fn)), (mr, .inl (cr_, 3, .inl fr_))] s.heap.size = A at hD ⊢
  have hA : ∀ q : Nat, s.heap.size ≤ q → A q := fun q h => by rw [← hAe]; exact Or.inr h
  have hS : va_S A s.heap s.heap [] := va_S.rf
  have hP : va_P (dC, dI) vwCl [(mo, .inr (12, [.ref nw, .ref kp, .ref ik, .ref mr, .long la_, .long lb_, .ref mw, .long lc_, .int ti_, .int cb_, .long ld_, .long le_, .ref mq, .ref mz, .ref my, .int sm_, .ref mb, .int bl_, .int ta_, .int tl_, .int tk_, .int vl_, .ref mx, .ref mv])), (nw, .inl (cn_, 350, .inl fn)), (mr, .inl (cr_, 3, .inl fr_))] s.heap := hP
  have hl := lv_entry ([.ref mo]) (n := 3) (Nat.le_of_ble_eq_true rfl)
  rw [lg_entry_eq]
  generalize (lg_sl ([.ref mo]) ++ List.replicate (3 - (lg_sl ([.ref mo])).length) Slot.unset).toArray = ls at hl ⊢
  have hl : lv_has ls 3 [(0, .ref mo)] := hl
  refine lv_aload_n hx hb dX12_undo_0 rfl (lv_at hl 0 rfl) ?_
  refine va_get (D := (dC, dI)) (ci := 12) (v := .ref nw) (C := RX12) (T := TX12) (N := 24) hx hb hts iw_m_undo_X12 hown hK hP 0 rfl rfl 0 (by decide) (hts (.fieldLink RX12 7 "ThriceCountedModel" "now" "[I") (by decide +kernel)) (fun _ h9 => h9) rfl dX12_undo_1 ?_
  refine lv_iconst (v := 4) hx hb dX12_undo_4 (by decide) ?_
  refine va_iald hx hb hK hP 1 0 rfl rfl (show ¬ ((4 : Int32) < 0 ∨ 350 ≤ (4 : Int32).toNatClampNeg) by decide) dX12_undo_5 ?_
  obtain ⟨j_1, hj_2, ej_3⟩ := hOn.nat (K := 4) (n := 8) (by omega) (show tz_b 4 = (0, 8) from by decide)
  refine tz_i (nI j_1) ej_3 ?_
  refine lv_if_ne (tgt := 14) hx hb dX12_undo_6 (by decide) (fun c_4 => ?_) (fun c_4 => ?_)
  · have hn_5 : ¬ j_1 = 0 := fun q => c_4 ((nI_eq (a := j_1) (b := 0) (by omega) (by omega)).mpr q)
    refine lv_aload_n hx hb dX12_undo_14 rfl (lv_at hl 0 rfl) ?_
    refine va_get (D := (dC, dI)) (ci := 12) (v := .ref nw) (C := RX12) (T := TX12) (N := 24) hx hb hts iw_m_undo_X12 hown hK hP 0 rfl rfl 0 (by decide) (hts (.fieldLink RX12 7 "ThriceCountedModel" "now" "[I") (by decide +kernel)) (fun _ h9 => h9) rfl dX12_undo_15 ?_
    refine lv_iconst (v := 4) hx hb dX12_undo_18 (by decide) ?_
    refine lv_dup2_11 hx hb dX12_undo_19 rfl rfl ?_
    refine va_iald hx hb hK hP 1 0 rfl rfl (show ¬ ((4 : Int32) < 0 ∨ 350 ≤ (4 : Int32).toNatClampNeg) by decide) dX12_undo_20 ?_
    refine tz_i (nI j_1) ej_3 ?_
    refine lv_iconst (v := 1) hx hb dX12_undo_21 (by decide) ?_
    refine lv_isub hx hb dX12_undo_22 ?_
    refine tz_i (nI (j_1 - 1)) (pk_sub (a := j_1) (b := 1) (by omega)) ?_
    refine va_iast hx hb hK hP hD hS 1 0 rfl rfl (show ¬ ((4 : Int32) < 0 ∨ 350 ≤ (4 : Int32).toNatClampNeg) by decide) dX12_undo_23 (fun H locs hP hD hS => ?_)
    have hk_7 : tz_OK 350 (upd fn (Int32.toNatClampNeg 4) (nI (j_1 - 1))) := hOn.updc (K := 4) (by omega) (tz_bd_nI (show tz_b 4 = (0, 8) from by decide) (by omega) (by omega) (by omega)) (by omega) (fun i hi => by omega)
    have hk_8 : (upd fn (Int32.toNatClampNeg 4) (nI (j_1 - 1))) 4 = nI (j_1 - 1) := tz_upd_eq (K := 4) (by omega)
    generalize (upd fn (Int32.toNatClampNeg 4) (nI (j_1 - 1))) = f_6 at hP hD hk_7 hk_8
    have hP : va_P (dC, dI) vwCl [(mo, .inr (12, [.ref nw, .ref kp, .ref ik, .ref mr, .long la_, .long lb_, .ref mw, .long lc_, .int ti_, .int cb_, .long ld_, .long le_, .ref mq, .ref mz, .ref my, .int sm_, .ref mb, .int bl_, .int ta_, .int tl_, .int tk_, .int vl_, .ref mx, .ref mv])), (nw, .inl (cn_, 350, .inl f_6)), (mr, .inl (cr_, 3, .inl fr_))] H := hP
    have hD : va_D A [(mo, .inr (12, [.ref nw, .ref kp, .ref ik, .ref mr, .long la_, .long lb_, .ref mw, .long lc_, .int ti_, .int cb_, .long ld_, .long le_, .ref mq, .ref mz, .ref my, .int sm_, .ref mb, .int bl_, .int ta_, .int tl_, .int tk_, .int vl_, .ref mx, .ref mv])), (nw, .inl (cn_, 350, .inl f_6)), (mr, .inl (cr_, 3, .inl fr_))] := hD
    refine lv_bipush (v := 86) hx hb dX12_undo_24 (by decide) ?_
    refine lv_bipush (v := 33) hx hb dX12_undo_26 (by decide) ?_
    refine lv_aload_n hx hb dX12_undo_28 rfl (lv_at hl 0 rfl) ?_
    refine va_get (D := (dC, dI)) (ci := 12) (v := .ref nw) (C := RX12) (T := TX12) (N := 24) hx hb hts iw_m_undo_X12 hown hK hP 0 rfl rfl 0 (by decide) (hts (.fieldLink RX12 7 "ThriceCountedModel" "now" "[I") (by decide +kernel)) (fun _ h9 => h9) rfl dX12_undo_29 ?_
    refine lv_iconst (v := 4) hx hb dX12_undo_32 (by decide) ?_
    refine va_iald hx hb hK hP 1 0 rfl rfl (show ¬ ((4 : Int32) < 0 ∨ 350 ≤ (4 : Int32).toNatClampNeg) by decide) dX12_undo_33 ?_
    refine tz_i (nI (j_1 - 1)) hk_8 ?_
    refine lv_imul hx hb dX12_undo_34 ?_
    refine tz_i (nI (33 * (j_1 - 1))) (pk_mul 33 (j_1 - 1)) ?_
    refine lv_iadd hx hb dX12_undo_35 ?_
    refine tz_i (nI (86 + (33 * (j_1 - 1)))) (nI_add 86 (33 * (j_1 - 1))) ?_
    refine lv_istore_n (lv' := [(1, .int (nI (86 + (33 * (j_1 - 1))))), (0, .ref mo)]) hx hb dX12_undo_36 rfl hl (by decide) rfl (fun ls hl => ?_)
    refine lv_iconst (v := 0) hx hb dX12_undo_37 (by decide) ?_
    refine lv_istore_n (lv' := [(2, .int 0), (1, .int (nI (86 + (33 * (j_1 - 1))))), (0, .ref mo)]) hx hb dX12_undo_38 rfl hl (by decide) rfl (fun ls hl => ?_)
    refine tz_while (σ := Nat × (Nat → Int32) × Heap × List Loc × Array Slot) (fun x => W p l e _ s m _ below meth c x.2.2.1 x.2.2.2.1 _ _ _ (F0 m 39 x.2.2.2.2 [])) (fun x => tz_OK 350 x.2.1 ∧ x.1 ≤ 32 ∧ va_P (dC, dI) vwCl [(mo, .inr (12, [.ref nw, .ref kp, .ref ik, .ref mr, .long la_, .long lb_, .ref mw, .long lc_, .int ti_, .int cb_, .long ld_, .long le_, .ref mq, .ref mz, .ref my, .int sm_, .ref mb, .int bl_, .int ta_, .int tl_, .int tk_, .int vl_, .ref mx, .ref mv])), (nw, .inl (cn_, 350, .inl x.2.1)), (mr, .inl (cr_, 3, .inl fr_))] x.2.2.1 ∧ va_D A [(mo, .inr (12, [.ref nw, .ref kp, .ref ik, .ref mr, .long la_, .long lb_, .ref mw, .long lc_, .int ti_, .int cb_, .long ld_, .long le_, .ref mq, .ref mz, .ref my, .int sm_, .ref mb, .int bl_, .int ta_, .int tl_, .int tk_, .int vl_, .ref mx, .ref mv])), (nw, .inl (cn_, 350, .inl x.2.1)), (mr, .inl (cr_, 3, .inl fr_))] ∧ va_S A s.heap x.2.2.1 x.2.2.2.1 ∧ lv_has x.2.2.2.2 3 [(2, .int (nI x.1)), (1, .int (nI (86 + (33 * (j_1 - 1))))), (0, .ref mo)]) (fun x => 32 - x.1) ?_ (0, f_6, H, locs, ls) ⟨hk_7, by (try dsimp only); omega, hP, hD, hS, hl⟩
    rintro ⟨k_9, f_19, H, locs, ls⟩ ⟨hi_25_0, hi_26_1, hP, hD, hS, hl⟩ ih_27
    dsimp only at hi_25_0 hi_26_1 hP hD hS hl ih_27 ⊢
    refine lv_iload_n hx hb dX12_undo_39 rfl (lv_at hl 0 rfl) ?_
    refine lv_bipush (v := 32) hx hb dX12_undo_40 (by decide) ?_
    refine lv_icmp_ge (tgt := 68) hx hb dX12_undo_42 (by decide) (fun c_28 => ?_) (fun c_28 => ?_)
    · have hn_29 : 32 ≤ k_9 := (nI_leI (a := 32) (b := k_9) (by omega) (by omega)).mp c_28
      refine lv_aload_n hx hb dX12_undo_68 rfl (lv_at hl 2 rfl) ?_
      refine va_get (D := (dC, dI)) (ci := 12) (v := .ref nw) (C := RX12) (T := TX12) (N := 24) hx hb hts iw_m_undo_X12 hown hK hP 0 rfl rfl 0 (by decide) (hts (.fieldLink RX12 7 "ThriceCountedModel" "now" "[I") (by decide +kernel)) (fun _ h9 => h9) rfl dX12_undo_69 ?_
      refine lv_iconst (v := 2) hx hb dX12_undo_72 (by decide) ?_
      refine lv_aload_n hx hb dX12_undo_73 rfl (lv_at hl 2 rfl) ?_
      refine va_get (D := (dC, dI)) (ci := 12) (v := .ref nw) (C := RX12) (T := TX12) (N := 24) hx hb hts iw_m_undo_X12 hown hK hP 0 rfl rfl 0 (by decide) (hts (.fieldLink RX12 7 "ThriceCountedModel" "now" "[I") (by decide +kernel)) (fun _ h9 => h9) rfl dX12_undo_74 ?_
      refine lv_iload_n hx hb dX12_undo_77 rfl (lv_at hl 1 rfl) ?_
      refine lv_bipush (v := 32) hx hb dX12_undo_78 (by decide) ?_
      refine lv_iadd hx hb dX12_undo_80 ?_
      refine tz_i (nI ((86 + (33 * (j_1 - 1))) + 32)) (nI_add (86 + (33 * (j_1 - 1))) 32) ?_
      refine va_iald hx hb hK hP 1 0 rfl rfl (vp_in_nI (n := ((86 + (33 * (j_1 - 1))) + 32)) (N := 350) (by omega) (by decide)) dX12_undo_81 ?_
      obtain ⟨j_30, hj_31, ej_32⟩ := hi_25_0.natc (K := ((86 + (33 * (j_1 - 1))) + 32)) (n := 8) (by omega) (by omega) (tz_b_kcK (u := (j_1 - 1)) (by omega) (by omega))
      refine tz_i (nI j_30) ej_32 ?_
      refine va_iast hx hb hK hP hD hS 1 0 rfl rfl (show ¬ ((2 : Int32) < 0 ∨ 350 ≤ (2 : Int32).toNatClampNeg) by decide) dX12_undo_82 (fun H locs hP hD hS => ?_)
      have hk_34 : tz_OK 350 (upd f_19 (Int32.toNatClampNeg 2) (nI j_30)) := hi_25_0.updc (K := 2) (by omega) (tz_bd_nI (show tz_b 2 = (0, 8) from by decide) (by omega) (by omega) (by omega)) (by omega) (fun i hi => by omega)
      have hk_35 : (upd f_19 (Int32.toNatClampNeg 2) (nI j_30)) 2 = nI j_30 := tz_upd_eq (K := 2) (by omega)
      generalize (upd f_19 (Int32.toNatClampNeg 2) (nI j_30)) = f_33 at hP hD hk_34 hk_35
      have hP : va_P (dC, dI) vwCl [(mo, .inr (12, [.ref nw, .ref kp, .ref ik, .ref mr, .long la_, .long lb_, .ref mw, .long lc_, .int ti_, .int cb_, .long ld_, .long le_, .ref mq, .ref mz, .ref my, .int sm_, .ref mb, .int bl_, .int ta_, .int tl_, .int tk_, .int vl_, .ref mx, .ref mv])), (nw, .inl (cn_, 350, .inl f_33)), (mr, .inl (cr_, 3, .inl fr_))] H := hP
      have hD : va_D A [(mo, .inr (12, [.ref nw, .ref kp, .ref ik, .ref mr, .long la_, .long lb_, .ref mw, .long lc_, .int ti_, .int cb_, .long ld_, .long le_, .ref mq, .ref mz, .ref my, .int sm_, .ref mb, .int bl_, .int ta_, .int tl_, .int tk_, .int vl_, .ref mx, .ref mv])), (nw, .inl (cn_, 350, .inl f_33)), (mr, .inl (cr_, 3, .inl fr_))] := hD
      refine lv_aload_n hx hb dX12_undo_83 rfl (lv_at hl 2 rfl) ?_
      refine va_get (D := (dC, dI)) (ci := 12) (v := .ref nw) (C := RX12) (T := TX12) (N := 24) hx hb hts iw_m_undo_X12 hown hK hP 0 rfl rfl 0 (by decide) (hts (.fieldLink RX12 7 "ThriceCountedModel" "now" "[I") (by decide +kernel)) (fun _ h9 => h9) rfl dX12_undo_84 ?_
      refine lv_iconst (v := 2) hx hb dX12_undo_87 (by decide) ?_
      refine va_iald hx hb hK hP 1 0 rfl rfl (show ¬ ((2 : Int32) < 0 ∨ 350 ≤ (2 : Int32).toNatClampNeg) by decide) dX12_undo_88 ?_
      refine tz_i (nI j_30) hk_35 ?_
      have hP9 := hP.sub (ws' := [(mo, .inr (12, [.ref nw, .ref kp, .ref ik, .ref mr, .long la_, .long lb_, .ref mw, .long lc_, .int ti_, .int cb_, .long ld_, .long le_, .ref mq, .ref mz, .ref my, .int sm_, .ref mb, .int bl_, .int ta_, .int tl_, .int tk_, .int vl_, .ref mx, .ref mv])), (nw, .inl (cn_, 350, .inl f_33)), (mr, .inl (cr_, 3, .inl fr_))]) [0, 1, 2] rfl
      have hD9 := hD.sub (ws' := [(mo, .inr (12, [.ref nw, .ref kp, .ref ik, .ref mr, .long la_, .long lb_, .ref mw, .long lc_, .int ti_, .int cb_, .long ld_, .long le_, .ref mq, .ref mz, .ref my, .int sm_, .ref mb, .int bl_, .int ta_, .int tl_, .int tk_, .int vl_, .ref mx, .ref mv])), (nw, .inl (cn_, 350, .inl f_33)), (mr, .inl (cr_, 3, .inl fr_))]) [0, 1, 2] (by decide) rfl
      have hK9 := hK.sub (tys' := [(cn_, .int), (cr_, .int)]) [0, 1] rfl
      exact W.iret (v := (nI j_30)) hx hb hr (fun t ht hW => ⟨⟨(nI j_30), (), rfl, trivial, f_33, fr_, hk_34, by rw [ht]; exact hP9, va_K.moved hW.alike hK9, hD9⟩, hS.F ht⟩) hS.2.2 dX12_undo_89
    · have hn_36 : ¬ 32 ≤ k_9 := fun q => c_28 ((nI_leI (a := 32) (b := k_9) (by omega) (by omega)).mpr q)
      refine lv_aload_n hx hb dX12_undo_45 rfl (lv_at hl 2 rfl) ?_
      refine va_get (D := (dC, dI)) (ci := 12) (v := .ref nw) (C := RX12) (T := TX12) (N := 24) hx hb hts iw_m_undo_X12 hown hK hP 0 rfl rfl 0 (by decide) (hts (.fieldLink RX12 7 "ThriceCountedModel" "now" "[I") (by decide +kernel)) (fun _ h9 => h9) rfl dX12_undo_46 ?_
      refine lv_bipush (v := 30) hx hb dX12_undo_49 (by decide) ?_
      refine lv_iload_n hx hb dX12_undo_51 rfl (lv_at hl 0 rfl) ?_
      refine lv_iadd hx hb dX12_undo_52 ?_
      refine tz_i (nI (30 + k_9)) (nI_add 30 k_9) ?_
      refine lv_aload_n hx hb dX12_undo_53 rfl (lv_at hl 2 rfl) ?_
      refine va_get (D := (dC, dI)) (ci := 12) (v := .ref nw) (C := RX12) (T := TX12) (N := 24) hx hb hts iw_m_undo_X12 hown hK hP 0 rfl rfl 0 (by decide) (hts (.fieldLink RX12 7 "ThriceCountedModel" "now" "[I") (by decide +kernel)) (fun _ h9 => h9) rfl dX12_undo_54 ?_
      refine lv_iload_n hx hb dX12_undo_57 rfl (lv_at hl 1 rfl) ?_
      refine lv_iload_n hx hb dX12_undo_58 rfl (lv_at hl 0 rfl) ?_
      refine lv_iadd hx hb dX12_undo_59 ?_
      refine tz_i (nI ((86 + (33 * (j_1 - 1))) + k_9)) (nI_add (86 + (33 * (j_1 - 1))) k_9) ?_
      refine va_iald hx hb hK hP 1 0 rfl rfl (vp_in_nI (n := ((86 + (33 * (j_1 - 1))) + k_9)) (N := 350) (by omega) (by decide)) dX12_undo_60 ?_
      refine lv_topi (fun x_37 ex_38 => ?_)
      have hb_39 : tz_bd ((86 + (33 * (j_1 - 1))) + k_9) x_37 := tz_bd_ld hi_25_0 (by omega) ex_38 (by omega)
      refine va_iast hx hb hK hP hD hS 1 0 rfl rfl (vp_in_nI (n := (30 + k_9)) (N := 350) (by omega) (by decide)) dX12_undo_61 (fun H locs hP hD hS => ?_)
      have hk_41 : tz_OK 350 (upd f_19 (Int32.toNatClampNeg (nI (30 + k_9))) x_37) := hi_25_0.updc (K := (30 + k_9)) (by omega) (tz_bd_cp (tz_b_kpK (u := (j_1 - 1)) (k := k_9) (by omega) (by omega) (by omega)).symm hb_39) (by omega) (fun i hi => by omega)
      generalize (upd f_19 (Int32.toNatClampNeg (nI (30 + k_9))) x_37) = f_40 at hP hD hk_41
      have hP : va_P (dC, dI) vwCl [(mo, .inr (12, [.ref nw, .ref kp, .ref ik, .ref mr, .long la_, .long lb_, .ref mw, .long lc_, .int ti_, .int cb_, .long ld_, .long le_, .ref mq, .ref mz, .ref my, .int sm_, .ref mb, .int bl_, .int ta_, .int tl_, .int tk_, .int vl_, .ref mx, .ref mv])), (nw, .inl (cn_, 350, .inl f_40)), (mr, .inl (cr_, 3, .inl fr_))] H := hP
      have hD : va_D A [(mo, .inr (12, [.ref nw, .ref kp, .ref ik, .ref mr, .long la_, .long lb_, .ref mw, .long lc_, .int ti_, .int cb_, .long ld_, .long le_, .ref mq, .ref mz, .ref my, .int sm_, .ref mb, .int bl_, .int ta_, .int tl_, .int tk_, .int vl_, .ref mx, .ref mv])), (nw, .inl (cn_, 350, .inl f_40)), (mr, .inl (cr_, 3, .inl fr_))] := hD
      refine lv_iinc (v := (nI (k_9 + 1))) (lv' := [(2, .int (nI (k_9 + 1))), (1, .int (nI (86 + (33 * (j_1 - 1))))), (0, .ref mo)]) hx hb dX12_undo_62 hl (k := 0) rfl (nI_add k_9 1) (by decide) rfl (fun ls hl => ?_)
      refine lv_goto (tgt := 39) hx hb dX12_undo_65 (by decide) ?_
      exact ih_27 ((k_9 + 1), f_40, H, locs, ls) ⟨hk_41, by dsimp only; omega, hP, hD, hS, lv_sub hl [0, 1, 2] rfl⟩ (by dsimp only; omega)
  · have hn_42 : j_1 = 0 := (nI_eq (a := j_1) (b := 0) (by omega) (by omega)).mp c_4
    refine lv_aload_n hx hb dX12_undo_9 rfl (lv_at hl 0 rfl) ?_
    have hPc := hP.sub (ws' := [(mo, .inr (12, [.ref nw, .ref kp, .ref ik, .ref mr, .long la_, .long lb_, .ref mw, .long lc_, .int ti_, .int cb_, .long ld_, .long le_, .ref mq, .ref mz, .ref my, .int sm_, .ref mb, .int bl_, .int ta_, .int tl_, .int tk_, .int vl_, .ref mx, .ref mv])), (mr, .inl (cr_, 3, .inl fr_))]) [0, 2] rfl
    have hDc := hD.sub (ws' := [(mo, .inr (12, [.ref nw, .ref kp, .ref ik, .ref mr, .long la_, .long lb_, .ref mw, .long lc_, .int ti_, .int cb_, .long ld_, .long le_, .ref mq, .ref mz, .ref my, .int sm_, .ref mb, .int bl_, .int ta_, .int tl_, .int tk_, .int vl_, .ref mx, .ref mv])), (mr, .inl (cr_, 3, .inl fr_))]) [0, 2] (by decide) rfl
    have hKc := hK.sub (tys' := [(cr_, .int)]) [1] rfl
    have hFc := va_free (wc := [(mo, .inr (12, [.ref nw, .ref kp, .ref ik, .ref mr, .long la_, .long lb_, .ref mw, .long lc_, .int ti_, .int cb_, .long ld_, .long le_, .ref mq, .ref mz, .ref my, .int sm_, .ref mb, .int bl_, .int ta_, .int tl_, .int tk_, .int vl_, .ref mx, .ref mv])), (mr, .inl (cr_, 3, .inl fr_))]) hD hS hA [0, 2] rfl
    refine va_calli (va_runV (As := []) (rest := []) ⟨hx, hb, hml, hown, hts⟩ (m_no l dC dI mo nw kp ik mr la_ lb_ mw lc_ ti_ cb_ ld_ le_ mq mz my sm_ mb bl_ ta_ tl_ tk_ vl_ mx mv cr_ fr_ s.heap.size) (cwV 0 hts gX12_undo_X12_no rfl rfl rfl (by decide +kernel) ⟨Nat.le_of_ble_eq_true rfl, Nat.le_of_ble_eq_true rfl⟩) ⟨fun a U g mk q => by obtain ⟨q0, q1, qP, qK, qD⟩ := q; exact ⟨q0, q1, qP, va_K.moved (u := U) (U := U.calling g mk a) (Vm.Alike.refl U.vm) qK, qD⟩, va_recv hK hP (ci := 12) (q0 := 0) rfl rfl, fun U hU hW => ⟨rfl, by rw [hU], by rw [hU]; exact hPc, va_K.moved hW.alike hKc, hDc.weaken (fun _ _ _ _ => trivial)⟩⟩ rfl rfl hl.1 rfl (lv_room (Nat.le_of_ble_eq_true rfl)) dX12_undo_10 ⟨Nat.le_of_ble_eq_true rfl, Nat.le_of_ble_eq_true rfl⟩) hS (fun q _ h => hFc q h) hFc (fun r_43 u_ t H1 locs ht hvm hw_44 hB hz1 hk1 hS => ?_)
    obtain ⟨gr__45, hP1, hK1, hD1⟩ := hB
    rw [ht] at hP1
    have hK1 := va_K.moved hvm.symm hK1
    obtain ⟨hP, hD⟩ := va_join (wr := [(nw, .inl (cn_, 350, .inl fn))]) (w1 := [(mo, .inr (12, [.ref nw, .ref kp, .ref ik, .ref mr, .long la_, .long lb_, .ref mw, .long lc_, .int ti_, .int cb_, .long ld_, .long le_, .ref mq, .ref mz, .ref my, .int sm_, .ref mb, .int bl_, .int ta_, .int tl_, .int tk_, .int vl_, .ref mx, .ref mv])), (mr, .inl (cr_, 3, .inl gr__45))]) hP hD [0, 2] [1] rfl rfl (by decide) (by decide) hk1 hFc hP1 hD1
    generalize H1 = H at hP hS ⊢
    have hP : va_P (dC, dI) vwCl [(nw, .inl (cn_, 350, .inl fn)), (mo, .inr (12, [.ref nw, .ref kp, .ref ik, .ref mr, .long la_, .long lb_, .ref mw, .long lc_, .int ti_, .int cb_, .long ld_, .long le_, .ref mq, .ref mz, .ref my, .int sm_, .ref mb, .int bl_, .int ta_, .int tl_, .int tk_, .int vl_, .ref mx, .ref mv])), (mr, .inl (cr_, 3, .inl gr__45))] H := hP
    have hD : va_D A [(nw, .inl (cn_, 350, .inl fn)), (mo, .inr (12, [.ref nw, .ref kp, .ref ik, .ref mr, .long la_, .long lb_, .ref mw, .long lc_, .int ti_, .int cb_, .long ld_, .long le_, .ref mq, .ref mz, .ref my, .int sm_, .ref mb, .int bl_, .int ta_, .int tl_, .int tk_, .int vl_, .ref mx, .ref mv])), (mr, .inl (cr_, 3, .inl gr__45))] := hD
    obtain rfl : (-3) = r_43 := hw_44.symm
    have hP9 := hP.sub (ws' := [(mo, .inr (12, [.ref nw, .ref kp, .ref ik, .ref mr, .long la_, .long lb_, .ref mw, .long lc_, .int ti_, .int cb_, .long ld_, .long le_, .ref mq, .ref mz, .ref my, .int sm_, .ref mb, .int bl_, .int ta_, .int tl_, .int tk_, .int vl_, .ref mx, .ref mv])), (nw, .inl (cn_, 350, .inl fn)), (mr, .inl (cr_, 3, .inl gr__45))]) [1, 0, 2] rfl
    have hD9 := hD.sub (ws' := [(mo, .inr (12, [.ref nw, .ref kp, .ref ik, .ref mr, .long la_, .long lb_, .ref mw, .long lc_, .int ti_, .int cb_, .long ld_, .long le_, .ref mq, .ref mz, .ref my, .int sm_, .ref mb, .int bl_, .int ta_, .int tl_, .int tk_, .int vl_, .ref mx, .ref mv])), (nw, .inl (cn_, 350, .inl fn)), (mr, .inl (cr_, 3, .inl gr__45))]) [1, 0, 2] (by decide) rfl
    have hK9 := hK.sub (tys' := [(cn_, .int), (cr_, .int)]) [0, 1] rfl
    exact W.iret (v := (-3)) hx hb hr (fun t ht hW => ⟨⟨(-3), (), rfl, trivial, fn, gr__45, hOn, by rw [ht]; exact hP9, va_K.moved hW.alike hK9, hD9⟩, hS.F ht⟩) hS.2.2 dX12_undo_13
set_option maxRecDepth 20000 in
theorem ggX12_cause_X12_in : GoodIn wsX12_cause wsX12_in := goodIn_r _ [10] (by decide +kernel) (by decide +kernel)
set_option maxRecDepth 20000 in
theorem gX12_cause_X12_in : GoodIn wsX12_cause (va_wsS RX12 49 yX12_in wsX12_in) := goodIn_app (goodIn_of _ (by decide +kernel)) ggX12_cause_X12_in
set_option maxRecDepth 20000 in
theorem ggX12_cause_X12_full : GoodIn wsX12_cause wsX12_full := goodIn_r _ [19, 15, 20, 21, 22, 23, 24, 25, 26, 27, 28, 29, 30, 31, 32, 33, 34, 35, 36, 37, 38, 39, 40, 41, 42, 43] (by decide +kernel) (by decide +kernel)
set_option maxRecDepth 20000 in
theorem gX12_cause_X12_full : GoodIn wsX12_cause (wsV RX12 65 RX12 yX12_full wsX12_full) := goodIn_app (goodIn_of _ (by decide +kernel)) ggX12_cause_X12_full
set_option maxRecDepth 20000 in
theorem ggX12_cause_X12_bad : GoodIn wsX12_cause wsX12_bad := goodIn_r _ [14, 15, 20, 21, 22, 23, 24, 25, 26, 27, 28, 29, 30, 31, 32, 33, 34, 35, 36, 37, 38, 39, 40, 41, 42, 43] (by decide +kernel) (by decide +kernel)
set_option maxRecDepth 20000 in
theorem gX12_cause_X12_bad : GoodIn wsX12_cause (wsV RX12 61 RX12 yX12_bad wsX12_bad) := goodIn_app (goodIn_of _ (by decide +kernel)) ggX12_cause_X12_bad
theorem dX12_cause_0 : decode cX12_cause 0 = .ok (.iload_n 1, 1) := by decide +kernel
theorem dX12_cause_1 : decode cX12_cause 1 = .ok (.i2l, 1) := by decide +kernel
theorem dX12_cause_2 : decode cX12_cause 2 = .ok (.ldc2_w 202, 3) := by decide +kernel
theorem dX12_cause_5 : decode cX12_cause 5 = .ok (.ldc2_w 204, 3) := by decide +kernel
theorem dX12_cause_8 : decode cX12_cause 8 = .ok (.invokestatic 49, 3) := by decide +kernel
theorem dX12_cause_11 : decode cX12_cause 11 = .ok (.ifCond .eq 40, 3) := by decide +kernel
theorem dX12_cause_14 : decode cX12_cause 14 = .ok (.iload_n 2, 1) := by decide +kernel
theorem dX12_cause_15 : decode cX12_cause 15 = .ok (.i2l, 1) := by decide +kernel
theorem dX12_cause_16 : decode cX12_cause 16 = .ok (.lconst 1, 1) := by decide +kernel
theorem dX12_cause_17 : decode cX12_cause 17 = .ok (.ldc2_w 206, 3) := by decide +kernel
theorem dX12_cause_20 : decode cX12_cause 20 = .ok (.invokestatic 49, 3) := by decide +kernel
theorem dX12_cause_23 : decode cX12_cause 23 = .ok (.ifCond .eq 28, 3) := by decide +kernel
theorem dX12_cause_26 : decode cX12_cause 26 = .ok (.iload_n 3, 1) := by decide +kernel
theorem dX12_cause_27 : decode cX12_cause 27 = .ok (.i2l, 1) := by decide +kernel
theorem dX12_cause_28 : decode cX12_cause 28 = .ok (.lconst 0, 1) := by decide +kernel
theorem dX12_cause_29 : decode cX12_cause 29 = .ok (.ldc2_w 192, 3) := by decide +kernel
theorem dX12_cause_32 : decode cX12_cause 32 = .ok (.invokestatic 49, 3) := by decide +kernel
theorem dX12_cause_35 : decode cX12_cause 35 = .ok (.ifCond .eq 16, 3) := by decide +kernel
theorem dX12_cause_38 : decode cX12_cause 38 = .ok (.iload 4, 2) := by decide +kernel
theorem dX12_cause_40 : decode cX12_cause 40 = .ok (.i2l, 1) := by decide +kernel
theorem dX12_cause_41 : decode cX12_cause 41 = .ok (.lconst 0, 1) := by decide +kernel
theorem dX12_cause_42 : decode cX12_cause 42 = .ok (.ldc2_w 59, 3) := by decide +kernel
theorem dX12_cause_45 : decode cX12_cause 45 = .ok (.invokestatic 49, 3) := by decide +kernel
theorem dX12_cause_48 : decode cX12_cause 48 = .ok (.ifCond .ne 10, 3) := by decide +kernel
theorem dX12_cause_58 : decode cX12_cause 58 = .ok (.aload_n 0, 1) := by decide +kernel
theorem dX12_cause_59 : decode cX12_cause 59 = .ok (.getfield 7, 3) := by decide +kernel
theorem dX12_cause_62 : decode cX12_cause 62 = .ok (.iconst 3, 1) := by decide +kernel
theorem dX12_cause_63 : decode cX12_cause 63 = .ok (.iaload, 1) := by decide +kernel
theorem dX12_cause_64 : decode cX12_cause 64 = .ok (.bipush 6, 2) := by decide +kernel
theorem dX12_cause_66 : decode cX12_cause 66 = .ok (.if_icmp .ne 8, 3) := by decide +kernel
theorem dX12_cause_74 : decode cX12_cause 74 = .ok (.bipush 62, 2) := by decide +kernel
theorem dX12_cause_76 : decode cX12_cause 76 = .ok (.iconst 4, 1) := by decide +kernel
theorem dX12_cause_77 : decode cX12_cause 77 = .ok (.aload_n 0, 1) := by decide +kernel
theorem dX12_cause_78 : decode cX12_cause 78 = .ok (.getfield 7, 3) := by decide +kernel
theorem dX12_cause_81 : decode cX12_cause 81 = .ok (.iconst 3, 1) := by decide +kernel
theorem dX12_cause_82 : decode cX12_cause 82 = .ok (.iaload, 1) := by decide +kernel
theorem dX12_cause_83 : decode cX12_cause 83 = .ok (.imul, 1) := by decide +kernel
theorem dX12_cause_84 : decode cX12_cause 84 = .ok (.iadd, 1) := by decide +kernel
theorem dX12_cause_85 : decode cX12_cause 85 = .ok (.istore 5, 2) := by decide +kernel
theorem dX12_cause_87 : decode cX12_cause 87 = .ok (.aload_n 0, 1) := by decide +kernel
theorem dX12_cause_88 : decode cX12_cause 88 = .ok (.getfield 7, 3) := by decide +kernel
theorem dX12_cause_91 : decode cX12_cause 91 = .ok (.iload 5, 2) := by decide +kernel
theorem dX12_cause_93 : decode cX12_cause 93 = .ok (.iconst 0, 1) := by decide +kernel
theorem dX12_cause_94 : decode cX12_cause 94 = .ok (.iadd, 1) := by decide +kernel
theorem dX12_cause_95 : decode cX12_cause 95 = .ok (.iload_n 1, 1) := by decide +kernel
theorem dX12_cause_96 : decode cX12_cause 96 = .ok (.iastore, 1) := by decide +kernel
theorem dX12_cause_97 : decode cX12_cause 97 = .ok (.aload_n 0, 1) := by decide +kernel
theorem dX12_cause_98 : decode cX12_cause 98 = .ok (.getfield 7, 3) := by decide +kernel
theorem dX12_cause_101 : decode cX12_cause 101 = .ok (.iload 5, 2) := by decide +kernel
theorem dX12_cause_103 : decode cX12_cause 103 = .ok (.iconst 1, 1) := by decide +kernel
theorem dX12_cause_104 : decode cX12_cause 104 = .ok (.iadd, 1) := by decide +kernel
theorem dX12_cause_105 : decode cX12_cause 105 = .ok (.iload_n 2, 1) := by decide +kernel
theorem dX12_cause_106 : decode cX12_cause 106 = .ok (.iastore, 1) := by decide +kernel
theorem dX12_cause_107 : decode cX12_cause 107 = .ok (.aload_n 0, 1) := by decide +kernel
theorem dX12_cause_108 : decode cX12_cause 108 = .ok (.getfield 7, 3) := by decide +kernel
theorem dX12_cause_111 : decode cX12_cause 111 = .ok (.iload 5, 2) := by decide +kernel
theorem dX12_cause_113 : decode cX12_cause 113 = .ok (.iconst 2, 1) := by decide +kernel
theorem dX12_cause_114 : decode cX12_cause 114 = .ok (.iadd, 1) := by decide +kernel
theorem dX12_cause_115 : decode cX12_cause 115 = .ok (.iload_n 3, 1) := by decide +kernel
theorem dX12_cause_116 : decode cX12_cause 116 = .ok (.iastore, 1) := by decide +kernel
theorem dX12_cause_117 : decode cX12_cause 117 = .ok (.aload_n 0, 1) := by decide +kernel
theorem dX12_cause_118 : decode cX12_cause 118 = .ok (.getfield 7, 3) := by decide +kernel
theorem dX12_cause_121 : decode cX12_cause 121 = .ok (.iload 5, 2) := by decide +kernel
theorem dX12_cause_123 : decode cX12_cause 123 = .ok (.iconst 3, 1) := by decide +kernel
theorem dX12_cause_124 : decode cX12_cause 124 = .ok (.iadd, 1) := by decide +kernel
theorem dX12_cause_125 : decode cX12_cause 125 = .ok (.iload 4, 2) := by decide +kernel
theorem dX12_cause_127 : decode cX12_cause 127 = .ok (.iastore, 1) := by decide +kernel
theorem dX12_cause_128 : decode cX12_cause 128 = .ok (.aload_n 0, 1) := by decide +kernel
theorem dX12_cause_129 : decode cX12_cause 129 = .ok (.getfield 7, 3) := by decide +kernel
theorem dX12_cause_132 : decode cX12_cause 132 = .ok (.iconst 3, 1) := by decide +kernel
theorem dX12_cause_133 : decode cX12_cause 133 = .ok (.dup2, 1) := by decide +kernel
theorem dX12_cause_134 : decode cX12_cause 134 = .ok (.iaload, 1) := by decide +kernel
theorem dX12_cause_135 : decode cX12_cause 135 = .ok (.iconst 1, 1) := by decide +kernel
theorem dX12_cause_136 : decode cX12_cause 136 = .ok (.iadd, 1) := by decide +kernel
theorem dX12_cause_137 : decode cX12_cause 137 = .ok (.iastore, 1) := by decide +kernel
theorem dX12_cause_138 : decode cX12_cause 138 = .ok (.aload_n 0, 1) := by decide +kernel
theorem dX12_cause_139 : decode cX12_cause 139 = .ok (.getfield 7, 3) := by decide +kernel
theorem dX12_cause_142 : decode cX12_cause 142 = .ok (.iconst 3, 1) := by decide +kernel
theorem dX12_cause_143 : decode cX12_cause 143 = .ok (.iaload, 1) := by decide +kernel
theorem dX12_cause_144 : decode cX12_cause 144 = .ok (.iconst 1, 1) := by decide +kernel
theorem dX12_cause_145 : decode cX12_cause 145 = .ok (.isub, 1) := by decide +kernel
theorem dX12_cause_146 : decode cX12_cause 146 = .ok (.ireturn, 1) := by decide +kernel
theorem dX12_cause_69 : decode cX12_cause 69 = .ok (.aload_n 0, 1) := by decide +kernel
theorem dX12_cause_70 : decode cX12_cause 70 = .ok (.invokevirtual 65, 3) := by decide +kernel
theorem dX12_cause_73 : decode cX12_cause 73 = .ok (.ireturn, 1) := by decide +kernel
theorem dX12_cause_51 : decode cX12_cause 51 = .ok (.aload_n 0, 1) := by decide +kernel
theorem dX12_cause_52 : decode cX12_cause 52 = .ok (.bipush (-2), 2) := by decide +kernel
theorem dX12_cause_54 : decode cX12_cause 54 = .ok (.invokevirtual 61, 3) := by decide +kernel
theorem dX12_cause_57 : decode cX12_cause 57 = .ok (.ireturn, 1) := by decide +kernel
set_option maxRecDepth 20000 in
theorem iw_m_cause_X12 : ∀ w ∈ wsX120, w ∈ wsX12_cause := by decide +kernel
set_option maxHeartbeats 4000000 in
set_option maxRecDepth 100000 in
theorem m_cause (l : Launch) (dC : Nat → ClassId) (dI : Nat → Nat → Nat) (mo : Nat) (nw : Nat) (kp : Nat) (ik : Nat) (mr : Nat) (la_ : Int64) (lb_ : Int64) (mw : Nat) (lc_ : Int64) (ti_ : Int32) (cb_ : Int32) (ld_ : Int64) (le_ : Int64) (mq : Nat) (mz : Nat) (my : Nat) (sm_ : Int32) (mb : Nat) (bl_ : Int32) (ta_ : Int32) (tl_ : Int32) (tk_ : Int32) (vl_ : Int32) (mx : Nat) (mv : Nat) (cn_ : ClassId) (fn : Nat → Int32) (cr_ : ClassId) (fr_ : Nat → Int32) (na : Int32) (nb : Int32) (nc : Int32) (nd : Int32) (sz : Nat) (hOn : tz_OK 350 fn) : Met l yX12_cause wsX12_cause ({ frames := 1, cells := 0, slots := 0, locals := 25 }) (va_Pc [.ref mo, .int na, .int nb, .int nc, .int nd] (fun U => U.heap.size = sz ∧ va_P (dC, dI) vwCl [(mo, .inr (12, [.ref nw, .ref kp, .ref ik, .ref mr, .long la_, .long lb_, .ref mw, .long lc_, .int ti_, .int cb_, .long ld_, .long le_, .ref mq, .ref mz, .ref my, .int sm_, .ref mb, .int bl_, .int ta_, .int tl_, .int tk_, .int vl_, .ref mx, .ref mv])), (nw, .inl (cn_, 350, .inl fn)), (mr, .inl (cr_, 3, .inl fr_))] U.heap ∧ va_K (dC, dI) vwCl [(cn_, .int), (cr_, .int)] U ∧ va_D (fun _ => True) [(mo, .inr (12, [.ref nw, .ref kp, .ref ik, .ref mr, .long la_, .long lb_, .ref mw, .long lc_, .int ti_, .int cb_, .long ld_, .long le_, .ref mq, .ref mz, .ref my, .int sm_, .ref mb, .int bl_, .int ta_, .int tl_, .int tk_, .int vl_, .ref mx, .ref mv])), (nw, .inl (cn_, 350, .inl fn)), (mr, .inl (cr_, 3, .inl fr_))])) (va_Qi (fun (r : Int32) (_ : Unit) => True) (fun _ t => ∃ (gn : Nat → Int32) (gr_ : Nat → Int32), (tz_OK 350 gn) ∧ va_P (dC, dI) vwCl [(mo, .inr (12, [.ref nw, .ref kp, .ref ik, .ref mr, .long la_, .long lb_, .ref mw, .long lc_, .int ti_, .int cb_, .long ld_, .long le_, .ref mq, .ref mz, .ref my, .int sm_, .ref mb, .int bl_, .int ta_, .int tl_, .int tk_, .int vl_, .ref mx, .ref mv])), (nw, .inl (cn_, 350, .inl gn)), (mr, .inl (cr_, 3, .inl gr_))] t.heap ∧ va_K (dC, dI) vwCl [(cn_, .int), (cr_, .int)] t ∧ va_D (va_A [(mo, .inr (12, [.ref nw, .ref kp, .ref ik, .ref mr, .long la_, .long lb_, .ref mw, .long lc_, .int ti_, .int cb_, .long ld_, .long le_, .ref mq, .ref mz, .ref my, .int sm_, .ref mb, .int bl_, .int ta_, .int tl_, .int tk_, .int vl_, .ref mx, .ref mv])), (nw, .inl (cn_, 350, .inl fn)), (mr, .inl (cr_, 3, .inl fr_))] sz) [(mo, .inr (12, [.ref nw, .ref kp, .ref ik, .ref mr, .long la_, .long lb_, .ref mw, .long lc_, .int ti_, .int cb_, .long ld_, .long le_, .ref mq, .ref mz, .ref my, .int sm_, .ref mb, .int bl_, .int ta_, .int tl_, .int tk_, .int vl_, .ref mx, .ref mv])), (nw, .inl (cn_, 350, .inl gn)), (mr, .inl (cr_, 3, .inl gr_))]) (va_A [(mo, .inr (12, [.ref nw, .ref kp, .ref ik, .ref mr, .long la_, .long lb_, .ref mw, .long lc_, .int ti_, .int cb_, .long ld_, .long le_, .ref mq, .ref mz, .ref my, .int sm_, .ref mb, .int bl_, .int ta_, .int tl_, .int tk_, .int vl_, .ref mx, .ref mv])), (nw, .inl (cn_, 350, .inl fn)), (mr, .inl (cr_, 3, .inl fr_))] sz)) 0 0 (va_A [(mo, .inr (12, [.ref nw, .ref kp, .ref ik, .ref mr, .long la_, .long lb_, .ref mw, .long lc_, .int ti_, .int cb_, .long ld_, .long le_, .ref mq, .ref mz, .ref my, .int sm_, .ref mb, .int bl_, .int ta_, .int tl_, .int tk_, .int vl_, .ref mx, .ref mv])), (nw, .inl (cn_, 350, .inl fn)), (mr, .inl (cr_, 3, .inl fr_))] sz) := by
  refine Met.ofW (cc := cX12_cause) (maxL := 6) (ret := (some .int)) (by decide) rfl ?_
  intro p e s m args below meth c s₁ B hml hv
  obtain ⟨rfl, hsz, hP, hK, hD0⟩ := hv
  have hx := B.exec
  have hb := B.bytes
  have hr := B.returns
  have hts := atoms_spec (ws := wsX12_cause) B.pre
  have hown : s.vm.findClass RX12 = some m.cls := findClass_of_methodNamed B.named
  have hlocks := B.notSynchronized
  subst hsz
  have hD := hD0.self (sz := s.heap.size)
  generalize hAe : va_A [(mo, .inr (12, [.ref nw, .ref kp, .ref ik, .ref mr, .long la_, .long lb_, .ref mw, .long lc_, .int ti_, .int cb_, .long ld_, .long le_, .ref mq, .ref mz, .ref my, .int sm_, .ref mb, .int bl_, .int ta_, .int tl_, .int tk_, .int vl_, .ref mx, .ref mv])), (nw, .inl (cn_, 350, .inl fn)), (mr, .inl (cr_, 3, .inl fr_))] s.heap.size = A at hD ⊢
  have hA : ∀ q : Nat, s.heap.size ≤ q → A q := fun q h => by rw [← hAe]; exact Or.inr h
  have hS : va_S A s.heap s.heap [] := va_S.rf
  have hP : va_P (dC, dI) vwCl [(mo, .inr (12, [.ref nw, .ref kp, .ref ik, .ref mr, .long la_, .long lb_, .ref mw, .long lc_, .int ti_, .int cb_, .long ld_, .long le_, .ref mq, .ref mz, .ref my, .int sm_, .ref mb, .int bl_, .int ta_, .int tl_, .int tk_, .int vl_, .ref mx, .ref mv])), (nw, .inl (cn_, 350, .inl fn)), (mr, .inl (cr_, 3, .inl fr_))] s.heap := hP
  have hl := lv_entry ([.ref mo, .int na, .int nb, .int nc, .int nd]) (n := 6) (Nat.le_of_ble_eq_true rfl)
  rw [lg_entry_eq]
  generalize (lg_sl ([.ref mo, .int na, .int nb, .int nc, .int nd]) ++ List.replicate (6 - (lg_sl ([.ref mo, .int na, .int nb, .int nc, .int nd])).length) Slot.unset).toArray = ls at hl ⊢
  have hl : lv_has ls 6 [(0, .ref mo), (1, .int na), (2, .int nb), (3, .int nc), (4, .int nd)] := hl
  refine lv_iload_n hx hb dX12_cause_0 rfl (lv_at hl 1 rfl) ?_
  refine lv_i2l (v := na.toInt64) hx hb dX12_cause_1 rfl ?_
  refine lv_ldc2 hx hb hown (hts (.constantLong RX12 202 (-99)) (by decide +kernel)) dX12_cause_2 ?_
  refine lv_ldc2 hx hb hown (hts (.constantLong RX12 204 (99)) (by decide +kernel)) dX12_cause_5 ?_
  refine vp_callSi (va_Run.run (va_runS (As := [.long na.toInt64, .long (-99), .long 99]) (rest := []) ⟨hx, hb, hml, hown, hts⟩ (m_in l dC dI na.toInt64 (-99) 99) (va_cwS 3 hts gX12_cause_X12_in rfl rfl rfl (by decide +kernel) ⟨Nat.le_of_ble_eq_true rfl, Nat.le_of_ble_eq_true rfl⟩) ⟨fun a U g mk q => ⟨q.1, trivial⟩, fun U hU hW => ⟨rfl, trivial⟩⟩ rfl rfl hl.1 rfl (lv_room (Nat.le_of_ble_eq_true rfl)) dX12_cause_8 ⟨Nat.le_of_ble_eq_true rfl, Nat.le_of_ble_eq_true rfl⟩)) (fun r_1 hw_2 => ?_)
  by_cases hc_3 : (-99) ≤ na ∧ na ≤ 99
  · obtain rfl : 1 = r_1 := (hw_2.trans (if_pos ((tz_in64 (by first | rfl | decide) rfl (by first | rfl | decide)).mpr hc_3))).symm
    refine lv_if_eq (tgt := 51) hx hb dX12_cause_11 (by decide) (fun c_4 => ?_) (fun c_4 => ?_)
    · exact absurd c_4 (by decide)
    · refine lv_iload_n hx hb dX12_cause_14 rfl (lv_at hl 2 rfl) ?_
      refine lv_i2l (v := nb.toInt64) hx hb dX12_cause_15 rfl ?_
      refine lv_lconst (v := 1) hx hb dX12_cause_16 (by decide) ?_
      refine lv_ldc2 hx hb hown (hts (.constantLong RX12 206 (20)) (by decide +kernel)) dX12_cause_17 ?_
      refine vp_callSi (va_Run.run (va_runS (As := [.long nb.toInt64, .long 1, .long 20]) (rest := []) ⟨hx, hb, hml, hown, hts⟩ (m_in l dC dI nb.toInt64 1 20) (va_cwS 3 hts gX12_cause_X12_in rfl rfl rfl (by decide +kernel) ⟨Nat.le_of_ble_eq_true rfl, Nat.le_of_ble_eq_true rfl⟩) ⟨fun a U g mk q => ⟨q.1, trivial⟩, fun U hU hW => ⟨rfl, trivial⟩⟩ rfl rfl hl.1 rfl (lv_room (Nat.le_of_ble_eq_true rfl)) dX12_cause_20 ⟨Nat.le_of_ble_eq_true rfl, Nat.le_of_ble_eq_true rfl⟩)) (fun r_5 hw_6 => ?_)
      by_cases hc_7 : 1 ≤ nb ∧ nb ≤ 20
      · obtain rfl : 1 = r_5 := (hw_6.trans (if_pos ((tz_in64 (by first | rfl | decide) rfl (by first | rfl | decide)).mpr hc_7))).symm
        obtain ⟨j_8, hj_9, hj_10, rfl⟩ := tz_pickL (l := 1) (n := 20) hc_7 (by decide) (by decide)
        refine lv_if_eq (tgt := 51) hx hb dX12_cause_23 (by decide) (fun c_11 => ?_) (fun c_11 => ?_)
        · exact absurd c_11 (by decide)
        · refine lv_iload_n hx hb dX12_cause_26 rfl (lv_at hl 3 rfl) ?_
          refine lv_i2l (v := nc.toInt64) hx hb dX12_cause_27 rfl ?_
          refine lv_lconst (v := 0) hx hb dX12_cause_28 (by decide) ?_
          refine lv_ldc2 hx hb hown (hts (.constantLong RX12 192 (30)) (by decide +kernel)) dX12_cause_29 ?_
          refine vp_callSi (va_Run.run (va_runS (As := [.long nc.toInt64, .long 0, .long 30]) (rest := []) ⟨hx, hb, hml, hown, hts⟩ (m_in l dC dI nc.toInt64 0 30) (va_cwS 3 hts gX12_cause_X12_in rfl rfl rfl (by decide +kernel) ⟨Nat.le_of_ble_eq_true rfl, Nat.le_of_ble_eq_true rfl⟩) ⟨fun a U g mk q => ⟨q.1, trivial⟩, fun U hU hW => ⟨rfl, trivial⟩⟩ rfl rfl hl.1 rfl (lv_room (Nat.le_of_ble_eq_true rfl)) dX12_cause_32 ⟨Nat.le_of_ble_eq_true rfl, Nat.le_of_ble_eq_true rfl⟩)) (fun r_12 hw_13 => ?_)
          by_cases hc_14 : 0 ≤ nc ∧ nc ≤ 30
          · obtain rfl : 1 = r_12 := (hw_13.trans (if_pos ((tz_in64 (by first | rfl | decide) rfl (by first | rfl | decide)).mpr hc_14))).symm
            obtain ⟨j_15, hj_16, hj_17, rfl⟩ := tz_pickL (l := 0) (n := 30) hc_14 (by decide) (by decide)
            refine lv_if_eq (tgt := 51) hx hb dX12_cause_35 (by decide) (fun c_18 => ?_) (fun c_18 => ?_)
            · exact absurd c_18 (by decide)
            · refine lv_iload hx hb dX12_cause_38 (lv_at hl 4 rfl) ?_
              refine lv_i2l (v := nd.toInt64) hx hb dX12_cause_40 rfl ?_
              refine lv_lconst (v := 0) hx hb dX12_cause_41 (by decide) ?_
              refine lv_ldc2 hx hb hown (hts (.constantLong RX12 59 (10)) (by decide +kernel)) dX12_cause_42 ?_
              refine vp_callSi (va_Run.run (va_runS (As := [.long nd.toInt64, .long 0, .long 10]) (rest := []) ⟨hx, hb, hml, hown, hts⟩ (m_in l dC dI nd.toInt64 0 10) (va_cwS 3 hts gX12_cause_X12_in rfl rfl rfl (by decide +kernel) ⟨Nat.le_of_ble_eq_true rfl, Nat.le_of_ble_eq_true rfl⟩) ⟨fun a U g mk q => ⟨q.1, trivial⟩, fun U hU hW => ⟨rfl, trivial⟩⟩ rfl rfl hl.1 rfl (lv_room (Nat.le_of_ble_eq_true rfl)) dX12_cause_45 ⟨Nat.le_of_ble_eq_true rfl, Nat.le_of_ble_eq_true rfl⟩)) (fun r_19 hw_20 => ?_)
              by_cases hc_21 : 0 ≤ nd ∧ nd ≤ 10
              · obtain rfl : 1 = r_19 := (hw_20.trans (if_pos ((tz_in64 (by first | rfl | decide) rfl (by first | rfl | decide)).mpr hc_21))).symm
                obtain ⟨j_22, hj_23, hj_24, rfl⟩ := tz_pickL (l := 0) (n := 10) hc_21 (by decide) (by decide)
                refine lv_if_ne (tgt := 58) hx hb dX12_cause_48 (by decide) (fun c_25 => ?_) (fun c_25 => ?_)
                · refine lv_aload_n hx hb dX12_cause_58 rfl (lv_at hl 0 rfl) ?_
                  refine va_get (D := (dC, dI)) (ci := 12) (v := .ref nw) (C := RX12) (T := TX12) (N := 24) hx hb hts iw_m_cause_X12 hown hK hP 0 rfl rfl 0 (by decide) (hts (.fieldLink RX12 7 "ThriceCountedModel" "now" "[I") (by decide +kernel)) (fun _ h9 => h9) rfl dX12_cause_59 ?_
                  refine lv_iconst (v := 3) hx hb dX12_cause_62 (by decide) ?_
                  refine va_iald hx hb hK hP 1 0 rfl rfl (show ¬ ((3 : Int32) < 0 ∨ 350 ≤ (3 : Int32).toNatClampNeg) by decide) dX12_cause_63 ?_
                  obtain ⟨j_26, hj_27, ej_28⟩ := hOn.nat (K := 3) (n := 6) (by omega) (show tz_b 3 = (0, 6) from by decide)
                  refine tz_i (nI j_26) ej_28 ?_
                  refine lv_bipush (v := 6) hx hb dX12_cause_64 (by decide) ?_
                  refine lv_icmp_ne (tgt := 74) hx hb dX12_cause_66 (by decide) (fun c_29 => ?_) (fun c_29 => ?_)
                  · have hn_30 : ¬ j_26 = 6 := fun q => c_29 ((nI_eq (a := j_26) (b := 6) (by omega) (by omega)).mpr q)
                    refine lv_bipush (v := 62) hx hb dX12_cause_74 (by decide) ?_
                    refine lv_iconst (v := 4) hx hb dX12_cause_76 (by decide) ?_
                    refine lv_aload_n hx hb dX12_cause_77 rfl (lv_at hl 0 rfl) ?_
                    refine va_get (D := (dC, dI)) (ci := 12) (v := .ref nw) (C := RX12) (T := TX12) (N := 24) hx hb hts iw_m_cause_X12 hown hK hP 0 rfl rfl 0 (by decide) (hts (.fieldLink RX12 7 "ThriceCountedModel" "now" "[I") (by decide +kernel)) (fun _ h9 => h9) rfl dX12_cause_78 ?_
                    refine lv_iconst (v := 3) hx hb dX12_cause_81 (by decide) ?_
                    refine va_iald hx hb hK hP 1 0 rfl rfl (show ¬ ((3 : Int32) < 0 ∨ 350 ≤ (3 : Int32).toNatClampNeg) by decide) dX12_cause_82 ?_
                    refine tz_i (nI j_26) ej_28 ?_
                    refine lv_imul hx hb dX12_cause_83 ?_
                    refine tz_i (nI (4 * j_26)) (pk_mul 4 j_26) ?_
                    refine lv_iadd hx hb dX12_cause_84 ?_
                    refine tz_i (nI (62 + (4 * j_26))) (nI_add 62 (4 * j_26)) ?_
                    refine lv_istore (lv' := [(5, .int (nI (62 + (4 * j_26)))), (0, .ref mo), (1, .int na), (2, .int (nI j_8)), (3, .int (nI j_15)), (4, .int (nI j_22))]) hx hb dX12_cause_85 hl (by decide) rfl (fun ls hl => ?_)
                    refine lv_aload_n hx hb dX12_cause_87 rfl (lv_at hl 1 rfl) ?_
                    refine va_get (D := (dC, dI)) (ci := 12) (v := .ref nw) (C := RX12) (T := TX12) (N := 24) hx hb hts iw_m_cause_X12 hown hK hP 0 rfl rfl 0 (by decide) (hts (.fieldLink RX12 7 "ThriceCountedModel" "now" "[I") (by decide +kernel)) (fun _ h9 => h9) rfl dX12_cause_88 ?_
                    refine lv_iload hx hb dX12_cause_91 (lv_at hl 0 rfl) ?_
                    refine lv_iconst (v := 0) hx hb dX12_cause_93 (by decide) ?_
                    refine lv_iadd hx hb dX12_cause_94 ?_
                    refine tz_i (nI ((62 + (4 * j_26)) + 0)) (nI_add (62 + (4 * j_26)) 0) ?_
                    refine lv_iload_n hx hb dX12_cause_95 rfl (lv_at hl 2 rfl) ?_
                    refine va_iast hx hb hK hP hD hS 1 0 rfl rfl (vp_in_nI (n := ((62 + (4 * j_26)) + 0)) (N := 350) (by omega) (by decide)) dX12_cause_96 (fun H locs hP hD hS => ?_)
                    have hk_32 : tz_OK 350 (upd fn (Int32.toNatClampNeg (nI ((62 + (4 * j_26)) + 0))) na) := hOn.updc (K := ((62 + (4 * j_26)) + 0)) (by omega) (tz_bd_any _ (tz_b_c0 j_26 (by omega))) (by omega) (fun i hi => by omega)
                    have hk_33 : (upd fn (Int32.toNatClampNeg (nI ((62 + (4 * j_26)) + 0))) na) 3 = nI j_26 := tz_upd_ne (K := ((62 + (4 * j_26)) + 0)) (by omega) (by omega) ej_28
                    generalize (upd fn (Int32.toNatClampNeg (nI ((62 + (4 * j_26)) + 0))) na) = f_31 at hP hD hk_32 hk_33
                    have hP : va_P (dC, dI) vwCl [(mo, .inr (12, [.ref nw, .ref kp, .ref ik, .ref mr, .long la_, .long lb_, .ref mw, .long lc_, .int ti_, .int cb_, .long ld_, .long le_, .ref mq, .ref mz, .ref my, .int sm_, .ref mb, .int bl_, .int ta_, .int tl_, .int tk_, .int vl_, .ref mx, .ref mv])), (nw, .inl (cn_, 350, .inl f_31)), (mr, .inl (cr_, 3, .inl fr_))] H := hP
                    have hD : va_D A [(mo, .inr (12, [.ref nw, .ref kp, .ref ik, .ref mr, .long la_, .long lb_, .ref mw, .long lc_, .int ti_, .int cb_, .long ld_, .long le_, .ref mq, .ref mz, .ref my, .int sm_, .ref mb, .int bl_, .int ta_, .int tl_, .int tk_, .int vl_, .ref mx, .ref mv])), (nw, .inl (cn_, 350, .inl f_31)), (mr, .inl (cr_, 3, .inl fr_))] := hD
                    refine lv_aload_n hx hb dX12_cause_97 rfl (lv_at hl 1 rfl) ?_
                    refine va_get (D := (dC, dI)) (ci := 12) (v := .ref nw) (C := RX12) (T := TX12) (N := 24) hx hb hts iw_m_cause_X12 hown hK hP 0 rfl rfl 0 (by decide) (hts (.fieldLink RX12 7 "ThriceCountedModel" "now" "[I") (by decide +kernel)) (fun _ h9 => h9) rfl dX12_cause_98 ?_
                    refine lv_iload hx hb dX12_cause_101 (lv_at hl 0 rfl) ?_
                    refine lv_iconst (v := 1) hx hb dX12_cause_103 (by decide) ?_
                    refine lv_iadd hx hb dX12_cause_104 ?_
                    refine tz_i (nI ((62 + (4 * j_26)) + 1)) (nI_add (62 + (4 * j_26)) 1) ?_
                    refine lv_iload_n hx hb dX12_cause_105 rfl (lv_at hl 3 rfl) ?_
                    refine va_iast hx hb hK hP hD hS 1 0 rfl rfl (vp_in_nI (n := ((62 + (4 * j_26)) + 1)) (N := 350) (by omega) (by decide)) dX12_cause_106 (fun H locs hP hD hS => ?_)
                    have hk_35 : tz_OK 350 (upd f_31 (Int32.toNatClampNeg (nI ((62 + (4 * j_26)) + 1))) (nI j_8)) := hk_32.updo (J := j_26) hk_33 (by omega) (by omega) (by omega) (tz_bd_nI (tz_b_c1 j_26 (by omega)) (by omega) (by omega) (by omega))
                    have hk_36 : (upd f_31 (Int32.toNatClampNeg (nI ((62 + (4 * j_26)) + 1))) (nI j_8)) 3 = nI j_26 := tz_upd_ne (K := ((62 + (4 * j_26)) + 1)) (by omega) (by omega) hk_33
                    have hk_37 : tz_od j_26 (upd f_31 (Int32.toNatClampNeg (nI ((62 + (4 * j_26)) + 1))) (nI j_8)) := tz_od.new (by omega) (by omega) (by omega) (by omega)
                    generalize (upd f_31 (Int32.toNatClampNeg (nI ((62 + (4 * j_26)) + 1))) (nI j_8)) = f_34 at hP hD hk_35 hk_36 hk_37
                    have hP : va_P (dC, dI) vwCl [(mo, .inr (12, [.ref nw, .ref kp, .ref ik, .ref mr, .long la_, .long lb_, .ref mw, .long lc_, .int ti_, .int cb_, .long ld_, .long le_, .ref mq, .ref mz, .ref my, .int sm_, .ref mb, .int bl_, .int ta_, .int tl_, .int tk_, .int vl_, .ref mx, .ref mv])), (nw, .inl (cn_, 350, .inl f_34)), (mr, .inl (cr_, 3, .inl fr_))] H := hP
                    have hD : va_D A [(mo, .inr (12, [.ref nw, .ref kp, .ref ik, .ref mr, .long la_, .long lb_, .ref mw, .long lc_, .int ti_, .int cb_, .long ld_, .long le_, .ref mq, .ref mz, .ref my, .int sm_, .ref mb, .int bl_, .int ta_, .int tl_, .int tk_, .int vl_, .ref mx, .ref mv])), (nw, .inl (cn_, 350, .inl f_34)), (mr, .inl (cr_, 3, .inl fr_))] := hD
                    refine lv_aload_n hx hb dX12_cause_107 rfl (lv_at hl 1 rfl) ?_
                    refine va_get (D := (dC, dI)) (ci := 12) (v := .ref nw) (C := RX12) (T := TX12) (N := 24) hx hb hts iw_m_cause_X12 hown hK hP 0 rfl rfl 0 (by decide) (hts (.fieldLink RX12 7 "ThriceCountedModel" "now" "[I") (by decide +kernel)) (fun _ h9 => h9) rfl dX12_cause_108 ?_
                    refine lv_iload hx hb dX12_cause_111 (lv_at hl 0 rfl) ?_
                    refine lv_iconst (v := 2) hx hb dX12_cause_113 (by decide) ?_
                    refine lv_iadd hx hb dX12_cause_114 ?_
                    refine tz_i (nI ((62 + (4 * j_26)) + 2)) (nI_add (62 + (4 * j_26)) 2) ?_
                    refine lv_iload_n hx hb dX12_cause_115 rfl (lv_at hl 4 rfl) ?_
                    refine va_iast hx hb hK hP hD hS 1 0 rfl rfl (vp_in_nI (n := ((62 + (4 * j_26)) + 2)) (N := 350) (by omega) (by decide)) dX12_cause_116 (fun H locs hP hD hS => ?_)
                    have hk_39 : tz_OK 350 (upd f_34 (Int32.toNatClampNeg (nI ((62 + (4 * j_26)) + 2))) (nI j_15)) := hk_35.updc (K := ((62 + (4 * j_26)) + 2)) (by omega) (tz_bd_any _ (tz_b_c2 j_26 (by omega))) (by omega) (fun i hi => by omega)
                    have hk_40 : tz_od j_26 (upd f_34 (Int32.toNatClampNeg (nI ((62 + (4 * j_26)) + 2))) (nI j_15)) := hk_37.stay (K := ((62 + (4 * j_26)) + 2)) (by omega) (by omega)
                    have hk_41 : (upd f_34 (Int32.toNatClampNeg (nI ((62 + (4 * j_26)) + 2))) (nI j_15)) 3 = nI j_26 := tz_upd_ne (K := ((62 + (4 * j_26)) + 2)) (by omega) (by omega) hk_36
                    generalize (upd f_34 (Int32.toNatClampNeg (nI ((62 + (4 * j_26)) + 2))) (nI j_15)) = f_38 at hP hD hk_39 hk_40 hk_41
                    have hP : va_P (dC, dI) vwCl [(mo, .inr (12, [.ref nw, .ref kp, .ref ik, .ref mr, .long la_, .long lb_, .ref mw, .long lc_, .int ti_, .int cb_, .long ld_, .long le_, .ref mq, .ref mz, .ref my, .int sm_, .ref mb, .int bl_, .int ta_, .int tl_, .int tk_, .int vl_, .ref mx, .ref mv])), (nw, .inl (cn_, 350, .inl f_38)), (mr, .inl (cr_, 3, .inl fr_))] H := hP
                    have hD : va_D A [(mo, .inr (12, [.ref nw, .ref kp, .ref ik, .ref mr, .long la_, .long lb_, .ref mw, .long lc_, .int ti_, .int cb_, .long ld_, .long le_, .ref mq, .ref mz, .ref my, .int sm_, .ref mb, .int bl_, .int ta_, .int tl_, .int tk_, .int vl_, .ref mx, .ref mv])), (nw, .inl (cn_, 350, .inl f_38)), (mr, .inl (cr_, 3, .inl fr_))] := hD
                    refine lv_aload_n hx hb dX12_cause_117 rfl (lv_at hl 1 rfl) ?_
                    refine va_get (D := (dC, dI)) (ci := 12) (v := .ref nw) (C := RX12) (T := TX12) (N := 24) hx hb hts iw_m_cause_X12 hown hK hP 0 rfl rfl 0 (by decide) (hts (.fieldLink RX12 7 "ThriceCountedModel" "now" "[I") (by decide +kernel)) (fun _ h9 => h9) rfl dX12_cause_118 ?_
                    refine lv_iload hx hb dX12_cause_121 (lv_at hl 0 rfl) ?_
                    refine lv_iconst (v := 3) hx hb dX12_cause_123 (by decide) ?_
                    refine lv_iadd hx hb dX12_cause_124 ?_
                    refine tz_i (nI ((62 + (4 * j_26)) + 3)) (nI_add (62 + (4 * j_26)) 3) ?_
                    refine lv_iload hx hb dX12_cause_125 (lv_at hl 5 rfl) ?_
                    refine va_iast hx hb hK hP hD hS 1 0 rfl rfl (vp_in_nI (n := ((62 + (4 * j_26)) + 3)) (N := 350) (by omega) (by decide)) dX12_cause_127 (fun H locs hP hD hS => ?_)
                    have hk_43 : tz_OK 350 (upd f_38 (Int32.toNatClampNeg (nI ((62 + (4 * j_26)) + 3))) (nI j_22)) := hk_39.updc (K := ((62 + (4 * j_26)) + 3)) (by omega) (tz_bd_any _ (tz_b_c3 j_26 (by omega))) (by omega) (fun i hi => by omega)
                    have hk_44 : tz_od j_26 (upd f_38 (Int32.toNatClampNeg (nI ((62 + (4 * j_26)) + 3))) (nI j_22)) := hk_40.stay (K := ((62 + (4 * j_26)) + 3)) (by omega) (by omega)
                    have hk_45 : (upd f_38 (Int32.toNatClampNeg (nI ((62 + (4 * j_26)) + 3))) (nI j_22)) 3 = nI j_26 := tz_upd_ne (K := ((62 + (4 * j_26)) + 3)) (by omega) (by omega) hk_41
                    generalize (upd f_38 (Int32.toNatClampNeg (nI ((62 + (4 * j_26)) + 3))) (nI j_22)) = f_42 at hP hD hk_43 hk_44 hk_45
                    have hP : va_P (dC, dI) vwCl [(mo, .inr (12, [.ref nw, .ref kp, .ref ik, .ref mr, .long la_, .long lb_, .ref mw, .long lc_, .int ti_, .int cb_, .long ld_, .long le_, .ref mq, .ref mz, .ref my, .int sm_, .ref mb, .int bl_, .int ta_, .int tl_, .int tk_, .int vl_, .ref mx, .ref mv])), (nw, .inl (cn_, 350, .inl f_42)), (mr, .inl (cr_, 3, .inl fr_))] H := hP
                    have hD : va_D A [(mo, .inr (12, [.ref nw, .ref kp, .ref ik, .ref mr, .long la_, .long lb_, .ref mw, .long lc_, .int ti_, .int cb_, .long ld_, .long le_, .ref mq, .ref mz, .ref my, .int sm_, .ref mb, .int bl_, .int ta_, .int tl_, .int tk_, .int vl_, .ref mx, .ref mv])), (nw, .inl (cn_, 350, .inl f_42)), (mr, .inl (cr_, 3, .inl fr_))] := hD
                    refine lv_aload_n hx hb dX12_cause_128 rfl (lv_at hl 1 rfl) ?_
                    refine va_get (D := (dC, dI)) (ci := 12) (v := .ref nw) (C := RX12) (T := TX12) (N := 24) hx hb hts iw_m_cause_X12 hown hK hP 0 rfl rfl 0 (by decide) (hts (.fieldLink RX12 7 "ThriceCountedModel" "now" "[I") (by decide +kernel)) (fun _ h9 => h9) rfl dX12_cause_129 ?_
                    refine lv_iconst (v := 3) hx hb dX12_cause_132 (by decide) ?_
                    refine lv_dup2_11 hx hb dX12_cause_133 rfl rfl ?_
                    refine va_iald hx hb hK hP 1 0 rfl rfl (show ¬ ((3 : Int32) < 0 ∨ 350 ≤ (3 : Int32).toNatClampNeg) by decide) dX12_cause_134 ?_
                    refine tz_i (nI j_26) hk_45 ?_
                    refine lv_iconst (v := 1) hx hb dX12_cause_135 (by decide) ?_
                    refine lv_iadd hx hb dX12_cause_136 ?_
                    refine tz_i (nI (j_26 + 1)) (nI_add j_26 1) ?_
                    refine va_iast hx hb hK hP hD hS 1 0 rfl rfl (show ¬ ((3 : Int32) < 0 ∨ 350 ≤ (3 : Int32).toNatClampNeg) by decide) dX12_cause_137 (fun H locs hP hD hS => ?_)
                    have hk_47 : tz_OK 350 (upd f_42 (Int32.toNatClampNeg 3) (nI (j_26 + 1))) := hk_43.inc3 hk_45 (by omega) hk_44
                    have hk_48 : tz_od j_26 (upd f_42 (Int32.toNatClampNeg 3) (nI (j_26 + 1))) := hk_44.stay (K := 3) (by omega) (by omega)
                    have hk_49 : (upd f_42 (Int32.toNatClampNeg 3) (nI (j_26 + 1))) 3 = nI (j_26 + 1) := tz_upd_eq (K := 3) (by omega)
                    generalize (upd f_42 (Int32.toNatClampNeg 3) (nI (j_26 + 1))) = f_46 at hP hD hk_47 hk_48 hk_49
                    have hP : va_P (dC, dI) vwCl [(mo, .inr (12, [.ref nw, .ref kp, .ref ik, .ref mr, .long la_, .long lb_, .ref mw, .long lc_, .int ti_, .int cb_, .long ld_, .long le_, .ref mq, .ref mz, .ref my, .int sm_, .ref mb, .int bl_, .int ta_, .int tl_, .int tk_, .int vl_, .ref mx, .ref mv])), (nw, .inl (cn_, 350, .inl f_46)), (mr, .inl (cr_, 3, .inl fr_))] H := hP
                    have hD : va_D A [(mo, .inr (12, [.ref nw, .ref kp, .ref ik, .ref mr, .long la_, .long lb_, .ref mw, .long lc_, .int ti_, .int cb_, .long ld_, .long le_, .ref mq, .ref mz, .ref my, .int sm_, .ref mb, .int bl_, .int ta_, .int tl_, .int tk_, .int vl_, .ref mx, .ref mv])), (nw, .inl (cn_, 350, .inl f_46)), (mr, .inl (cr_, 3, .inl fr_))] := hD
                    refine lv_aload_n hx hb dX12_cause_138 rfl (lv_at hl 1 rfl) ?_
                    refine va_get (D := (dC, dI)) (ci := 12) (v := .ref nw) (C := RX12) (T := TX12) (N := 24) hx hb hts iw_m_cause_X12 hown hK hP 0 rfl rfl 0 (by decide) (hts (.fieldLink RX12 7 "ThriceCountedModel" "now" "[I") (by decide +kernel)) (fun _ h9 => h9) rfl dX12_cause_139 ?_
                    refine lv_iconst (v := 3) hx hb dX12_cause_142 (by decide) ?_
                    refine va_iald hx hb hK hP 1 0 rfl rfl (show ¬ ((3 : Int32) < 0 ∨ 350 ≤ (3 : Int32).toNatClampNeg) by decide) dX12_cause_143 ?_
                    refine tz_i (nI (j_26 + 1)) hk_49 ?_
                    refine lv_iconst (v := 1) hx hb dX12_cause_144 (by decide) ?_
                    refine lv_isub hx hb dX12_cause_145 ?_
                    refine tz_i (nI ((j_26 + 1) - 1)) (pk_sub (a := (j_26 + 1)) (b := 1) (by omega)) ?_
                    have hP9 := hP.sub (ws' := [(mo, .inr (12, [.ref nw, .ref kp, .ref ik, .ref mr, .long la_, .long lb_, .ref mw, .long lc_, .int ti_, .int cb_, .long ld_, .long le_, .ref mq, .ref mz, .ref my, .int sm_, .ref mb, .int bl_, .int ta_, .int tl_, .int tk_, .int vl_, .ref mx, .ref mv])), (nw, .inl (cn_, 350, .inl f_46)), (mr, .inl (cr_, 3, .inl fr_))]) [0, 1, 2] rfl
                    have hD9 := hD.sub (ws' := [(mo, .inr (12, [.ref nw, .ref kp, .ref ik, .ref mr, .long la_, .long lb_, .ref mw, .long lc_, .int ti_, .int cb_, .long ld_, .long le_, .ref mq, .ref mz, .ref my, .int sm_, .ref mb, .int bl_, .int ta_, .int tl_, .int tk_, .int vl_, .ref mx, .ref mv])), (nw, .inl (cn_, 350, .inl f_46)), (mr, .inl (cr_, 3, .inl fr_))]) [0, 1, 2] (by decide) rfl
                    have hK9 := hK.sub (tys' := [(cn_, .int), (cr_, .int)]) [0, 1] rfl
                    exact W.iret (v := (nI ((j_26 + 1) - 1))) hx hb hr (fun t ht hW => ⟨⟨(nI ((j_26 + 1) - 1)), (), rfl, trivial, f_46, fr_, hk_47, by rw [ht]; exact hP9, va_K.moved hW.alike hK9, hD9⟩, hS.F ht⟩) hS.2.2 dX12_cause_146
                  · have hn_50 : j_26 = 6 := (nI_eq (a := j_26) (b := 6) (by omega) (by omega)).mp c_29
                    refine lv_aload_n hx hb dX12_cause_69 rfl (lv_at hl 0 rfl) ?_
                    have hPc := hP.sub (ws' := [(mo, .inr (12, [.ref nw, .ref kp, .ref ik, .ref mr, .long la_, .long lb_, .ref mw, .long lc_, .int ti_, .int cb_, .long ld_, .long le_, .ref mq, .ref mz, .ref my, .int sm_, .ref mb, .int bl_, .int ta_, .int tl_, .int tk_, .int vl_, .ref mx, .ref mv])), (mr, .inl (cr_, 3, .inl fr_))]) [0, 2] rfl
                    have hDc := hD.sub (ws' := [(mo, .inr (12, [.ref nw, .ref kp, .ref ik, .ref mr, .long la_, .long lb_, .ref mw, .long lc_, .int ti_, .int cb_, .long ld_, .long le_, .ref mq, .ref mz, .ref my, .int sm_, .ref mb, .int bl_, .int ta_, .int tl_, .int tk_, .int vl_, .ref mx, .ref mv])), (mr, .inl (cr_, 3, .inl fr_))]) [0, 2] (by decide) rfl
                    have hKc := hK.sub (tys' := [(cr_, .int)]) [1] rfl
                    have hFc := va_free (wc := [(mo, .inr (12, [.ref nw, .ref kp, .ref ik, .ref mr, .long la_, .long lb_, .ref mw, .long lc_, .int ti_, .int cb_, .long ld_, .long le_, .ref mq, .ref mz, .ref my, .int sm_, .ref mb, .int bl_, .int ta_, .int tl_, .int tk_, .int vl_, .ref mx, .ref mv])), (mr, .inl (cr_, 3, .inl fr_))]) hD hS hA [0, 2] rfl
                    refine va_calli (va_runV (As := []) (rest := []) ⟨hx, hb, hml, hown, hts⟩ (m_full l dC dI mo nw kp ik mr la_ lb_ mw lc_ ti_ cb_ ld_ le_ mq mz my sm_ mb bl_ ta_ tl_ tk_ vl_ mx mv cr_ fr_ s.heap.size) (cwV 0 hts gX12_cause_X12_full rfl rfl rfl (by decide +kernel) ⟨Nat.le_of_ble_eq_true rfl, Nat.le_of_ble_eq_true rfl⟩) ⟨fun a U g mk q => by obtain ⟨q0, q1, qP, qK, qD⟩ := q; exact ⟨q0, q1, qP, va_K.moved (u := U) (U := U.calling g mk a) (Vm.Alike.refl U.vm) qK, qD⟩, va_recv hK hP (ci := 12) (q0 := 0) rfl rfl, fun U hU hW => ⟨rfl, by rw [hU], by rw [hU]; exact hPc, va_K.moved hW.alike hKc, hDc.weaken (fun _ _ _ _ => trivial)⟩⟩ rfl rfl hl.1 rfl (lv_room (Nat.le_of_ble_eq_true rfl)) dX12_cause_70 ⟨Nat.le_of_ble_eq_true rfl, Nat.le_of_ble_eq_true rfl⟩) hS (fun q _ h => hFc q h) hFc (fun r_51 u_ t H1 locs ht hvm hw_52 hB hz1 hk1 hS => ?_)
                    obtain ⟨gr__53, hP1, hK1, hD1⟩ := hB
                    rw [ht] at hP1
                    have hK1 := va_K.moved hvm.symm hK1
                    obtain ⟨hP, hD⟩ := va_join (wr := [(nw, .inl (cn_, 350, .inl fn))]) (w1 := [(mo, .inr (12, [.ref nw, .ref kp, .ref ik, .ref mr, .long la_, .long lb_, .ref mw, .long lc_, .int ti_, .int cb_, .long ld_, .long le_, .ref mq, .ref mz, .ref my, .int sm_, .ref mb, .int bl_, .int ta_, .int tl_, .int tk_, .int vl_, .ref mx, .ref mv])), (mr, .inl (cr_, 3, .inl gr__53))]) hP hD [0, 2] [1] rfl rfl (by decide) (by decide) hk1 hFc hP1 hD1
                    generalize H1 = H at hP hS ⊢
                    have hP : va_P (dC, dI) vwCl [(nw, .inl (cn_, 350, .inl fn)), (mo, .inr (12, [.ref nw, .ref kp, .ref ik, .ref mr, .long la_, .long lb_, .ref mw, .long lc_, .int ti_, .int cb_, .long ld_, .long le_, .ref mq, .ref mz, .ref my, .int sm_, .ref mb, .int bl_, .int ta_, .int tl_, .int tk_, .int vl_, .ref mx, .ref mv])), (mr, .inl (cr_, 3, .inl gr__53))] H := hP
                    have hD : va_D A [(nw, .inl (cn_, 350, .inl fn)), (mo, .inr (12, [.ref nw, .ref kp, .ref ik, .ref mr, .long la_, .long lb_, .ref mw, .long lc_, .int ti_, .int cb_, .long ld_, .long le_, .ref mq, .ref mz, .ref my, .int sm_, .ref mb, .int bl_, .int ta_, .int tl_, .int tk_, .int vl_, .ref mx, .ref mv])), (mr, .inl (cr_, 3, .inl gr__53))] := hD
                    obtain rfl : (-4) = r_51 := hw_52.symm
                    have hP9 := hP.sub (ws' := [(mo, .inr (12, [.ref nw, .ref kp, .ref ik, .ref mr, .long la_, .long lb_, .ref mw, .long lc_, .int ti_, .int cb_, .long ld_, .long le_, .ref mq, .ref mz, .ref my, .int sm_, .ref mb, .int bl_, .int ta_, .int tl_, .int tk_, .int vl_, .ref mx, .ref mv])), (nw, .inl (cn_, 350, .inl fn)), (mr, .inl (cr_, 3, .inl gr__53))]) [1, 0, 2] rfl
                    have hD9 := hD.sub (ws' := [(mo, .inr (12, [.ref nw, .ref kp, .ref ik, .ref mr, .long la_, .long lb_, .ref mw, .long lc_, .int ti_, .int cb_, .long ld_, .long le_, .ref mq, .ref mz, .ref my, .int sm_, .ref mb, .int bl_, .int ta_, .int tl_, .int tk_, .int vl_, .ref mx, .ref mv])), (nw, .inl (cn_, 350, .inl fn)), (mr, .inl (cr_, 3, .inl gr__53))]) [1, 0, 2] (by decide) rfl
                    have hK9 := hK.sub (tys' := [(cn_, .int), (cr_, .int)]) [0, 1] rfl
                    exact W.iret (v := (-4)) hx hb hr (fun t ht hW => ⟨⟨(-4), (), rfl, trivial, fn, gr__53, hOn, by rw [ht]; exact hP9, va_K.moved hW.alike hK9, hD9⟩, hS.F ht⟩) hS.2.2 dX12_cause_73
                · exact absurd c_25 (by decide)
              · obtain rfl : 0 = r_19 := (hw_20.trans (if_neg (fun z => hc_21 ((tz_in64 (by first | rfl | decide) rfl (by first | rfl | decide)).mp z)))).symm
                refine lv_if_ne (tgt := 58) hx hb dX12_cause_48 (by decide) (fun c_54 => ?_) (fun c_54 => ?_)
                · exact absurd c_54 (by decide)
                · refine lv_aload_n hx hb dX12_cause_51 rfl (lv_at hl 0 rfl) ?_
                  refine lv_bipush (v := (-2)) hx hb dX12_cause_52 (by decide) ?_
                  have hPc := hP.sub (ws' := [(mo, .inr (12, [.ref nw, .ref kp, .ref ik, .ref mr, .long la_, .long lb_, .ref mw, .long lc_, .int ti_, .int cb_, .long ld_, .long le_, .ref mq, .ref mz, .ref my, .int sm_, .ref mb, .int bl_, .int ta_, .int tl_, .int tk_, .int vl_, .ref mx, .ref mv])), (mr, .inl (cr_, 3, .inl fr_))]) [0, 2] rfl
                  have hDc := hD.sub (ws' := [(mo, .inr (12, [.ref nw, .ref kp, .ref ik, .ref mr, .long la_, .long lb_, .ref mw, .long lc_, .int ti_, .int cb_, .long ld_, .long le_, .ref mq, .ref mz, .ref my, .int sm_, .ref mb, .int bl_, .int ta_, .int tl_, .int tk_, .int vl_, .ref mx, .ref mv])), (mr, .inl (cr_, 3, .inl fr_))]) [0, 2] (by decide) rfl
                  have hKc := hK.sub (tys' := [(cr_, .int)]) [1] rfl
                  have hFc := va_free (wc := [(mo, .inr (12, [.ref nw, .ref kp, .ref ik, .ref mr, .long la_, .long lb_, .ref mw, .long lc_, .int ti_, .int cb_, .long ld_, .long le_, .ref mq, .ref mz, .ref my, .int sm_, .ref mb, .int bl_, .int ta_, .int tl_, .int tk_, .int vl_, .ref mx, .ref mv])), (mr, .inl (cr_, 3, .inl fr_))]) hD hS hA [0, 2] rfl
                  refine va_calli (va_runV (As := [.int (-2)]) (rest := []) ⟨hx, hb, hml, hown, hts⟩ (m_bad l dC dI mo nw kp ik mr la_ lb_ mw lc_ ti_ cb_ ld_ le_ mq mz my sm_ mb bl_ ta_ tl_ tk_ vl_ mx mv cr_ fr_ (-2) s.heap.size) (cwV 1 hts gX12_cause_X12_bad rfl rfl rfl (by decide +kernel) ⟨Nat.le_of_ble_eq_true rfl, Nat.le_of_ble_eq_true rfl⟩) ⟨fun a U g mk q => by obtain ⟨q0, q1, qP, qK, qD⟩ := q; exact ⟨q0, q1, qP, va_K.moved (u := U) (U := U.calling g mk a) (Vm.Alike.refl U.vm) qK, qD⟩, va_recv hK hP (ci := 12) (q0 := 0) rfl rfl, fun U hU hW => ⟨rfl, by rw [hU], by rw [hU]; exact hPc, va_K.moved hW.alike hKc, hDc.weaken (fun _ _ _ _ => trivial)⟩⟩ rfl rfl hl.1 rfl (lv_room (Nat.le_of_ble_eq_true rfl)) dX12_cause_54 ⟨Nat.le_of_ble_eq_true rfl, Nat.le_of_ble_eq_true rfl⟩) hS (fun q _ h => hFc q h) hFc (fun r_55 u_ t H1 locs ht hvm hw_56 hB hz1 hk1 hS => ?_)
                  obtain ⟨gr__57, hP1, hK1, hD1⟩ := hB
                  rw [ht] at hP1
                  have hK1 := va_K.moved hvm.symm hK1
                  obtain ⟨hP, hD⟩ := va_join (wr := [(nw, .inl (cn_, 350, .inl fn))]) (w1 := [(mo, .inr (12, [.ref nw, .ref kp, .ref ik, .ref mr, .long la_, .long lb_, .ref mw, .long lc_, .int ti_, .int cb_, .long ld_, .long le_, .ref mq, .ref mz, .ref my, .int sm_, .ref mb, .int bl_, .int ta_, .int tl_, .int tk_, .int vl_, .ref mx, .ref mv])), (mr, .inl (cr_, 3, .inl gr__57))]) hP hD [0, 2] [1] rfl rfl (by decide) (by decide) hk1 hFc hP1 hD1
                  generalize H1 = H at hP hS ⊢
                  have hP : va_P (dC, dI) vwCl [(nw, .inl (cn_, 350, .inl fn)), (mo, .inr (12, [.ref nw, .ref kp, .ref ik, .ref mr, .long la_, .long lb_, .ref mw, .long lc_, .int ti_, .int cb_, .long ld_, .long le_, .ref mq, .ref mz, .ref my, .int sm_, .ref mb, .int bl_, .int ta_, .int tl_, .int tk_, .int vl_, .ref mx, .ref mv])), (mr, .inl (cr_, 3, .inl gr__57))] H := hP
                  have hD : va_D A [(nw, .inl (cn_, 350, .inl fn)), (mo, .inr (12, [.ref nw, .ref kp, .ref ik, .ref mr, .long la_, .long lb_, .ref mw, .long lc_, .int ti_, .int cb_, .long ld_, .long le_, .ref mq, .ref mz, .ref my, .int sm_, .ref mb, .int bl_, .int ta_, .int tl_, .int tk_, .int vl_, .ref mx, .ref mv])), (mr, .inl (cr_, 3, .inl gr__57))] := hD
                  obtain rfl : (-2) = r_55 := hw_56.symm
                  have hP9 := hP.sub (ws' := [(mo, .inr (12, [.ref nw, .ref kp, .ref ik, .ref mr, .long la_, .long lb_, .ref mw, .long lc_, .int ti_, .int cb_, .long ld_, .long le_, .ref mq, .ref mz, .ref my, .int sm_, .ref mb, .int bl_, .int ta_, .int tl_, .int tk_, .int vl_, .ref mx, .ref mv])), (nw, .inl (cn_, 350, .inl fn)), (mr, .inl (cr_, 3, .inl gr__57))]) [1, 0, 2] rfl
                  have hD9 := hD.sub (ws' := [(mo, .inr (12, [.ref nw, .ref kp, .ref ik, .ref mr, .long la_, .long lb_, .ref mw, .long lc_, .int ti_, .int cb_, .long ld_, .long le_, .ref mq, .ref mz, .ref my, .int sm_, .ref mb, .int bl_, .int ta_, .int tl_, .int tk_, .int vl_, .ref mx, .ref mv])), (nw, .inl (cn_, 350, .inl fn)), (mr, .inl (cr_, 3, .inl gr__57))]) [1, 0, 2] (by decide) rfl
                  have hK9 := hK.sub (tys' := [(cn_, .int), (cr_, .int)]) [0, 1] rfl
                  exact W.iret (v := (-2)) hx hb hr (fun t ht hW => ⟨⟨(-2), (), rfl, trivial, fn, gr__57, hOn, by rw [ht]; exact hP9, va_K.moved hW.alike hK9, hD9⟩, hS.F ht⟩) hS.2.2 dX12_cause_57
          · obtain rfl : 0 = r_12 := (hw_13.trans (if_neg (fun z => hc_14 ((tz_in64 (by first | rfl | decide) rfl (by first | rfl | decide)).mp z)))).symm
            refine lv_if_eq (tgt := 51) hx hb dX12_cause_35 (by decide) (fun c_58 => ?_) (fun c_58 => ?_)
            · refine lv_aload_n hx hb dX12_cause_51 rfl (lv_at hl 0 rfl) ?_
              refine lv_bipush (v := (-2)) hx hb dX12_cause_52 (by decide) ?_
              have hPc := hP.sub (ws' := [(mo, .inr (12, [.ref nw, .ref kp, .ref ik, .ref mr, .long la_, .long lb_, .ref mw, .long lc_, .int ti_, .int cb_, .long ld_, .long le_, .ref mq, .ref mz, .ref my, .int sm_, .ref mb, .int bl_, .int ta_, .int tl_, .int tk_, .int vl_, .ref mx, .ref mv])), (mr, .inl (cr_, 3, .inl fr_))]) [0, 2] rfl
              have hDc := hD.sub (ws' := [(mo, .inr (12, [.ref nw, .ref kp, .ref ik, .ref mr, .long la_, .long lb_, .ref mw, .long lc_, .int ti_, .int cb_, .long ld_, .long le_, .ref mq, .ref mz, .ref my, .int sm_, .ref mb, .int bl_, .int ta_, .int tl_, .int tk_, .int vl_, .ref mx, .ref mv])), (mr, .inl (cr_, 3, .inl fr_))]) [0, 2] (by decide) rfl
              have hKc := hK.sub (tys' := [(cr_, .int)]) [1] rfl
              have hFc := va_free (wc := [(mo, .inr (12, [.ref nw, .ref kp, .ref ik, .ref mr, .long la_, .long lb_, .ref mw, .long lc_, .int ti_, .int cb_, .long ld_, .long le_, .ref mq, .ref mz, .ref my, .int sm_, .ref mb, .int bl_, .int ta_, .int tl_, .int tk_, .int vl_, .ref mx, .ref mv])), (mr, .inl (cr_, 3, .inl fr_))]) hD hS hA [0, 2] rfl
              refine va_calli (va_runV (As := [.int (-2)]) (rest := []) ⟨hx, hb, hml, hown, hts⟩ (m_bad l dC dI mo nw kp ik mr la_ lb_ mw lc_ ti_ cb_ ld_ le_ mq mz my sm_ mb bl_ ta_ tl_ tk_ vl_ mx mv cr_ fr_ (-2) s.heap.size) (cwV 1 hts gX12_cause_X12_bad rfl rfl rfl (by decide +kernel) ⟨Nat.le_of_ble_eq_true rfl, Nat.le_of_ble_eq_true rfl⟩) ⟨fun a U g mk q => by obtain ⟨q0, q1, qP, qK, qD⟩ := q; exact ⟨q0, q1, qP, va_K.moved (u := U) (U := U.calling g mk a) (Vm.Alike.refl U.vm) qK, qD⟩, va_recv hK hP (ci := 12) (q0 := 0) rfl rfl, fun U hU hW => ⟨rfl, by rw [hU], by rw [hU]; exact hPc, va_K.moved hW.alike hKc, hDc.weaken (fun _ _ _ _ => trivial)⟩⟩ rfl rfl hl.1 rfl (lv_room (Nat.le_of_ble_eq_true rfl)) dX12_cause_54 ⟨Nat.le_of_ble_eq_true rfl, Nat.le_of_ble_eq_true rfl⟩) hS (fun q _ h => hFc q h) hFc (fun r_59 u_ t H1 locs ht hvm hw_60 hB hz1 hk1 hS => ?_)
              obtain ⟨gr__61, hP1, hK1, hD1⟩ := hB
              rw [ht] at hP1
              have hK1 := va_K.moved hvm.symm hK1
              obtain ⟨hP, hD⟩ := va_join (wr := [(nw, .inl (cn_, 350, .inl fn))]) (w1 := [(mo, .inr (12, [.ref nw, .ref kp, .ref ik, .ref mr, .long la_, .long lb_, .ref mw, .long lc_, .int ti_, .int cb_, .long ld_, .long le_, .ref mq, .ref mz, .ref my, .int sm_, .ref mb, .int bl_, .int ta_, .int tl_, .int tk_, .int vl_, .ref mx, .ref mv])), (mr, .inl (cr_, 3, .inl gr__61))]) hP hD [0, 2] [1] rfl rfl (by decide) (by decide) hk1 hFc hP1 hD1
              generalize H1 = H at hP hS ⊢
              have hP : va_P (dC, dI) vwCl [(nw, .inl (cn_, 350, .inl fn)), (mo, .inr (12, [.ref nw, .ref kp, .ref ik, .ref mr, .long la_, .long lb_, .ref mw, .long lc_, .int ti_, .int cb_, .long ld_, .long le_, .ref mq, .ref mz, .ref my, .int sm_, .ref mb, .int bl_, .int ta_, .int tl_, .int tk_, .int vl_, .ref mx, .ref mv])), (mr, .inl (cr_, 3, .inl gr__61))] H := hP
              have hD : va_D A [(nw, .inl (cn_, 350, .inl fn)), (mo, .inr (12, [.ref nw, .ref kp, .ref ik, .ref mr, .long la_, .long lb_, .ref mw, .long lc_, .int ti_, .int cb_, .long ld_, .long le_, .ref mq, .ref mz, .ref my, .int sm_, .ref mb, .int bl_, .int ta_, .int tl_, .int tk_, .int vl_, .ref mx, .ref mv])), (mr, .inl (cr_, 3, .inl gr__61))] := hD
              obtain rfl : (-2) = r_59 := hw_60.symm
              have hP9 := hP.sub (ws' := [(mo, .inr (12, [.ref nw, .ref kp, .ref ik, .ref mr, .long la_, .long lb_, .ref mw, .long lc_, .int ti_, .int cb_, .long ld_, .long le_, .ref mq, .ref mz, .ref my, .int sm_, .ref mb, .int bl_, .int ta_, .int tl_, .int tk_, .int vl_, .ref mx, .ref mv])), (nw, .inl (cn_, 350, .inl fn)), (mr, .inl (cr_, 3, .inl gr__61))]) [1, 0, 2] rfl
              have hD9 := hD.sub (ws' := [(mo, .inr (12, [.ref nw, .ref kp, .ref ik, .ref mr, .long la_, .long lb_, .ref mw, .long lc_, .int ti_, .int cb_, .long ld_, .long le_, .ref mq, .ref mz, .ref my, .int sm_, .ref mb, .int bl_, .int ta_, .int tl_, .int tk_, .int vl_, .ref mx, .ref mv])), (nw, .inl (cn_, 350, .inl fn)), (mr, .inl (cr_, 3, .inl gr__61))]) [1, 0, 2] (by decide) rfl
              have hK9 := hK.sub (tys' := [(cn_, .int), (cr_, .int)]) [0, 1] rfl
              exact W.iret (v := (-2)) hx hb hr (fun t ht hW => ⟨⟨(-2), (), rfl, trivial, fn, gr__61, hOn, by rw [ht]; exact hP9, va_K.moved hW.alike hK9, hD9⟩, hS.F ht⟩) hS.2.2 dX12_cause_57
            · exact absurd c_58 (by decide)
      · obtain rfl : 0 = r_5 := (hw_6.trans (if_neg (fun z => hc_7 ((tz_in64 (by first | rfl | decide) rfl (by first | rfl | decide)).mp z)))).symm
        refine lv_if_eq (tgt := 51) hx hb dX12_cause_23 (by decide) (fun c_62 => ?_) (fun c_62 => ?_)
        · refine lv_aload_n hx hb dX12_cause_51 rfl (lv_at hl 0 rfl) ?_
          refine lv_bipush (v := (-2)) hx hb dX12_cause_52 (by decide) ?_
          have hPc := hP.sub (ws' := [(mo, .inr (12, [.ref nw, .ref kp, .ref ik, .ref mr, .long la_, .long lb_, .ref mw, .long lc_, .int ti_, .int cb_, .long ld_, .long le_, .ref mq, .ref mz, .ref my, .int sm_, .ref mb, .int bl_, .int ta_, .int tl_, .int tk_, .int vl_, .ref mx, .ref mv])), (mr, .inl (cr_, 3, .inl fr_))]) [0, 2] rfl
          have hDc := hD.sub (ws' := [(mo, .inr (12, [.ref nw, .ref kp, .ref ik, .ref mr, .long la_, .long lb_, .ref mw, .long lc_, .int ti_, .int cb_, .long ld_, .long le_, .ref mq, .ref mz, .ref my, .int sm_, .ref mb, .int bl_, .int ta_, .int tl_, .int tk_, .int vl_, .ref mx, .ref mv])), (mr, .inl (cr_, 3, .inl fr_))]) [0, 2] (by decide) rfl
          have hKc := hK.sub (tys' := [(cr_, .int)]) [1] rfl
          have hFc := va_free (wc := [(mo, .inr (12, [.ref nw, .ref kp, .ref ik, .ref mr, .long la_, .long lb_, .ref mw, .long lc_, .int ti_, .int cb_, .long ld_, .long le_, .ref mq, .ref mz, .ref my, .int sm_, .ref mb, .int bl_, .int ta_, .int tl_, .int tk_, .int vl_, .ref mx, .ref mv])), (mr, .inl (cr_, 3, .inl fr_))]) hD hS hA [0, 2] rfl
          refine va_calli (va_runV (As := [.int (-2)]) (rest := []) ⟨hx, hb, hml, hown, hts⟩ (m_bad l dC dI mo nw kp ik mr la_ lb_ mw lc_ ti_ cb_ ld_ le_ mq mz my sm_ mb bl_ ta_ tl_ tk_ vl_ mx mv cr_ fr_ (-2) s.heap.size) (cwV 1 hts gX12_cause_X12_bad rfl rfl rfl (by decide +kernel) ⟨Nat.le_of_ble_eq_true rfl, Nat.le_of_ble_eq_true rfl⟩) ⟨fun a U g mk q => by obtain ⟨q0, q1, qP, qK, qD⟩ := q; exact ⟨q0, q1, qP, va_K.moved (u := U) (U := U.calling g mk a) (Vm.Alike.refl U.vm) qK, qD⟩, va_recv hK hP (ci := 12) (q0 := 0) rfl rfl, fun U hU hW => ⟨rfl, by rw [hU], by rw [hU]; exact hPc, va_K.moved hW.alike hKc, hDc.weaken (fun _ _ _ _ => trivial)⟩⟩ rfl rfl hl.1 rfl (lv_room (Nat.le_of_ble_eq_true rfl)) dX12_cause_54 ⟨Nat.le_of_ble_eq_true rfl, Nat.le_of_ble_eq_true rfl⟩) hS (fun q _ h => hFc q h) hFc (fun r_63 u_ t H1 locs ht hvm hw_64 hB hz1 hk1 hS => ?_)
          obtain ⟨gr__65, hP1, hK1, hD1⟩ := hB
          rw [ht] at hP1
          have hK1 := va_K.moved hvm.symm hK1
          obtain ⟨hP, hD⟩ := va_join (wr := [(nw, .inl (cn_, 350, .inl fn))]) (w1 := [(mo, .inr (12, [.ref nw, .ref kp, .ref ik, .ref mr, .long la_, .long lb_, .ref mw, .long lc_, .int ti_, .int cb_, .long ld_, .long le_, .ref mq, .ref mz, .ref my, .int sm_, .ref mb, .int bl_, .int ta_, .int tl_, .int tk_, .int vl_, .ref mx, .ref mv])), (mr, .inl (cr_, 3, .inl gr__65))]) hP hD [0, 2] [1] rfl rfl (by decide) (by decide) hk1 hFc hP1 hD1
          generalize H1 = H at hP hS ⊢
          have hP : va_P (dC, dI) vwCl [(nw, .inl (cn_, 350, .inl fn)), (mo, .inr (12, [.ref nw, .ref kp, .ref ik, .ref mr, .long la_, .long lb_, .ref mw, .long lc_, .int ti_, .int cb_, .long ld_, .long le_, .ref mq, .ref mz, .ref my, .int sm_, .ref mb, .int bl_, .int ta_, .int tl_, .int tk_, .int vl_, .ref mx, .ref mv])), (mr, .inl (cr_, 3, .inl gr__65))] H := hP
          have hD : va_D A [(nw, .inl (cn_, 350, .inl fn)), (mo, .inr (12, [.ref nw, .ref kp, .ref ik, .ref mr, .long la_, .long lb_, .ref mw, .long lc_, .int ti_, .int cb_, .long ld_, .long le_, .ref mq, .ref mz, .ref my, .int sm_, .ref mb, .int bl_, .int ta_, .int tl_, .int tk_, .int vl_, .ref mx, .ref mv])), (mr, .inl (cr_, 3, .inl gr__65))] := hD
          obtain rfl : (-2) = r_63 := hw_64.symm
          have hP9 := hP.sub (ws' := [(mo, .inr (12, [.ref nw, .ref kp, .ref ik, .ref mr, .long la_, .long lb_, .ref mw, .long lc_, .int ti_, .int cb_, .long ld_, .long le_, .ref mq, .ref mz, .ref my, .int sm_, .ref mb, .int bl_, .int ta_, .int tl_, .int tk_, .int vl_, .ref mx, .ref mv])), (nw, .inl (cn_, 350, .inl fn)), (mr, .inl (cr_, 3, .inl gr__65))]) [1, 0, 2] rfl
          have hD9 := hD.sub (ws' := [(mo, .inr (12, [.ref nw, .ref kp, .ref ik, .ref mr, .long la_, .long lb_, .ref mw, .long lc_, .int ti_, .int cb_, .long ld_, .long le_, .ref mq, .ref mz, .ref my, .int sm_, .ref mb, .int bl_, .int ta_, .int tl_, .int tk_, .int vl_, .ref mx, .ref mv])), (nw, .inl (cn_, 350, .inl fn)), (mr, .inl (cr_, 3, .inl gr__65))]) [1, 0, 2] (by decide) rfl
          have hK9 := hK.sub (tys' := [(cn_, .int), (cr_, .int)]) [0, 1] rfl
          exact W.iret (v := (-2)) hx hb hr (fun t ht hW => ⟨⟨(-2), (), rfl, trivial, fn, gr__65, hOn, by rw [ht]; exact hP9, va_K.moved hW.alike hK9, hD9⟩, hS.F ht⟩) hS.2.2 dX12_cause_57
        · exact absurd c_62 (by decide)
  · obtain rfl : 0 = r_1 := (hw_2.trans (if_neg (fun z => hc_3 ((tz_in64 (by first | rfl | decide) rfl (by first | rfl | decide)).mp z)))).symm
    refine lv_if_eq (tgt := 51) hx hb dX12_cause_11 (by decide) (fun c_66 => ?_) (fun c_66 => ?_)
    · refine lv_aload_n hx hb dX12_cause_51 rfl (lv_at hl 0 rfl) ?_
      refine lv_bipush (v := (-2)) hx hb dX12_cause_52 (by decide) ?_
      have hPc := hP.sub (ws' := [(mo, .inr (12, [.ref nw, .ref kp, .ref ik, .ref mr, .long la_, .long lb_, .ref mw, .long lc_, .int ti_, .int cb_, .long ld_, .long le_, .ref mq, .ref mz, .ref my, .int sm_, .ref mb, .int bl_, .int ta_, .int tl_, .int tk_, .int vl_, .ref mx, .ref mv])), (mr, .inl (cr_, 3, .inl fr_))]) [0, 2] rfl
      have hDc := hD.sub (ws' := [(mo, .inr (12, [.ref nw, .ref kp, .ref ik, .ref mr, .long la_, .long lb_, .ref mw, .long lc_, .int ti_, .int cb_, .long ld_, .long le_, .ref mq, .ref mz, .ref my, .int sm_, .ref mb, .int bl_, .int ta_, .int tl_, .int tk_, .int vl_, .ref mx, .ref mv])), (mr, .inl (cr_, 3, .inl fr_))]) [0, 2] (by decide) rfl
      have hKc := hK.sub (tys' := [(cr_, .int)]) [1] rfl
      have hFc := va_free (wc := [(mo, .inr (12, [.ref nw, .ref kp, .ref ik, .ref mr, .long la_, .long lb_, .ref mw, .long lc_, .int ti_, .int cb_, .long ld_, .long le_, .ref mq, .ref mz, .ref my, .int sm_, .ref mb, .int bl_, .int ta_, .int tl_, .int tk_, .int vl_, .ref mx, .ref mv])), (mr, .inl (cr_, 3, .inl fr_))]) hD hS hA [0, 2] rfl
      refine va_calli (va_runV (As := [.int (-2)]) (rest := []) ⟨hx, hb, hml, hown, hts⟩ (m_bad l dC dI mo nw kp ik mr la_ lb_ mw lc_ ti_ cb_ ld_ le_ mq mz my sm_ mb bl_ ta_ tl_ tk_ vl_ mx mv cr_ fr_ (-2) s.heap.size) (cwV 1 hts gX12_cause_X12_bad rfl rfl rfl (by decide +kernel) ⟨Nat.le_of_ble_eq_true rfl, Nat.le_of_ble_eq_true rfl⟩) ⟨fun a U g mk q => by obtain ⟨q0, q1, qP, qK, qD⟩ := q; exact ⟨q0, q1, qP, va_K.moved (u := U) (U := U.calling g mk a) (Vm.Alike.refl U.vm) qK, qD⟩, va_recv hK hP (ci := 12) (q0 := 0) rfl rfl, fun U hU hW => ⟨rfl, by rw [hU], by rw [hU]; exact hPc, va_K.moved hW.alike hKc, hDc.weaken (fun _ _ _ _ => trivial)⟩⟩ rfl rfl hl.1 rfl (lv_room (Nat.le_of_ble_eq_true rfl)) dX12_cause_54 ⟨Nat.le_of_ble_eq_true rfl, Nat.le_of_ble_eq_true rfl⟩) hS (fun q _ h => hFc q h) hFc (fun r_67 u_ t H1 locs ht hvm hw_68 hB hz1 hk1 hS => ?_)
      obtain ⟨gr__69, hP1, hK1, hD1⟩ := hB
      rw [ht] at hP1
      have hK1 := va_K.moved hvm.symm hK1
      obtain ⟨hP, hD⟩ := va_join (wr := [(nw, .inl (cn_, 350, .inl fn))]) (w1 := [(mo, .inr (12, [.ref nw, .ref kp, .ref ik, .ref mr, .long la_, .long lb_, .ref mw, .long lc_, .int ti_, .int cb_, .long ld_, .long le_, .ref mq, .ref mz, .ref my, .int sm_, .ref mb, .int bl_, .int ta_, .int tl_, .int tk_, .int vl_, .ref mx, .ref mv])), (mr, .inl (cr_, 3, .inl gr__69))]) hP hD [0, 2] [1] rfl rfl (by decide) (by decide) hk1 hFc hP1 hD1
      generalize H1 = H at hP hS ⊢
      have hP : va_P (dC, dI) vwCl [(nw, .inl (cn_, 350, .inl fn)), (mo, .inr (12, [.ref nw, .ref kp, .ref ik, .ref mr, .long la_, .long lb_, .ref mw, .long lc_, .int ti_, .int cb_, .long ld_, .long le_, .ref mq, .ref mz, .ref my, .int sm_, .ref mb, .int bl_, .int ta_, .int tl_, .int tk_, .int vl_, .ref mx, .ref mv])), (mr, .inl (cr_, 3, .inl gr__69))] H := hP
      have hD : va_D A [(nw, .inl (cn_, 350, .inl fn)), (mo, .inr (12, [.ref nw, .ref kp, .ref ik, .ref mr, .long la_, .long lb_, .ref mw, .long lc_, .int ti_, .int cb_, .long ld_, .long le_, .ref mq, .ref mz, .ref my, .int sm_, .ref mb, .int bl_, .int ta_, .int tl_, .int tk_, .int vl_, .ref mx, .ref mv])), (mr, .inl (cr_, 3, .inl gr__69))] := hD
      obtain rfl : (-2) = r_67 := hw_68.symm
      have hP9 := hP.sub (ws' := [(mo, .inr (12, [.ref nw, .ref kp, .ref ik, .ref mr, .long la_, .long lb_, .ref mw, .long lc_, .int ti_, .int cb_, .long ld_, .long le_, .ref mq, .ref mz, .ref my, .int sm_, .ref mb, .int bl_, .int ta_, .int tl_, .int tk_, .int vl_, .ref mx, .ref mv])), (nw, .inl (cn_, 350, .inl fn)), (mr, .inl (cr_, 3, .inl gr__69))]) [1, 0, 2] rfl
      have hD9 := hD.sub (ws' := [(mo, .inr (12, [.ref nw, .ref kp, .ref ik, .ref mr, .long la_, .long lb_, .ref mw, .long lc_, .int ti_, .int cb_, .long ld_, .long le_, .ref mq, .ref mz, .ref my, .int sm_, .ref mb, .int bl_, .int ta_, .int tl_, .int tk_, .int vl_, .ref mx, .ref mv])), (nw, .inl (cn_, 350, .inl fn)), (mr, .inl (cr_, 3, .inl gr__69))]) [1, 0, 2] (by decide) rfl
      have hK9 := hK.sub (tys' := [(cn_, .int), (cr_, .int)]) [0, 1] rfl
      exact W.iret (v := (-2)) hx hb hr (fun t ht hW => ⟨⟨(-2), (), rfl, trivial, fn, gr__69, hOn, by rw [ht]; exact hP9, va_K.moved hW.alike hK9, hD9⟩, hS.F ht⟩) hS.2.2 dX12_cause_57
    · exact absurd c_66 (by decide)
theorem dX12_forget_0 : decode cX12_forget 0 = .ok (.aload_n 0, 1) := by decide +kernel
theorem dX12_forget_1 : decode cX12_forget 1 = .ok (.getfield 7, 3) := by decide +kernel
theorem dX12_forget_4 : decode cX12_forget 4 = .ok (.iconst 3, 1) := by decide +kernel
theorem dX12_forget_5 : decode cX12_forget 5 = .ok (.iaload, 1) := by decide +kernel
theorem dX12_forget_6 : decode cX12_forget 6 = .ok (.istore_n 1, 1) := by decide +kernel
theorem dX12_forget_7 : decode cX12_forget 7 = .ok (.aload_n 0, 1) := by decide +kernel
theorem dX12_forget_8 : decode cX12_forget 8 = .ok (.getfield 7, 3) := by decide +kernel
theorem dX12_forget_11 : decode cX12_forget 11 = .ok (.iconst 3, 1) := by decide +kernel
theorem dX12_forget_12 : decode cX12_forget 12 = .ok (.iconst 0, 1) := by decide +kernel
theorem dX12_forget_13 : decode cX12_forget 13 = .ok (.iastore, 1) := by decide +kernel
theorem dX12_forget_14 : decode cX12_forget 14 = .ok (.iload_n 1, 1) := by decide +kernel
theorem dX12_forget_15 : decode cX12_forget 15 = .ok (.ireturn, 1) := by decide +kernel
set_option maxRecDepth 20000 in
theorem iw_m_forget_X12 : ∀ w ∈ wsX120, w ∈ wsX12_forget := by decide +kernel
set_option maxHeartbeats 4000000 in
set_option maxRecDepth 100000 in
theorem m_forget (l : Launch) (dC : Nat → ClassId) (dI : Nat → Nat → Nat) (mo : Nat) (nw : Nat) (kp : Nat) (ik : Nat) (mr : Nat) (la_ : Int64) (lb_ : Int64) (mw : Nat) (lc_ : Int64) (ti_ : Int32) (cb_ : Int32) (ld_ : Int64) (le_ : Int64) (mq : Nat) (mz : Nat) (my : Nat) (sm_ : Int32) (mb : Nat) (bl_ : Int32) (ta_ : Int32) (tl_ : Int32) (tk_ : Int32) (vl_ : Int32) (mx : Nat) (mv : Nat) (cn_ : ClassId) (fn : Nat → Int32) (sz : Nat) (hOn : tz_OK 350 fn) : Met l yX12_forget wsX12_forget ({ frames := 0, cells := 0, slots := 0, locals := 0 }) (va_Pc [.ref mo] (fun U => U.heap.size = sz ∧ va_P (dC, dI) vwCl [(mo, .inr (12, [.ref nw, .ref kp, .ref ik, .ref mr, .long la_, .long lb_, .ref mw, .long lc_, .int ti_, .int cb_, .long ld_, .long le_, .ref mq, .ref mz, .ref my, .int sm_, .ref mb, .int bl_, .int ta_, .int tl_, .int tk_, .int vl_, .ref mx, .ref mv])), (nw, .inl (cn_, 350, .inl fn))] U.heap ∧ va_K (dC, dI) vwCl [(cn_, .int)] U ∧ va_D (fun _ => True) [(mo, .inr (12, [.ref nw, .ref kp, .ref ik, .ref mr, .long la_, .long lb_, .ref mw, .long lc_, .int ti_, .int cb_, .long ld_, .long le_, .ref mq, .ref mz, .ref my, .int sm_, .ref mb, .int bl_, .int ta_, .int tl_, .int tk_, .int vl_, .ref mx, .ref mv])), (nw, .inl (cn_, 350, .inl fn))])) (va_Qi (fun (r : Int32) (_ : Unit) => True) (fun _ t => ∃ (gn : Nat → Int32), (tz_OK 350 gn) ∧ va_P (dC, dI) vwCl [(mo, .inr (12, [.ref nw, .ref kp, .ref ik, .ref mr, .long la_, .long lb_, .ref mw, .long lc_, .int ti_, .int cb_, .long ld_, .long le_, .ref mq, .ref mz, .ref my, .int sm_, .ref mb, .int bl_, .int ta_, .int tl_, .int tk_, .int vl_, .ref mx, .ref mv])), (nw, .inl (cn_, 350, .inl gn))] t.heap ∧ va_K (dC, dI) vwCl [(cn_, .int)] t ∧ va_D (va_A [(mo, .inr (12, [.ref nw, .ref kp, .ref ik, .ref mr, .long la_, .long lb_, .ref mw, .long lc_, .int ti_, .int cb_, .long ld_, .long le_, .ref mq, .ref mz, .ref my, .int sm_, .ref mb, .int bl_, .int ta_, .int tl_, .int tk_, .int vl_, .ref mx, .ref mv])), (nw, .inl (cn_, 350, .inl fn))] sz) [(mo, .inr (12, [.ref nw, .ref kp, .ref ik, .ref mr, .long la_, .long lb_, .ref mw, .long lc_, .int ti_, .int cb_, .long ld_, .long le_, .ref mq, .ref mz, .ref my, .int sm_, .ref mb, .int bl_, .int ta_, .int tl_, .int tk_, .int vl_, .ref mx, .ref mv])), (nw, .inl (cn_, 350, .inl gn))]) (va_A [(mo, .inr (12, [.ref nw, .ref kp, .ref ik, .ref mr, .long la_, .long lb_, .ref mw, .long lc_, .int ti_, .int cb_, .long ld_, .long le_, .ref mq, .ref mz, .ref my, .int sm_, .ref mb, .int bl_, .int ta_, .int tl_, .int tk_, .int vl_, .ref mx, .ref mv])), (nw, .inl (cn_, 350, .inl fn))] sz)) 0 0 (va_A [(mo, .inr (12, [.ref nw, .ref kp, .ref ik, .ref mr, .long la_, .long lb_, .ref mw, .long lc_, .int ti_, .int cb_, .long ld_, .long le_, .ref mq, .ref mz, .ref my, .int sm_, .ref mb, .int bl_, .int ta_, .int tl_, .int tk_, .int vl_, .ref mx, .ref mv])), (nw, .inl (cn_, 350, .inl fn))] sz) := by
  refine Met.ofW (cc := cX12_forget) (maxL := 2) (ret := (some .int)) (by decide) rfl ?_
  intro p e s m args below meth c s₁ B hml hv
  obtain ⟨rfl, hsz, hP, hK, hD0⟩ := hv
  have hx := B.exec
  have hb := B.bytes
  have hr := B.returns
  have hts := atoms_spec (ws := wsX12_forget) B.pre
  have hown : s.vm.findClass RX12 = some m.cls := findClass_of_methodNamed B.named
  have hlocks := B.notSynchronized
  subst hsz
  have hD := hD0.self (sz := s.heap.size)
  generalize hAe : va_A [(mo, .inr (12, [.ref nw, .ref kp, .ref ik, .ref mr, .long la_, .long lb_, .ref mw, .long lc_, .int ti_, .int cb_, .long ld_, .long le_, .ref mq, .ref mz, .ref my, .int sm_, .ref mb, .int bl_, .int ta_, .int tl_, .int tk_, .int vl_, .ref mx, .ref mv])), (nw, .inl (cn_, 350, .inl fn))] s.heap.size = A at hD ⊢
  have hA : ∀ q : Nat, s.heap.size ≤ q → A q := fun q h => by rw [← hAe]; exact Or.inr h
  have hS : va_S A s.heap s.heap [] := va_S.rf
  have hP : va_P (dC, dI) vwCl [(mo, .inr (12, [.ref nw, .ref kp, .ref ik, .ref mr, .long la_, .long lb_, .ref mw, .long lc_, .int ti_, .int cb_, .long ld_, .long le_, .ref mq, .ref mz, .ref my, .int sm_, .ref mb, .int bl_, .int ta_, .int tl_, .int tk_, .int vl_, .ref mx, .ref mv])), (nw, .inl (cn_, 350, .inl fn))] s.heap := hP
  have hl := lv_entry ([.ref mo]) (n := 2) (Nat.le_of_ble_eq_true rfl)
  rw [lg_entry_eq]
  generalize (lg_sl ([.ref mo]) ++ List.replicate (2 - (lg_sl ([.ref mo])).length) Slot.unset).toArray = ls at hl ⊢
  have hl : lv_has ls 2 [(0, .ref mo)] := hl
  refine lv_aload_n hx hb dX12_forget_0 rfl (lv_at hl 0 rfl) ?_
  refine va_get (D := (dC, dI)) (ci := 12) (v := .ref nw) (C := RX12) (T := TX12) (N := 24) hx hb hts iw_m_forget_X12 hown hK hP 0 rfl rfl 0 (by decide) (hts (.fieldLink RX12 7 "ThriceCountedModel" "now" "[I") (by decide +kernel)) (fun _ h9 => h9) rfl dX12_forget_1 ?_
  refine lv_iconst (v := 3) hx hb dX12_forget_4 (by decide) ?_
  refine va_iald hx hb hK hP 1 0 rfl rfl (show ¬ ((3 : Int32) < 0 ∨ 350 ≤ (3 : Int32).toNatClampNeg) by decide) dX12_forget_5 ?_
  obtain ⟨j_1, hj_2, ej_3⟩ := hOn.nat (K := 3) (n := 6) (by omega) (show tz_b 3 = (0, 6) from by decide)
  refine tz_i (nI j_1) ej_3 ?_
  refine lv_istore_n (lv' := [(1, .int (nI j_1)), (0, .ref mo)]) hx hb dX12_forget_6 rfl hl (by decide) rfl (fun ls hl => ?_)
  refine lv_aload_n hx hb dX12_forget_7 rfl (lv_at hl 1 rfl) ?_
  refine va_get (D := (dC, dI)) (ci := 12) (v := .ref nw) (C := RX12) (T := TX12) (N := 24) hx hb hts iw_m_forget_X12 hown hK hP 0 rfl rfl 0 (by decide) (hts (.fieldLink RX12 7 "ThriceCountedModel" "now" "[I") (by decide +kernel)) (fun _ h9 => h9) rfl dX12_forget_8 ?_
  refine lv_iconst (v := 3) hx hb dX12_forget_11 (by decide) ?_
  refine lv_iconst (v := 0) hx hb dX12_forget_12 (by decide) ?_
  refine va_iast hx hb hK hP hD hS 1 0 rfl rfl (show ¬ ((3 : Int32) < 0 ∨ 350 ≤ (3 : Int32).toNatClampNeg) by decide) dX12_forget_13 (fun H locs hP hD hS => ?_)
  have hk_5 : tz_OK 350 (upd fn (Int32.toNatClampNeg 3) 0) := hOn.zero3
  have hk_6 : (upd fn (Int32.toNatClampNeg 3) 0) 3 = nI 0 := tz_upd_eq (K := 3) (by omega)
  generalize (upd fn (Int32.toNatClampNeg 3) 0) = f_4 at hP hD hk_5 hk_6
  have hP : va_P (dC, dI) vwCl [(mo, .inr (12, [.ref nw, .ref kp, .ref ik, .ref mr, .long la_, .long lb_, .ref mw, .long lc_, .int ti_, .int cb_, .long ld_, .long le_, .ref mq, .ref mz, .ref my, .int sm_, .ref mb, .int bl_, .int ta_, .int tl_, .int tk_, .int vl_, .ref mx, .ref mv])), (nw, .inl (cn_, 350, .inl f_4))] H := hP
  have hD : va_D A [(mo, .inr (12, [.ref nw, .ref kp, .ref ik, .ref mr, .long la_, .long lb_, .ref mw, .long lc_, .int ti_, .int cb_, .long ld_, .long le_, .ref mq, .ref mz, .ref my, .int sm_, .ref mb, .int bl_, .int ta_, .int tl_, .int tk_, .int vl_, .ref mx, .ref mv])), (nw, .inl (cn_, 350, .inl f_4))] := hD
  refine lv_iload_n hx hb dX12_forget_14 rfl (lv_at hl 0 rfl) ?_
  have hP9 := hP.sub (ws' := [(mo, .inr (12, [.ref nw, .ref kp, .ref ik, .ref mr, .long la_, .long lb_, .ref mw, .long lc_, .int ti_, .int cb_, .long ld_, .long le_, .ref mq, .ref mz, .ref my, .int sm_, .ref mb, .int bl_, .int ta_, .int tl_, .int tk_, .int vl_, .ref mx, .ref mv])), (nw, .inl (cn_, 350, .inl f_4))]) [0, 1] rfl
  have hD9 := hD.sub (ws' := [(mo, .inr (12, [.ref nw, .ref kp, .ref ik, .ref mr, .long la_, .long lb_, .ref mw, .long lc_, .int ti_, .int cb_, .long ld_, .long le_, .ref mq, .ref mz, .ref my, .int sm_, .ref mb, .int bl_, .int ta_, .int tl_, .int tk_, .int vl_, .ref mx, .ref mv])), (nw, .inl (cn_, 350, .inl f_4))]) [0, 1] (by decide) rfl
  have hK9 := hK.sub (tys' := [(cn_, .int)]) [0] rfl
  exact W.iret (v := (nI j_1)) hx hb hr (fun t ht hW => ⟨⟨(nI j_1), (), rfl, trivial, f_4, hk_5, by rw [ht]; exact hP9, va_K.moved hW.alike hK9, hD9⟩, hS.F ht⟩) hS.2.2 dX12_forget_15
set_option maxRecDepth 20000 in
theorem ggX12_bank_X12_begin : GoodIn wsX12_bank wsX12_begin := goodIn_r _ [5] (by decide +kernel) (by decide +kernel)
set_option maxRecDepth 20000 in
theorem gX12_bank_X12_begin : GoodIn wsX12_bank (va_wsS RX12 55 yX12_begin wsX12_begin) := goodIn_app (goodIn_of _ (by decide +kernel)) ggX12_bank_X12_begin
theorem dX12_bank_0 : decode cX12_bank 0 = .ok (.aload_n 0, 1) := by decide +kernel
theorem dX12_bank_1 : decode cX12_bank 1 = .ok (.getfield 7, 3) := by decide +kernel
theorem dX12_bank_4 : decode cX12_bank 4 = .ok (.iconst 1, 1) := by decide +kernel
theorem dX12_bank_5 : decode cX12_bank 5 = .ok (.iaload, 1) := by decide +kernel
theorem dX12_bank_6 : decode cX12_bank 6 = .ok (.istore_n 1, 1) := by decide +kernel
theorem dX12_bank_7 : decode cX12_bank 7 = .ok (.aload_n 0, 1) := by decide +kernel
theorem dX12_bank_8 : decode cX12_bank 8 = .ok (.getfield 7, 3) := by decide +kernel
theorem dX12_bank_11 : decode cX12_bank 11 = .ok (.invokestatic 55, 3) := by decide +kernel
theorem dX12_bank_14 : decode cX12_bank 14 = .ok (.iload_n 1, 1) := by decide +kernel
theorem dX12_bank_15 : decode cX12_bank 15 = .ok (.ireturn, 1) := by decide +kernel
set_option maxRecDepth 20000 in
theorem iw_m_bank_X12 : ∀ w ∈ wsX120, w ∈ wsX12_bank := by decide +kernel
set_option maxHeartbeats 4000000 in
set_option maxRecDepth 100000 in
theorem m_bank (l : Launch) (dC : Nat → ClassId) (dI : Nat → Nat → Nat) (mo : Nat) (nw : Nat) (kp : Nat) (ik : Nat) (mr : Nat) (la_ : Int64) (lb_ : Int64) (mw : Nat) (lc_ : Int64) (ti_ : Int32) (cb_ : Int32) (ld_ : Int64) (le_ : Int64) (mq : Nat) (mz : Nat) (my : Nat) (sm_ : Int32) (mb : Nat) (bl_ : Int32) (ta_ : Int32) (tl_ : Int32) (tk_ : Int32) (vl_ : Int32) (mx : Nat) (mv : Nat) (cn_ : ClassId) (fn : Nat → Int32) (sz : Nat) (hOn : tz_OK 350 fn) : Met l yX12_bank wsX12_bank ({ frames := 1, cells := 0, slots := 0, locals := 21 }) (va_Pc [.ref mo] (fun U => U.heap.size = sz ∧ va_P (dC, dI) vwCl [(mo, .inr (12, [.ref nw, .ref kp, .ref ik, .ref mr, .long la_, .long lb_, .ref mw, .long lc_, .int ti_, .int cb_, .long ld_, .long le_, .ref mq, .ref mz, .ref my, .int sm_, .ref mb, .int bl_, .int ta_, .int tl_, .int tk_, .int vl_, .ref mx, .ref mv])), (nw, .inl (cn_, 350, .inl fn))] U.heap ∧ va_K (dC, dI) vwCl [(cn_, .int)] U ∧ va_D (fun _ => True) [(mo, .inr (12, [.ref nw, .ref kp, .ref ik, .ref mr, .long la_, .long lb_, .ref mw, .long lc_, .int ti_, .int cb_, .long ld_, .long le_, .ref mq, .ref mz, .ref my, .int sm_, .ref mb, .int bl_, .int ta_, .int tl_, .int tk_, .int vl_, .ref mx, .ref mv])), (nw, .inl (cn_, 350, .inl fn))])) (va_Qi (fun (r : Int32) (_ : Unit) => True) (fun _ t => ∃ (gn : Nat → Int32), (tz_OK 350 gn) ∧ va_P (dC, dI) vwCl [(mo, .inr (12, [.ref nw, .ref kp, .ref ik, .ref mr, .long la_, .long lb_, .ref mw, .long lc_, .int ti_, .int cb_, .long ld_, .long le_, .ref mq, .ref mz, .ref my, .int sm_, .ref mb, .int bl_, .int ta_, .int tl_, .int tk_, .int vl_, .ref mx, .ref mv])), (nw, .inl (cn_, 350, .inl gn))] t.heap ∧ va_K (dC, dI) vwCl [(cn_, .int)] t ∧ va_D (va_A [(mo, .inr (12, [.ref nw, .ref kp, .ref ik, .ref mr, .long la_, .long lb_, .ref mw, .long lc_, .int ti_, .int cb_, .long ld_, .long le_, .ref mq, .ref mz, .ref my, .int sm_, .ref mb, .int bl_, .int ta_, .int tl_, .int tk_, .int vl_, .ref mx, .ref mv])), (nw, .inl (cn_, 350, .inl fn))] sz) [(mo, .inr (12, [.ref nw, .ref kp, .ref ik, .ref mr, .long la_, .long lb_, .ref mw, .long lc_, .int ti_, .int cb_, .long ld_, .long le_, .ref mq, .ref mz, .ref my, .int sm_, .ref mb, .int bl_, .int ta_, .int tl_, .int tk_, .int vl_, .ref mx, .ref mv])), (nw, .inl (cn_, 350, .inl gn))]) (va_A [(mo, .inr (12, [.ref nw, .ref kp, .ref ik, .ref mr, .long la_, .long lb_, .ref mw, .long lc_, .int ti_, .int cb_, .long ld_, .long le_, .ref mq, .ref mz, .ref my, .int sm_, .ref mb, .int bl_, .int ta_, .int tl_, .int tk_, .int vl_, .ref mx, .ref mv])), (nw, .inl (cn_, 350, .inl fn))] sz)) 0 0 (va_A [(mo, .inr (12, [.ref nw, .ref kp, .ref ik, .ref mr, .long la_, .long lb_, .ref mw, .long lc_, .int ti_, .int cb_, .long ld_, .long le_, .ref mq, .ref mz, .ref my, .int sm_, .ref mb, .int bl_, .int ta_, .int tl_, .int tk_, .int vl_, .ref mx, .ref mv])), (nw, .inl (cn_, 350, .inl fn))] sz) := by
  refine Met.ofW (cc := cX12_bank) (maxL := 2) (ret := (some .int)) (by decide) rfl ?_
  intro p e s m args below meth c s₁ B hml hv
  obtain ⟨rfl, hsz, hP, hK, hD0⟩ := hv
  have hx := B.exec
  have hb := B.bytes
  have hr := B.returns
  have hts := atoms_spec (ws := wsX12_bank) B.pre
  have hown : s.vm.findClass RX12 = some m.cls := findClass_of_methodNamed B.named
  have hlocks := B.notSynchronized
  subst hsz
  have hD := hD0.self (sz := s.heap.size)
  generalize hAe : va_A [(mo, .inr (12, [.ref nw, .ref kp, .ref ik, .ref mr, .long la_, .long lb_, .ref mw, .long lc_, .int ti_, .int cb_, .long ld_, .long le_, .ref mq, .ref mz, .ref my, .int sm_, .ref mb, .int bl_, .int ta_, .int tl_, .int tk_, .int vl_, .ref mx, .ref mv])), (nw, .inl (cn_, 350, .inl fn))] s.heap.size = A at hD ⊢
  have hA : ∀ q : Nat, s.heap.size ≤ q → A q := fun q h => by rw [← hAe]; exact Or.inr h
  have hS : va_S A s.heap s.heap [] := va_S.rf
  have hP : va_P (dC, dI) vwCl [(mo, .inr (12, [.ref nw, .ref kp, .ref ik, .ref mr, .long la_, .long lb_, .ref mw, .long lc_, .int ti_, .int cb_, .long ld_, .long le_, .ref mq, .ref mz, .ref my, .int sm_, .ref mb, .int bl_, .int ta_, .int tl_, .int tk_, .int vl_, .ref mx, .ref mv])), (nw, .inl (cn_, 350, .inl fn))] s.heap := hP
  have hl := lv_entry ([.ref mo]) (n := 2) (Nat.le_of_ble_eq_true rfl)
  rw [lg_entry_eq]
  generalize (lg_sl ([.ref mo]) ++ List.replicate (2 - (lg_sl ([.ref mo])).length) Slot.unset).toArray = ls at hl ⊢
  have hl : lv_has ls 2 [(0, .ref mo)] := hl
  refine lv_aload_n hx hb dX12_bank_0 rfl (lv_at hl 0 rfl) ?_
  refine va_get (D := (dC, dI)) (ci := 12) (v := .ref nw) (C := RX12) (T := TX12) (N := 24) hx hb hts iw_m_bank_X12 hown hK hP 0 rfl rfl 0 (by decide) (hts (.fieldLink RX12 7 "ThriceCountedModel" "now" "[I") (by decide +kernel)) (fun _ h9 => h9) rfl dX12_bank_1 ?_
  refine lv_iconst (v := 1) hx hb dX12_bank_4 (by decide) ?_
  refine va_iald hx hb hK hP 1 0 rfl rfl (show ¬ ((1 : Int32) < 0 ∨ 350 ≤ (1 : Int32).toNatClampNeg) by decide) dX12_bank_5 ?_
  obtain ⟨j_1, hj_2, ej_3⟩ := hOn.nat (K := 1) (n := 5) (by omega) (show tz_b 1 = (0, 5) from by decide)
  refine tz_i (nI j_1) ej_3 ?_
  refine lv_istore_n (lv' := [(1, .int (nI j_1)), (0, .ref mo)]) hx hb dX12_bank_6 rfl hl (by decide) rfl (fun ls hl => ?_)
  refine lv_aload_n hx hb dX12_bank_7 rfl (lv_at hl 1 rfl) ?_
  refine va_get (D := (dC, dI)) (ci := 12) (v := .ref nw) (C := RX12) (T := TX12) (N := 24) hx hb hts iw_m_bank_X12 hown hK hP 0 rfl rfl 0 (by decide) (hts (.fieldLink RX12 7 "ThriceCountedModel" "now" "[I") (by decide +kernel)) (fun _ h9 => h9) rfl dX12_bank_8 ?_
  have hPc := hP.sub (ws' := [(nw, .inl (cn_, 350, .inl fn))]) [1] rfl
  have hDc := hD.sub (ws' := [(nw, .inl (cn_, 350, .inl fn))]) [1] (by decide) rfl
  have hKc := hK.sub (tys' := [(cn_, .int)]) [0] rfl
  have hFc := va_free (wc := [(nw, .inl (cn_, 350, .inl fn))]) hD hS hA [1] rfl
  refine va_callv (va_runS (As := [.ref nw]) (rest := []) ⟨hx, hb, hml, hown, hts⟩ (m_begin_350 l dC dI nw cn_ fn s.heap.size hOn) (va_cwS 1 hts gX12_bank_X12_begin rfl rfl rfl (by decide +kernel) ⟨Nat.le_of_ble_eq_true rfl, Nat.le_of_ble_eq_true rfl⟩) ⟨fun a U g mk q => by obtain ⟨q0, q1, qP, qK, qD⟩ := q; exact ⟨q0, q1, qP, va_K.moved (u := U) (U := U.calling g mk a) (Vm.Alike.refl U.vm) qK, qD⟩, fun U hU hW => ⟨rfl, by rw [hU], by rw [hU]; exact hPc, va_K.moved hW.alike hKc, hDc.weaken (fun _ _ _ _ => trivial)⟩⟩ rfl rfl hl.1 rfl (lv_room (Nat.le_of_ble_eq_true rfl)) dX12_bank_11 ⟨Nat.le_of_ble_eq_true rfl, Nat.le_of_ble_eq_true rfl⟩) hS (fun q _ h => hFc q h) hFc (fun u_ t H1 locs ht hvm hw_5 hB hz1 hk1 hS => ?_)
  obtain ⟨gf_6, hf_7, hP1, hK1, hD1⟩ := hB
  rw [ht] at hP1
  have hK1 := va_K.moved hvm.symm hK1
  obtain ⟨hP, hD⟩ := va_join (wr := [(mo, .inr (12, [.ref nw, .ref kp, .ref ik, .ref mr, .long la_, .long lb_, .ref mw, .long lc_, .int ti_, .int cb_, .long ld_, .long le_, .ref mq, .ref mz, .ref my, .int sm_, .ref mb, .int bl_, .int ta_, .int tl_, .int tk_, .int vl_, .ref mx, .ref mv]))]) (w1 := [(nw, .inl (cn_, 350, .inl gf_6))]) hP hD [1] [0] rfl rfl (by decide) (by decide) hk1 hFc hP1 hD1
  generalize H1 = H at hP hS ⊢
  have hP : va_P (dC, dI) vwCl [(mo, .inr (12, [.ref nw, .ref kp, .ref ik, .ref mr, .long la_, .long lb_, .ref mw, .long lc_, .int ti_, .int cb_, .long ld_, .long le_, .ref mq, .ref mz, .ref my, .int sm_, .ref mb, .int bl_, .int ta_, .int tl_, .int tk_, .int vl_, .ref mx, .ref mv])), (nw, .inl (cn_, 350, .inl gf_6))] H := hP
  have hD : va_D A [(mo, .inr (12, [.ref nw, .ref kp, .ref ik, .ref mr, .long la_, .long lb_, .ref mw, .long lc_, .int ti_, .int cb_, .long ld_, .long le_, .ref mq, .ref mz, .ref my, .int sm_, .ref mb, .int bl_, .int ta_, .int tl_, .int tk_, .int vl_, .ref mx, .ref mv])), (nw, .inl (cn_, 350, .inl gf_6))] := hD
  refine lv_iload_n hx hb dX12_bank_14 rfl (lv_at hl 0 rfl) ?_
  have hP9 := hP.sub (ws' := [(mo, .inr (12, [.ref nw, .ref kp, .ref ik, .ref mr, .long la_, .long lb_, .ref mw, .long lc_, .int ti_, .int cb_, .long ld_, .long le_, .ref mq, .ref mz, .ref my, .int sm_, .ref mb, .int bl_, .int ta_, .int tl_, .int tk_, .int vl_, .ref mx, .ref mv])), (nw, .inl (cn_, 350, .inl gf_6))]) [0, 1] rfl
  have hD9 := hD.sub (ws' := [(mo, .inr (12, [.ref nw, .ref kp, .ref ik, .ref mr, .long la_, .long lb_, .ref mw, .long lc_, .int ti_, .int cb_, .long ld_, .long le_, .ref mq, .ref mz, .ref my, .int sm_, .ref mb, .int bl_, .int ta_, .int tl_, .int tk_, .int vl_, .ref mx, .ref mv])), (nw, .inl (cn_, 350, .inl gf_6))]) [0, 1] (by decide) rfl
  have hK9 := hK.sub (tys' := [(cn_, .int)]) [0] rfl
  exact W.iret (v := (nI j_1)) hx hb hr (fun t ht hW => ⟨⟨(nI j_1), (), rfl, trivial, gf_6, hf_7, by rw [ht]; exact hP9, va_K.moved hW.alike hK9, hD9⟩, hS.F ht⟩) hS.2.2 dX12_bank_15
set_option maxRecDepth 20000 in
theorem ggX12_clerk_X12_in : GoodIn wsX12_clerk wsX12_in := goodIn_r _ [6] (by decide +kernel) (by decide +kernel)
set_option maxRecDepth 20000 in
theorem gX12_clerk_X12_in : GoodIn wsX12_clerk (va_wsS RX12 49 yX12_in wsX12_in) := goodIn_app (goodIn_of _ (by decide +kernel)) ggX12_clerk_X12_in
set_option maxRecDepth 20000 in
theorem ggX12_clerk_X12_layClerk : GoodIn wsX12_clerk wsX12_layClerk := goodIn_r _ [18] (by decide +kernel) (by decide +kernel)
set_option maxRecDepth 20000 in
theorem gX12_clerk_X12_layClerk : GoodIn wsX12_clerk (va_wsS RX12 69 yX12_layClerk wsX12_layClerk) := goodIn_app (goodIn_of _ (by decide +kernel)) ggX12_clerk_X12_layClerk
set_option maxRecDepth 20000 in
theorem ggX12_clerk_X12_full : GoodIn wsX12_clerk wsX12_full := goodIn_r _ [15, 11, 19, 20, 21, 22, 23, 24, 25, 26, 27, 28, 29, 30, 31, 32, 33, 34, 35, 36, 37, 38, 39, 40, 41, 42] (by decide +kernel) (by decide +kernel)
set_option maxRecDepth 20000 in
theorem gX12_clerk_X12_full : GoodIn wsX12_clerk (wsV RX12 65 RX12 yX12_full wsX12_full) := goodIn_app (goodIn_of _ (by decide +kernel)) ggX12_clerk_X12_full
set_option maxRecDepth 20000 in
theorem ggX12_clerk_X12_bad : GoodIn wsX12_clerk wsX12_bad := goodIn_r _ [10, 11, 19, 20, 21, 22, 23, 24, 25, 26, 27, 28, 29, 30, 31, 32, 33, 34, 35, 36, 37, 38, 39, 40, 41, 42] (by decide +kernel) (by decide +kernel)
set_option maxRecDepth 20000 in
theorem gX12_clerk_X12_bad : GoodIn wsX12_clerk (wsV RX12 61 RX12 yX12_bad wsX12_bad) := goodIn_app (goodIn_of _ (by decide +kernel)) ggX12_clerk_X12_bad
theorem dX12_clerk_0 : decode cX12_clerk 0 = .ok (.iload_n 1, 1) := by decide +kernel
theorem dX12_clerk_1 : decode cX12_clerk 1 = .ok (.i2l, 1) := by decide +kernel
theorem dX12_clerk_2 : decode cX12_clerk 2 = .ok (.lconst 0, 1) := by decide +kernel
theorem dX12_clerk_3 : decode cX12_clerk 3 = .ok (.ldc2_w 59, 3) := by decide +kernel
theorem dX12_clerk_6 : decode cX12_clerk 6 = .ok (.invokestatic 49, 3) := by decide +kernel
theorem dX12_clerk_9 : decode cX12_clerk 9 = .ok (.ifCond .ne 10, 3) := by decide +kernel
theorem dX12_clerk_19 : decode cX12_clerk 19 = .ok (.aload_n 0, 1) := by decide +kernel
theorem dX12_clerk_20 : decode cX12_clerk 20 = .ok (.getfield 7, 3) := by decide +kernel
theorem dX12_clerk_23 : decode cX12_clerk 23 = .ok (.iconst 0, 1) := by decide +kernel
theorem dX12_clerk_24 : decode cX12_clerk 24 = .ok (.iaload, 1) := by decide +kernel
theorem dX12_clerk_25 : decode cX12_clerk 25 = .ok (.iconst 5, 1) := by decide +kernel
theorem dX12_clerk_26 : decode cX12_clerk 26 = .ok (.if_icmp .ne 8, 3) := by decide +kernel
theorem dX12_clerk_34 : decode cX12_clerk 34 = .ok (.aload_n 0, 1) := by decide +kernel
theorem dX12_clerk_35 : decode cX12_clerk 35 = .ok (.getfield 7, 3) := by decide +kernel
theorem dX12_clerk_38 : decode cX12_clerk 38 = .ok (.iload_n 1, 1) := by decide +kernel
theorem dX12_clerk_39 : decode cX12_clerk 39 = .ok (.invokestatic 69, 3) := by decide +kernel
theorem dX12_clerk_42 : decode cX12_clerk 42 = .ok (.aload_n 0, 1) := by decide +kernel
theorem dX12_clerk_43 : decode cX12_clerk 43 = .ok (.getfield 7, 3) := by decide +kernel
theorem dX12_clerk_46 : decode cX12_clerk 46 = .ok (.iconst 0, 1) := by decide +kernel
theorem dX12_clerk_47 : decode cX12_clerk 47 = .ok (.iaload, 1) := by decide +kernel
theorem dX12_clerk_48 : decode cX12_clerk 48 = .ok (.iconst 1, 1) := by decide +kernel
theorem dX12_clerk_49 : decode cX12_clerk 49 = .ok (.isub, 1) := by decide +kernel
theorem dX12_clerk_50 : decode cX12_clerk 50 = .ok (.ireturn, 1) := by decide +kernel
theorem dX12_clerk_29 : decode cX12_clerk 29 = .ok (.aload_n 0, 1) := by decide +kernel
theorem dX12_clerk_30 : decode cX12_clerk 30 = .ok (.invokevirtual 65, 3) := by decide +kernel
theorem dX12_clerk_33 : decode cX12_clerk 33 = .ok (.ireturn, 1) := by decide +kernel
theorem dX12_clerk_12 : decode cX12_clerk 12 = .ok (.aload_n 0, 1) := by decide +kernel
theorem dX12_clerk_13 : decode cX12_clerk 13 = .ok (.bipush (-2), 2) := by decide +kernel
theorem dX12_clerk_15 : decode cX12_clerk 15 = .ok (.invokevirtual 61, 3) := by decide +kernel
theorem dX12_clerk_18 : decode cX12_clerk 18 = .ok (.ireturn, 1) := by decide +kernel
set_option maxRecDepth 20000 in
theorem iw_m_clerk_X12 : ∀ w ∈ wsX120, w ∈ wsX12_clerk := by decide +kernel
set_option maxHeartbeats 4000000 in
set_option maxRecDepth 100000 in
theorem m_clerk (l : Launch) (dC : Nat → ClassId) (dI : Nat → Nat → Nat) (mo : Nat) (nw : Nat) (kp : Nat) (ik : Nat) (mr : Nat) (la_ : Int64) (lb_ : Int64) (mw : Nat) (lc_ : Int64) (ti_ : Int32) (cb_ : Int32) (ld_ : Int64) (le_ : Int64) (mq : Nat) (mz : Nat) (my : Nat) (sm_ : Int32) (mb : Nat) (bl_ : Int32) (ta_ : Int32) (tl_ : Int32) (tk_ : Int32) (vl_ : Int32) (mx : Nat) (mv : Nat) (cn_ : ClassId) (fn : Nat → Int32) (cr_ : ClassId) (fr_ : Nat → Int32) (na : Int32) (sz : Nat) (hOn : tz_OK 350 fn) : Met l yX12_clerk wsX12_clerk ({ frames := 1, cells := 0, slots := 0, locals := 25 }) (va_Pc [.ref mo, .int na] (fun U => U.heap.size = sz ∧ va_P (dC, dI) vwCl [(mo, .inr (12, [.ref nw, .ref kp, .ref ik, .ref mr, .long la_, .long lb_, .ref mw, .long lc_, .int ti_, .int cb_, .long ld_, .long le_, .ref mq, .ref mz, .ref my, .int sm_, .ref mb, .int bl_, .int ta_, .int tl_, .int tk_, .int vl_, .ref mx, .ref mv])), (nw, .inl (cn_, 350, .inl fn)), (mr, .inl (cr_, 3, .inl fr_))] U.heap ∧ va_K (dC, dI) vwCl [(cn_, .int), (cr_, .int)] U ∧ va_D (fun _ => True) [(mo, .inr (12, [.ref nw, .ref kp, .ref ik, .ref mr, .long la_, .long lb_, .ref mw, .long lc_, .int ti_, .int cb_, .long ld_, .long le_, .ref mq, .ref mz, .ref my, .int sm_, .ref mb, .int bl_, .int ta_, .int tl_, .int tk_, .int vl_, .ref mx, .ref mv])), (nw, .inl (cn_, 350, .inl fn)), (mr, .inl (cr_, 3, .inl fr_))])) (va_Qi (fun (r : Int32) (_ : Unit) => True) (fun _ t => ∃ (gn : Nat → Int32) (gr_ : Nat → Int32), (tz_OK 350 gn) ∧ va_P (dC, dI) vwCl [(mo, .inr (12, [.ref nw, .ref kp, .ref ik, .ref mr, .long la_, .long lb_, .ref mw, .long lc_, .int ti_, .int cb_, .long ld_, .long le_, .ref mq, .ref mz, .ref my, .int sm_, .ref mb, .int bl_, .int ta_, .int tl_, .int tk_, .int vl_, .ref mx, .ref mv])), (nw, .inl (cn_, 350, .inl gn)), (mr, .inl (cr_, 3, .inl gr_))] t.heap ∧ va_K (dC, dI) vwCl [(cn_, .int), (cr_, .int)] t ∧ va_D (va_A [(mo, .inr (12, [.ref nw, .ref kp, .ref ik, .ref mr, .long la_, .long lb_, .ref mw, .long lc_, .int ti_, .int cb_, .long ld_, .long le_, .ref mq, .ref mz, .ref my, .int sm_, .ref mb, .int bl_, .int ta_, .int tl_, .int tk_, .int vl_, .ref mx, .ref mv])), (nw, .inl (cn_, 350, .inl fn)), (mr, .inl (cr_, 3, .inl fr_))] sz) [(mo, .inr (12, [.ref nw, .ref kp, .ref ik, .ref mr, .long la_, .long lb_, .ref mw, .long lc_, .int ti_, .int cb_, .long ld_, .long le_, .ref mq, .ref mz, .ref my, .int sm_, .ref mb, .int bl_, .int ta_, .int tl_, .int tk_, .int vl_, .ref mx, .ref mv])), (nw, .inl (cn_, 350, .inl gn)), (mr, .inl (cr_, 3, .inl gr_))]) (va_A [(mo, .inr (12, [.ref nw, .ref kp, .ref ik, .ref mr, .long la_, .long lb_, .ref mw, .long lc_, .int ti_, .int cb_, .long ld_, .long le_, .ref mq, .ref mz, .ref my, .int sm_, .ref mb, .int bl_, .int ta_, .int tl_, .int tk_, .int vl_, .ref mx, .ref mv])), (nw, .inl (cn_, 350, .inl fn)), (mr, .inl (cr_, 3, .inl fr_))] sz)) 0 0 (va_A [(mo, .inr (12, [.ref nw, .ref kp, .ref ik, .ref mr, .long la_, .long lb_, .ref mw, .long lc_, .int ti_, .int cb_, .long ld_, .long le_, .ref mq, .ref mz, .ref my, .int sm_, .ref mb, .int bl_, .int ta_, .int tl_, .int tk_, .int vl_, .ref mx, .ref mv])), (nw, .inl (cn_, 350, .inl fn)), (mr, .inl (cr_, 3, .inl fr_))] sz) := by
  refine Met.ofW (cc := cX12_clerk) (maxL := 2) (ret := (some .int)) (by decide) rfl ?_
  intro p e s m args below meth c s₁ B hml hv
  obtain ⟨rfl, hsz, hP, hK, hD0⟩ := hv
  have hx := B.exec
  have hb := B.bytes
  have hr := B.returns
  have hts := atoms_spec (ws := wsX12_clerk) B.pre
  have hown : s.vm.findClass RX12 = some m.cls := findClass_of_methodNamed B.named
  have hlocks := B.notSynchronized
  subst hsz
  have hD := hD0.self (sz := s.heap.size)
  generalize hAe : va_A [(mo, .inr (12, [.ref nw, .ref kp, .ref ik, .ref mr, .long la_, .long lb_, .ref mw, .long lc_, .int ti_, .int cb_, .long ld_, .long le_, .ref mq, .ref mz, .ref my, .int sm_, .ref mb, .int bl_, .int ta_, .int tl_, .int tk_, .int vl_, .ref mx, .ref mv])), (nw, .inl (cn_, 350, .inl fn)), (mr, .inl (cr_, 3, .inl fr_))] s.heap.size = A at hD ⊢
  have hA : ∀ q : Nat, s.heap.size ≤ q → A q := fun q h => by rw [← hAe]; exact Or.inr h
  have hS : va_S A s.heap s.heap [] := va_S.rf
  have hP : va_P (dC, dI) vwCl [(mo, .inr (12, [.ref nw, .ref kp, .ref ik, .ref mr, .long la_, .long lb_, .ref mw, .long lc_, .int ti_, .int cb_, .long ld_, .long le_, .ref mq, .ref mz, .ref my, .int sm_, .ref mb, .int bl_, .int ta_, .int tl_, .int tk_, .int vl_, .ref mx, .ref mv])), (nw, .inl (cn_, 350, .inl fn)), (mr, .inl (cr_, 3, .inl fr_))] s.heap := hP
  have hl := lv_entry ([.ref mo, .int na]) (n := 2) (Nat.le_of_ble_eq_true rfl)
  rw [lg_entry_eq]
  generalize (lg_sl ([.ref mo, .int na]) ++ List.replicate (2 - (lg_sl ([.ref mo, .int na])).length) Slot.unset).toArray = ls at hl ⊢
  have hl : lv_has ls 2 [(0, .ref mo), (1, .int na)] := hl
  refine lv_iload_n hx hb dX12_clerk_0 rfl (lv_at hl 1 rfl) ?_
  refine lv_i2l (v := na.toInt64) hx hb dX12_clerk_1 rfl ?_
  refine lv_lconst (v := 0) hx hb dX12_clerk_2 (by decide) ?_
  refine lv_ldc2 hx hb hown (hts (.constantLong RX12 59 (10)) (by decide +kernel)) dX12_clerk_3 ?_
  refine vp_callSi (va_Run.run (va_runS (As := [.long na.toInt64, .long 0, .long 10]) (rest := []) ⟨hx, hb, hml, hown, hts⟩ (m_in l dC dI na.toInt64 0 10) (va_cwS 3 hts gX12_clerk_X12_in rfl rfl rfl (by decide +kernel) ⟨Nat.le_of_ble_eq_true rfl, Nat.le_of_ble_eq_true rfl⟩) ⟨fun a U g mk q => ⟨q.1, trivial⟩, fun U hU hW => ⟨rfl, trivial⟩⟩ rfl rfl hl.1 rfl (lv_room (Nat.le_of_ble_eq_true rfl)) dX12_clerk_6 ⟨Nat.le_of_ble_eq_true rfl, Nat.le_of_ble_eq_true rfl⟩)) (fun r_1 hw_2 => ?_)
  by_cases hc_3 : 0 ≤ na ∧ na ≤ 10
  · obtain rfl : 1 = r_1 := (hw_2.trans (if_pos ((tz_in64 (by first | rfl | decide) rfl (by first | rfl | decide)).mpr hc_3))).symm
    obtain ⟨j_4, hj_5, hj_6, rfl⟩ := tz_pickL (l := 0) (n := 10) hc_3 (by decide) (by decide)
    refine lv_if_ne (tgt := 19) hx hb dX12_clerk_9 (by decide) (fun c_7 => ?_) (fun c_7 => ?_)
    · refine lv_aload_n hx hb dX12_clerk_19 rfl (lv_at hl 0 rfl) ?_
      refine va_get (D := (dC, dI)) (ci := 12) (v := .ref nw) (C := RX12) (T := TX12) (N := 24) hx hb hts iw_m_clerk_X12 hown hK hP 0 rfl rfl 0 (by decide) (hts (.fieldLink RX12 7 "ThriceCountedModel" "now" "[I") (by decide +kernel)) (fun _ h9 => h9) rfl dX12_clerk_20 ?_
      refine lv_iconst (v := 0) hx hb dX12_clerk_23 (by decide) ?_
      refine va_iald hx hb hK hP 1 0 rfl rfl (show ¬ ((0 : Int32) < 0 ∨ 350 ≤ (0 : Int32).toNatClampNeg) by decide) dX12_clerk_24 ?_
      obtain ⟨j_8, hj_9, ej_10⟩ := hOn.nat (K := 0) (n := 5) (by omega) (show tz_b 0 = (0, 5) from by decide)
      refine tz_i (nI j_8) ej_10 ?_
      refine lv_iconst (v := 5) hx hb dX12_clerk_25 (by decide) ?_
      refine lv_icmp_ne (tgt := 34) hx hb dX12_clerk_26 (by decide) (fun c_11 => ?_) (fun c_11 => ?_)
      · have hn_12 : ¬ j_8 = 5 := fun q => c_11 ((nI_eq (a := j_8) (b := 5) (by omega) (by omega)).mpr q)
        refine lv_aload_n hx hb dX12_clerk_34 rfl (lv_at hl 0 rfl) ?_
        refine va_get (D := (dC, dI)) (ci := 12) (v := .ref nw) (C := RX12) (T := TX12) (N := 24) hx hb hts iw_m_clerk_X12 hown hK hP 0 rfl rfl 0 (by decide) (hts (.fieldLink RX12 7 "ThriceCountedModel" "now" "[I") (by decide +kernel)) (fun _ h9 => h9) rfl dX12_clerk_35 ?_
        refine lv_iload_n hx hb dX12_clerk_38 rfl (lv_at hl 1 rfl) ?_
        have hPc := hP.sub (ws' := [(nw, .inl (cn_, 350, .inl fn))]) [1] rfl
        have hDc := hD.sub (ws' := [(nw, .inl (cn_, 350, .inl fn))]) [1] (by decide) rfl
        have hKc := hK.sub (tys' := [(cn_, .int)]) [0] rfl
        have hFc := va_free (wc := [(nw, .inl (cn_, 350, .inl fn))]) hD hS hA [1] rfl
        refine va_callv (va_runS (As := [.ref nw, .int (nI j_4)]) (rest := []) ⟨hx, hb, hml, hown, hts⟩ (m_layClerk_350 l dC dI nw cn_ fn j_4 j_8 s.heap.size hOn (by omega) (by omega) ej_10) (va_cwS 2 hts gX12_clerk_X12_layClerk rfl rfl rfl (by decide +kernel) ⟨Nat.le_of_ble_eq_true rfl, Nat.le_of_ble_eq_true rfl⟩) ⟨fun a U g mk q => by obtain ⟨q0, q1, qP, qK, qD⟩ := q; exact ⟨q0, q1, qP, va_K.moved (u := U) (U := U.calling g mk a) (Vm.Alike.refl U.vm) qK, qD⟩, fun U hU hW => ⟨rfl, by rw [hU], by rw [hU]; exact hPc, va_K.moved hW.alike hKc, hDc.weaken (fun _ _ _ _ => trivial)⟩⟩ rfl rfl hl.1 rfl (lv_room (Nat.le_of_ble_eq_true rfl)) dX12_clerk_39 ⟨Nat.le_of_ble_eq_true rfl, Nat.le_of_ble_eq_true rfl⟩) hS (fun q _ h => hFc q h) hFc (fun u_ t H1 locs ht hvm hw_14 hB hz1 hk1 hS => ?_)
        obtain ⟨gf_15, hf_16, hP1, hK1, hD1⟩ := hB
        rw [ht] at hP1
        have hK1 := va_K.moved hvm.symm hK1
        obtain ⟨hP, hD⟩ := va_join (wr := [(mo, .inr (12, [.ref nw, .ref kp, .ref ik, .ref mr, .long la_, .long lb_, .ref mw, .long lc_, .int ti_, .int cb_, .long ld_, .long le_, .ref mq, .ref mz, .ref my, .int sm_, .ref mb, .int bl_, .int ta_, .int tl_, .int tk_, .int vl_, .ref mx, .ref mv])), (mr, .inl (cr_, 3, .inl fr_))]) (w1 := [(nw, .inl (cn_, 350, .inl gf_15))]) hP hD [1] [0, 2] rfl rfl (by decide) (by decide) hk1 hFc hP1 hD1
        generalize H1 = H at hP hS ⊢
        have hP : va_P (dC, dI) vwCl [(mo, .inr (12, [.ref nw, .ref kp, .ref ik, .ref mr, .long la_, .long lb_, .ref mw, .long lc_, .int ti_, .int cb_, .long ld_, .long le_, .ref mq, .ref mz, .ref my, .int sm_, .ref mb, .int bl_, .int ta_, .int tl_, .int tk_, .int vl_, .ref mx, .ref mv])), (mr, .inl (cr_, 3, .inl fr_)), (nw, .inl (cn_, 350, .inl gf_15))] H := hP
        have hD : va_D A [(mo, .inr (12, [.ref nw, .ref kp, .ref ik, .ref mr, .long la_, .long lb_, .ref mw, .long lc_, .int ti_, .int cb_, .long ld_, .long le_, .ref mq, .ref mz, .ref my, .int sm_, .ref mb, .int bl_, .int ta_, .int tl_, .int tk_, .int vl_, .ref mx, .ref mv])), (mr, .inl (cr_, 3, .inl fr_)), (nw, .inl (cn_, 350, .inl gf_15))] := hD
        refine lv_aload_n hx hb dX12_clerk_42 rfl (lv_at hl 0 rfl) ?_
        refine va_get (D := (dC, dI)) (ci := 12) (v := .ref nw) (C := RX12) (T := TX12) (N := 24) hx hb hts iw_m_clerk_X12 hown hK hP 0 rfl rfl 0 (by decide) (hts (.fieldLink RX12 7 "ThriceCountedModel" "now" "[I") (by decide +kernel)) (fun _ h9 => h9) rfl dX12_clerk_43 ?_
        refine lv_iconst (v := 0) hx hb dX12_clerk_46 (by decide) ?_
        refine va_iald hx hb hK hP 2 0 rfl rfl (show ¬ ((0 : Int32) < 0 ∨ 350 ≤ (0 : Int32).toNatClampNeg) by decide) dX12_clerk_47 ?_
        obtain ⟨j_17, hj_18, ej_19⟩ := hf_16.nat (K := 0) (n := 5) (by omega) (show tz_b 0 = (0, 5) from by decide)
        refine tz_i (nI j_17) ej_19 ?_
        refine lv_iconst (v := 1) hx hb dX12_clerk_48 (by decide) ?_
        refine lv_isub hx hb dX12_clerk_49 ?_
        refine lv_topi (fun x_20 _ => ?_)
        have hP9 := hP.sub (ws' := [(mo, .inr (12, [.ref nw, .ref kp, .ref ik, .ref mr, .long la_, .long lb_, .ref mw, .long lc_, .int ti_, .int cb_, .long ld_, .long le_, .ref mq, .ref mz, .ref my, .int sm_, .ref mb, .int bl_, .int ta_, .int tl_, .int tk_, .int vl_, .ref mx, .ref mv])), (nw, .inl (cn_, 350, .inl gf_15)), (mr, .inl (cr_, 3, .inl fr_))]) [0, 2, 1] rfl
        have hD9 := hD.sub (ws' := [(mo, .inr (12, [.ref nw, .ref kp, .ref ik, .ref mr, .long la_, .long lb_, .ref mw, .long lc_, .int ti_, .int cb_, .long ld_, .long le_, .ref mq, .ref mz, .ref my, .int sm_, .ref mb, .int bl_, .int ta_, .int tl_, .int tk_, .int vl_, .ref mx, .ref mv])), (nw, .inl (cn_, 350, .inl gf_15)), (mr, .inl (cr_, 3, .inl fr_))]) [0, 2, 1] (by decide) rfl
        have hK9 := hK.sub (tys' := [(cn_, .int), (cr_, .int)]) [0, 1] rfl
        exact W.iret (v := x_20) hx hb hr (fun t ht hW => ⟨⟨x_20, (), rfl, trivial, gf_15, fr_, hf_16, by rw [ht]; exact hP9, va_K.moved hW.alike hK9, hD9⟩, hS.F ht⟩) hS.2.2 dX12_clerk_50
      · have hn_21 : j_8 = 5 := (nI_eq (a := j_8) (b := 5) (by omega) (by omega)).mp c_11
        refine lv_aload_n hx hb dX12_clerk_29 rfl (lv_at hl 0 rfl) ?_
        have hPc := hP.sub (ws' := [(mo, .inr (12, [.ref nw, .ref kp, .ref ik, .ref mr, .long la_, .long lb_, .ref mw, .long lc_, .int ti_, .int cb_, .long ld_, .long le_, .ref mq, .ref mz, .ref my, .int sm_, .ref mb, .int bl_, .int ta_, .int tl_, .int tk_, .int vl_, .ref mx, .ref mv])), (mr, .inl (cr_, 3, .inl fr_))]) [0, 2] rfl
        have hDc := hD.sub (ws' := [(mo, .inr (12, [.ref nw, .ref kp, .ref ik, .ref mr, .long la_, .long lb_, .ref mw, .long lc_, .int ti_, .int cb_, .long ld_, .long le_, .ref mq, .ref mz, .ref my, .int sm_, .ref mb, .int bl_, .int ta_, .int tl_, .int tk_, .int vl_, .ref mx, .ref mv])), (mr, .inl (cr_, 3, .inl fr_))]) [0, 2] (by decide) rfl
        have hKc := hK.sub (tys' := [(cr_, .int)]) [1] rfl
        have hFc := va_free (wc := [(mo, .inr (12, [.ref nw, .ref kp, .ref ik, .ref mr, .long la_, .long lb_, .ref mw, .long lc_, .int ti_, .int cb_, .long ld_, .long le_, .ref mq, .ref mz, .ref my, .int sm_, .ref mb, .int bl_, .int ta_, .int tl_, .int tk_, .int vl_, .ref mx, .ref mv])), (mr, .inl (cr_, 3, .inl fr_))]) hD hS hA [0, 2] rfl
        refine va_calli (va_runV (As := []) (rest := []) ⟨hx, hb, hml, hown, hts⟩ (m_full l dC dI mo nw kp ik mr la_ lb_ mw lc_ ti_ cb_ ld_ le_ mq mz my sm_ mb bl_ ta_ tl_ tk_ vl_ mx mv cr_ fr_ s.heap.size) (cwV 0 hts gX12_clerk_X12_full rfl rfl rfl (by decide +kernel) ⟨Nat.le_of_ble_eq_true rfl, Nat.le_of_ble_eq_true rfl⟩) ⟨fun a U g mk q => by obtain ⟨q0, q1, qP, qK, qD⟩ := q; exact ⟨q0, q1, qP, va_K.moved (u := U) (U := U.calling g mk a) (Vm.Alike.refl U.vm) qK, qD⟩, va_recv hK hP (ci := 12) (q0 := 0) rfl rfl, fun U hU hW => ⟨rfl, by rw [hU], by rw [hU]; exact hPc, va_K.moved hW.alike hKc, hDc.weaken (fun _ _ _ _ => trivial)⟩⟩ rfl rfl hl.1 rfl (lv_room (Nat.le_of_ble_eq_true rfl)) dX12_clerk_30 ⟨Nat.le_of_ble_eq_true rfl, Nat.le_of_ble_eq_true rfl⟩) hS (fun q _ h => hFc q h) hFc (fun r_22 u_ t H1 locs ht hvm hw_23 hB hz1 hk1 hS => ?_)
        obtain ⟨gr__24, hP1, hK1, hD1⟩ := hB
        rw [ht] at hP1
        have hK1 := va_K.moved hvm.symm hK1
        obtain ⟨hP, hD⟩ := va_join (wr := [(nw, .inl (cn_, 350, .inl fn))]) (w1 := [(mo, .inr (12, [.ref nw, .ref kp, .ref ik, .ref mr, .long la_, .long lb_, .ref mw, .long lc_, .int ti_, .int cb_, .long ld_, .long le_, .ref mq, .ref mz, .ref my, .int sm_, .ref mb, .int bl_, .int ta_, .int tl_, .int tk_, .int vl_, .ref mx, .ref mv])), (mr, .inl (cr_, 3, .inl gr__24))]) hP hD [0, 2] [1] rfl rfl (by decide) (by decide) hk1 hFc hP1 hD1
        generalize H1 = H at hP hS ⊢
        have hP : va_P (dC, dI) vwCl [(nw, .inl (cn_, 350, .inl fn)), (mo, .inr (12, [.ref nw, .ref kp, .ref ik, .ref mr, .long la_, .long lb_, .ref mw, .long lc_, .int ti_, .int cb_, .long ld_, .long le_, .ref mq, .ref mz, .ref my, .int sm_, .ref mb, .int bl_, .int ta_, .int tl_, .int tk_, .int vl_, .ref mx, .ref mv])), (mr, .inl (cr_, 3, .inl gr__24))] H := hP
        have hD : va_D A [(nw, .inl (cn_, 350, .inl fn)), (mo, .inr (12, [.ref nw, .ref kp, .ref ik, .ref mr, .long la_, .long lb_, .ref mw, .long lc_, .int ti_, .int cb_, .long ld_, .long le_, .ref mq, .ref mz, .ref my, .int sm_, .ref mb, .int bl_, .int ta_, .int tl_, .int tk_, .int vl_, .ref mx, .ref mv])), (mr, .inl (cr_, 3, .inl gr__24))] := hD
        obtain rfl : (-4) = r_22 := hw_23.symm
        have hP9 := hP.sub (ws' := [(mo, .inr (12, [.ref nw, .ref kp, .ref ik, .ref mr, .long la_, .long lb_, .ref mw, .long lc_, .int ti_, .int cb_, .long ld_, .long le_, .ref mq, .ref mz, .ref my, .int sm_, .ref mb, .int bl_, .int ta_, .int tl_, .int tk_, .int vl_, .ref mx, .ref mv])), (nw, .inl (cn_, 350, .inl fn)), (mr, .inl (cr_, 3, .inl gr__24))]) [1, 0, 2] rfl
        have hD9 := hD.sub (ws' := [(mo, .inr (12, [.ref nw, .ref kp, .ref ik, .ref mr, .long la_, .long lb_, .ref mw, .long lc_, .int ti_, .int cb_, .long ld_, .long le_, .ref mq, .ref mz, .ref my, .int sm_, .ref mb, .int bl_, .int ta_, .int tl_, .int tk_, .int vl_, .ref mx, .ref mv])), (nw, .inl (cn_, 350, .inl fn)), (mr, .inl (cr_, 3, .inl gr__24))]) [1, 0, 2] (by decide) rfl
        have hK9 := hK.sub (tys' := [(cn_, .int), (cr_, .int)]) [0, 1] rfl
        exact W.iret (v := (-4)) hx hb hr (fun t ht hW => ⟨⟨(-4), (), rfl, trivial, fn, gr__24, hOn, by rw [ht]; exact hP9, va_K.moved hW.alike hK9, hD9⟩, hS.F ht⟩) hS.2.2 dX12_clerk_33
    · exact absurd c_7 (by decide)
  · obtain rfl : 0 = r_1 := (hw_2.trans (if_neg (fun z => hc_3 ((tz_in64 (by first | rfl | decide) rfl (by first | rfl | decide)).mp z)))).symm
    refine lv_if_ne (tgt := 19) hx hb dX12_clerk_9 (by decide) (fun c_25 => ?_) (fun c_25 => ?_)
    · exact absurd c_25 (by decide)
    · refine lv_aload_n hx hb dX12_clerk_12 rfl (lv_at hl 0 rfl) ?_
      refine lv_bipush (v := (-2)) hx hb dX12_clerk_13 (by decide) ?_
      have hPc := hP.sub (ws' := [(mo, .inr (12, [.ref nw, .ref kp, .ref ik, .ref mr, .long la_, .long lb_, .ref mw, .long lc_, .int ti_, .int cb_, .long ld_, .long le_, .ref mq, .ref mz, .ref my, .int sm_, .ref mb, .int bl_, .int ta_, .int tl_, .int tk_, .int vl_, .ref mx, .ref mv])), (mr, .inl (cr_, 3, .inl fr_))]) [0, 2] rfl
      have hDc := hD.sub (ws' := [(mo, .inr (12, [.ref nw, .ref kp, .ref ik, .ref mr, .long la_, .long lb_, .ref mw, .long lc_, .int ti_, .int cb_, .long ld_, .long le_, .ref mq, .ref mz, .ref my, .int sm_, .ref mb, .int bl_, .int ta_, .int tl_, .int tk_, .int vl_, .ref mx, .ref mv])), (mr, .inl (cr_, 3, .inl fr_))]) [0, 2] (by decide) rfl
      have hKc := hK.sub (tys' := [(cr_, .int)]) [1] rfl
      have hFc := va_free (wc := [(mo, .inr (12, [.ref nw, .ref kp, .ref ik, .ref mr, .long la_, .long lb_, .ref mw, .long lc_, .int ti_, .int cb_, .long ld_, .long le_, .ref mq, .ref mz, .ref my, .int sm_, .ref mb, .int bl_, .int ta_, .int tl_, .int tk_, .int vl_, .ref mx, .ref mv])), (mr, .inl (cr_, 3, .inl fr_))]) hD hS hA [0, 2] rfl
      refine va_calli (va_runV (As := [.int (-2)]) (rest := []) ⟨hx, hb, hml, hown, hts⟩ (m_bad l dC dI mo nw kp ik mr la_ lb_ mw lc_ ti_ cb_ ld_ le_ mq mz my sm_ mb bl_ ta_ tl_ tk_ vl_ mx mv cr_ fr_ (-2) s.heap.size) (cwV 1 hts gX12_clerk_X12_bad rfl rfl rfl (by decide +kernel) ⟨Nat.le_of_ble_eq_true rfl, Nat.le_of_ble_eq_true rfl⟩) ⟨fun a U g mk q => by obtain ⟨q0, q1, qP, qK, qD⟩ := q; exact ⟨q0, q1, qP, va_K.moved (u := U) (U := U.calling g mk a) (Vm.Alike.refl U.vm) qK, qD⟩, va_recv hK hP (ci := 12) (q0 := 0) rfl rfl, fun U hU hW => ⟨rfl, by rw [hU], by rw [hU]; exact hPc, va_K.moved hW.alike hKc, hDc.weaken (fun _ _ _ _ => trivial)⟩⟩ rfl rfl hl.1 rfl (lv_room (Nat.le_of_ble_eq_true rfl)) dX12_clerk_15 ⟨Nat.le_of_ble_eq_true rfl, Nat.le_of_ble_eq_true rfl⟩) hS (fun q _ h => hFc q h) hFc (fun r_26 u_ t H1 locs ht hvm hw_27 hB hz1 hk1 hS => ?_)
      obtain ⟨gr__28, hP1, hK1, hD1⟩ := hB
      rw [ht] at hP1
      have hK1 := va_K.moved hvm.symm hK1
      obtain ⟨hP, hD⟩ := va_join (wr := [(nw, .inl (cn_, 350, .inl fn))]) (w1 := [(mo, .inr (12, [.ref nw, .ref kp, .ref ik, .ref mr, .long la_, .long lb_, .ref mw, .long lc_, .int ti_, .int cb_, .long ld_, .long le_, .ref mq, .ref mz, .ref my, .int sm_, .ref mb, .int bl_, .int ta_, .int tl_, .int tk_, .int vl_, .ref mx, .ref mv])), (mr, .inl (cr_, 3, .inl gr__28))]) hP hD [0, 2] [1] rfl rfl (by decide) (by decide) hk1 hFc hP1 hD1
      generalize H1 = H at hP hS ⊢
      have hP : va_P (dC, dI) vwCl [(nw, .inl (cn_, 350, .inl fn)), (mo, .inr (12, [.ref nw, .ref kp, .ref ik, .ref mr, .long la_, .long lb_, .ref mw, .long lc_, .int ti_, .int cb_, .long ld_, .long le_, .ref mq, .ref mz, .ref my, .int sm_, .ref mb, .int bl_, .int ta_, .int tl_, .int tk_, .int vl_, .ref mx, .ref mv])), (mr, .inl (cr_, 3, .inl gr__28))] H := hP
      have hD : va_D A [(nw, .inl (cn_, 350, .inl fn)), (mo, .inr (12, [.ref nw, .ref kp, .ref ik, .ref mr, .long la_, .long lb_, .ref mw, .long lc_, .int ti_, .int cb_, .long ld_, .long le_, .ref mq, .ref mz, .ref my, .int sm_, .ref mb, .int bl_, .int ta_, .int tl_, .int tk_, .int vl_, .ref mx, .ref mv])), (mr, .inl (cr_, 3, .inl gr__28))] := hD
      obtain rfl : (-2) = r_26 := hw_27.symm
      have hP9 := hP.sub (ws' := [(mo, .inr (12, [.ref nw, .ref kp, .ref ik, .ref mr, .long la_, .long lb_, .ref mw, .long lc_, .int ti_, .int cb_, .long ld_, .long le_, .ref mq, .ref mz, .ref my, .int sm_, .ref mb, .int bl_, .int ta_, .int tl_, .int tk_, .int vl_, .ref mx, .ref mv])), (nw, .inl (cn_, 350, .inl fn)), (mr, .inl (cr_, 3, .inl gr__28))]) [1, 0, 2] rfl
      have hD9 := hD.sub (ws' := [(mo, .inr (12, [.ref nw, .ref kp, .ref ik, .ref mr, .long la_, .long lb_, .ref mw, .long lc_, .int ti_, .int cb_, .long ld_, .long le_, .ref mq, .ref mz, .ref my, .int sm_, .ref mb, .int bl_, .int ta_, .int tl_, .int tk_, .int vl_, .ref mx, .ref mv])), (nw, .inl (cn_, 350, .inl fn)), (mr, .inl (cr_, 3, .inl gr__28))]) [1, 0, 2] (by decide) rfl
      have hK9 := hK.sub (tys' := [(cn_, .int), (cr_, .int)]) [0, 1] rfl
      exact W.iret (v := (-2)) hx hb hr (fun t ht hW => ⟨⟨(-2), (), rfl, trivial, fn, gr__28, hOn, by rw [ht]; exact hP9, va_K.moved hW.alike hK9, hD9⟩, hS.F ht⟩) hS.2.2 dX12_clerk_18
set_option maxRecDepth 20000 in
theorem ggX12_bundle_X12_in : GoodIn wsX12_bundle wsX12_in := goodIn_r _ [7] (by decide +kernel) (by decide +kernel)
set_option maxRecDepth 20000 in
theorem gX12_bundle_X12_in : GoodIn wsX12_bundle (va_wsS RX12 49 yX12_in wsX12_in) := goodIn_app (goodIn_of _ (by decide +kernel)) ggX12_bundle_X12_in
set_option maxRecDepth 20000 in
theorem ggX12_bundle_X12_layBundle : GoodIn wsX12_bundle wsX12_layBundle := goodIn_r _ [19] (by decide +kernel) (by decide +kernel)
set_option maxRecDepth 20000 in
theorem gX12_bundle_X12_layBundle : GoodIn wsX12_bundle (va_wsS RX12 77 yX12_layBundle wsX12_layBundle) := goodIn_app (goodIn_of _ (by decide +kernel)) ggX12_bundle_X12_layBundle
set_option maxRecDepth 20000 in
theorem ggX12_bundle_X12_full : GoodIn wsX12_bundle wsX12_full := goodIn_r _ [16, 12, 20, 21, 22, 23, 24, 25, 26, 27, 28, 29, 30, 31, 32, 33, 34, 35, 36, 37, 38, 39, 40, 41, 42, 43] (by decide +kernel) (by decide +kernel)
set_option maxRecDepth 20000 in
theorem gX12_bundle_X12_full : GoodIn wsX12_bundle (wsV RX12 65 RX12 yX12_full wsX12_full) := goodIn_app (goodIn_of _ (by decide +kernel)) ggX12_bundle_X12_full
set_option maxRecDepth 20000 in
theorem ggX12_bundle_X12_bad : GoodIn wsX12_bundle wsX12_bad := goodIn_r _ [11, 12, 20, 21, 22, 23, 24, 25, 26, 27, 28, 29, 30, 31, 32, 33, 34, 35, 36, 37, 38, 39, 40, 41, 42, 43] (by decide +kernel) (by decide +kernel)
set_option maxRecDepth 20000 in
theorem gX12_bundle_X12_bad : GoodIn wsX12_bundle (wsV RX12 61 RX12 yX12_bad wsX12_bad) := goodIn_app (goodIn_of _ (by decide +kernel)) ggX12_bundle_X12_bad
theorem dX12_bundle_0 : decode cX12_bundle 0 = .ok (.iload_n 1, 1) := by decide +kernel
theorem dX12_bundle_1 : decode cX12_bundle 1 = .ok (.i2l, 1) := by decide +kernel
theorem dX12_bundle_2 : decode cX12_bundle 2 = .ok (.ldc2_w 73, 3) := by decide +kernel
theorem dX12_bundle_5 : decode cX12_bundle 5 = .ok (.ldc2_w 75, 3) := by decide +kernel
theorem dX12_bundle_8 : decode cX12_bundle 8 = .ok (.invokestatic 49, 3) := by decide +kernel
theorem dX12_bundle_11 : decode cX12_bundle 11 = .ok (.ifCond .eq 16, 3) := by decide +kernel
theorem dX12_bundle_14 : decode cX12_bundle 14 = .ok (.iload_n 2, 1) := by decide +kernel
theorem dX12_bundle_15 : decode cX12_bundle 15 = .ok (.i2l, 1) := by decide +kernel
theorem dX12_bundle_16 : decode cX12_bundle 16 = .ok (.iload_n 1, 1) := by decide +kernel
theorem dX12_bundle_17 : decode cX12_bundle 17 = .ok (.i2l, 1) := by decide +kernel
theorem dX12_bundle_18 : decode cX12_bundle 18 = .ok (.ldc2_w 75, 3) := by decide +kernel
theorem dX12_bundle_21 : decode cX12_bundle 21 = .ok (.invokestatic 49, 3) := by decide +kernel
theorem dX12_bundle_24 : decode cX12_bundle 24 = .ok (.ifCond .ne 10, 3) := by decide +kernel
theorem dX12_bundle_34 : decode cX12_bundle 34 = .ok (.aload_n 0, 1) := by decide +kernel
theorem dX12_bundle_35 : decode cX12_bundle 35 = .ok (.getfield 7, 3) := by decide +kernel
theorem dX12_bundle_38 : decode cX12_bundle 38 = .ok (.iconst 1, 1) := by decide +kernel
theorem dX12_bundle_39 : decode cX12_bundle 39 = .ok (.iaload, 1) := by decide +kernel
theorem dX12_bundle_40 : decode cX12_bundle 40 = .ok (.iconst 5, 1) := by decide +kernel
theorem dX12_bundle_41 : decode cX12_bundle 41 = .ok (.if_icmp .ne 8, 3) := by decide +kernel
theorem dX12_bundle_49 : decode cX12_bundle 49 = .ok (.aload_n 0, 1) := by decide +kernel
theorem dX12_bundle_50 : decode cX12_bundle 50 = .ok (.getfield 7, 3) := by decide +kernel
theorem dX12_bundle_53 : decode cX12_bundle 53 = .ok (.iload_n 1, 1) := by decide +kernel
theorem dX12_bundle_54 : decode cX12_bundle 54 = .ok (.iload_n 2, 1) := by decide +kernel
theorem dX12_bundle_55 : decode cX12_bundle 55 = .ok (.invokestatic 77, 3) := by decide +kernel
theorem dX12_bundle_58 : decode cX12_bundle 58 = .ok (.aload_n 0, 1) := by decide +kernel
theorem dX12_bundle_59 : decode cX12_bundle 59 = .ok (.getfield 7, 3) := by decide +kernel
theorem dX12_bundle_62 : decode cX12_bundle 62 = .ok (.iconst 1, 1) := by decide +kernel
theorem dX12_bundle_63 : decode cX12_bundle 63 = .ok (.iaload, 1) := by decide +kernel
theorem dX12_bundle_64 : decode cX12_bundle 64 = .ok (.iconst 1, 1) := by decide +kernel
theorem dX12_bundle_65 : decode cX12_bundle 65 = .ok (.isub, 1) := by decide +kernel
theorem dX12_bundle_66 : decode cX12_bundle 66 = .ok (.ireturn, 1) := by decide +kernel
theorem dX12_bundle_44 : decode cX12_bundle 44 = .ok (.aload_n 0, 1) := by decide +kernel
theorem dX12_bundle_45 : decode cX12_bundle 45 = .ok (.invokevirtual 65, 3) := by decide +kernel
theorem dX12_bundle_48 : decode cX12_bundle 48 = .ok (.ireturn, 1) := by decide +kernel
theorem dX12_bundle_27 : decode cX12_bundle 27 = .ok (.aload_n 0, 1) := by decide +kernel
theorem dX12_bundle_28 : decode cX12_bundle 28 = .ok (.bipush (-2), 2) := by decide +kernel
theorem dX12_bundle_30 : decode cX12_bundle 30 = .ok (.invokevirtual 61, 3) := by decide +kernel
theorem dX12_bundle_33 : decode cX12_bundle 33 = .ok (.ireturn, 1) := by decide +kernel
set_option maxRecDepth 20000 in
theorem iw_m_bundle_X12 : ∀ w ∈ wsX120, w ∈ wsX12_bundle := by decide +kernel
set_option maxHeartbeats 4000000 in
set_option maxRecDepth 100000 in
theorem m_bundle (l : Launch) (dC : Nat → ClassId) (dI : Nat → Nat → Nat) (mo : Nat) (nw : Nat) (kp : Nat) (ik : Nat) (mr : Nat) (la_ : Int64) (lb_ : Int64) (mw : Nat) (lc_ : Int64) (ti_ : Int32) (cb_ : Int32) (ld_ : Int64) (le_ : Int64) (mq : Nat) (mz : Nat) (my : Nat) (sm_ : Int32) (mb : Nat) (bl_ : Int32) (ta_ : Int32) (tl_ : Int32) (tk_ : Int32) (vl_ : Int32) (mx : Nat) (mv : Nat) (cn_ : ClassId) (fn : Nat → Int32) (cr_ : ClassId) (fr_ : Nat → Int32) (na : Int32) (nb : Int32) (sz : Nat) (hOn : tz_OK 350 fn) : Met l yX12_bundle wsX12_bundle ({ frames := 1, cells := 0, slots := 0, locals := 25 }) (va_Pc [.ref mo, .int na, .int nb] (fun U => U.heap.size = sz ∧ va_P (dC, dI) vwCl [(mo, .inr (12, [.ref nw, .ref kp, .ref ik, .ref mr, .long la_, .long lb_, .ref mw, .long lc_, .int ti_, .int cb_, .long ld_, .long le_, .ref mq, .ref mz, .ref my, .int sm_, .ref mb, .int bl_, .int ta_, .int tl_, .int tk_, .int vl_, .ref mx, .ref mv])), (nw, .inl (cn_, 350, .inl fn)), (mr, .inl (cr_, 3, .inl fr_))] U.heap ∧ va_K (dC, dI) vwCl [(cn_, .int), (cr_, .int)] U ∧ va_D (fun _ => True) [(mo, .inr (12, [.ref nw, .ref kp, .ref ik, .ref mr, .long la_, .long lb_, .ref mw, .long lc_, .int ti_, .int cb_, .long ld_, .long le_, .ref mq, .ref mz, .ref my, .int sm_, .ref mb, .int bl_, .int ta_, .int tl_, .int tk_, .int vl_, .ref mx, .ref mv])), (nw, .inl (cn_, 350, .inl fn)), (mr, .inl (cr_, 3, .inl fr_))])) (va_Qi (fun (r : Int32) (_ : Unit) => True) (fun _ t => ∃ (gn : Nat → Int32) (gr_ : Nat → Int32), (tz_OK 350 gn) ∧ va_P (dC, dI) vwCl [(mo, .inr (12, [.ref nw, .ref kp, .ref ik, .ref mr, .long la_, .long lb_, .ref mw, .long lc_, .int ti_, .int cb_, .long ld_, .long le_, .ref mq, .ref mz, .ref my, .int sm_, .ref mb, .int bl_, .int ta_, .int tl_, .int tk_, .int vl_, .ref mx, .ref mv])), (nw, .inl (cn_, 350, .inl gn)), (mr, .inl (cr_, 3, .inl gr_))] t.heap ∧ va_K (dC, dI) vwCl [(cn_, .int), (cr_, .int)] t ∧ va_D (va_A [(mo, .inr (12, [.ref nw, .ref kp, .ref ik, .ref mr, .long la_, .long lb_, .ref mw, .long lc_, .int ti_, .int cb_, .long ld_, .long le_, .ref mq, .ref mz, .ref my, .int sm_, .ref mb, .int bl_, .int ta_, .int tl_, .int tk_, .int vl_, .ref mx, .ref mv])), (nw, .inl (cn_, 350, .inl fn)), (mr, .inl (cr_, 3, .inl fr_))] sz) [(mo, .inr (12, [.ref nw, .ref kp, .ref ik, .ref mr, .long la_, .long lb_, .ref mw, .long lc_, .int ti_, .int cb_, .long ld_, .long le_, .ref mq, .ref mz, .ref my, .int sm_, .ref mb, .int bl_, .int ta_, .int tl_, .int tk_, .int vl_, .ref mx, .ref mv])), (nw, .inl (cn_, 350, .inl gn)), (mr, .inl (cr_, 3, .inl gr_))]) (va_A [(mo, .inr (12, [.ref nw, .ref kp, .ref ik, .ref mr, .long la_, .long lb_, .ref mw, .long lc_, .int ti_, .int cb_, .long ld_, .long le_, .ref mq, .ref mz, .ref my, .int sm_, .ref mb, .int bl_, .int ta_, .int tl_, .int tk_, .int vl_, .ref mx, .ref mv])), (nw, .inl (cn_, 350, .inl fn)), (mr, .inl (cr_, 3, .inl fr_))] sz)) 0 0 (va_A [(mo, .inr (12, [.ref nw, .ref kp, .ref ik, .ref mr, .long la_, .long lb_, .ref mw, .long lc_, .int ti_, .int cb_, .long ld_, .long le_, .ref mq, .ref mz, .ref my, .int sm_, .ref mb, .int bl_, .int ta_, .int tl_, .int tk_, .int vl_, .ref mx, .ref mv])), (nw, .inl (cn_, 350, .inl fn)), (mr, .inl (cr_, 3, .inl fr_))] sz) := by
  refine Met.ofW (cc := cX12_bundle) (maxL := 3) (ret := (some .int)) (by decide) rfl ?_
  intro p e s m args below meth c s₁ B hml hv
  obtain ⟨rfl, hsz, hP, hK, hD0⟩ := hv
  have hx := B.exec
  have hb := B.bytes
  have hr := B.returns
  have hts := atoms_spec (ws := wsX12_bundle) B.pre
  have hown : s.vm.findClass RX12 = some m.cls := findClass_of_methodNamed B.named
  have hlocks := B.notSynchronized
  subst hsz
  have hD := hD0.self (sz := s.heap.size)
  generalize hAe : va_A [(mo, .inr (12, [.ref nw, .ref kp, .ref ik, .ref mr, .long la_, .long lb_, .ref mw, .long lc_, .int ti_, .int cb_, .long ld_, .long le_, .ref mq, .ref mz, .ref my, .int sm_, .ref mb, .int bl_, .int ta_, .int tl_, .int tk_, .int vl_, .ref mx, .ref mv])), (nw, .inl (cn_, 350, .inl fn)), (mr, .inl (cr_, 3, .inl fr_))] s.heap.size = A at hD ⊢
  have hA : ∀ q : Nat, s.heap.size ≤ q → A q := fun q h => by rw [← hAe]; exact Or.inr h
  have hS : va_S A s.heap s.heap [] := va_S.rf
  have hP : va_P (dC, dI) vwCl [(mo, .inr (12, [.ref nw, .ref kp, .ref ik, .ref mr, .long la_, .long lb_, .ref mw, .long lc_, .int ti_, .int cb_, .long ld_, .long le_, .ref mq, .ref mz, .ref my, .int sm_, .ref mb, .int bl_, .int ta_, .int tl_, .int tk_, .int vl_, .ref mx, .ref mv])), (nw, .inl (cn_, 350, .inl fn)), (mr, .inl (cr_, 3, .inl fr_))] s.heap := hP
  have hl := lv_entry ([.ref mo, .int na, .int nb]) (n := 3) (Nat.le_of_ble_eq_true rfl)
  rw [lg_entry_eq]
  generalize (lg_sl ([.ref mo, .int na, .int nb]) ++ List.replicate (3 - (lg_sl ([.ref mo, .int na, .int nb])).length) Slot.unset).toArray = ls at hl ⊢
  have hl : lv_has ls 3 [(0, .ref mo), (1, .int na), (2, .int nb)] := hl
  refine lv_iload_n hx hb dX12_bundle_0 rfl (lv_at hl 1 rfl) ?_
  refine lv_i2l (v := na.toInt64) hx hb dX12_bundle_1 rfl ?_
  refine lv_ldc2 hx hb hown (hts (.constantLong RX12 73 (90)) (by decide +kernel)) dX12_bundle_2 ?_
  refine lv_ldc2 hx hb hown (hts (.constantLong RX12 75 (110)) (by decide +kernel)) dX12_bundle_5 ?_
  refine vp_callSi (va_Run.run (va_runS (As := [.long na.toInt64, .long 90, .long 110]) (rest := []) ⟨hx, hb, hml, hown, hts⟩ (m_in l dC dI na.toInt64 90 110) (va_cwS 3 hts gX12_bundle_X12_in rfl rfl rfl (by decide +kernel) ⟨Nat.le_of_ble_eq_true rfl, Nat.le_of_ble_eq_true rfl⟩) ⟨fun a U g mk q => ⟨q.1, trivial⟩, fun U hU hW => ⟨rfl, trivial⟩⟩ rfl rfl hl.1 rfl (lv_room (Nat.le_of_ble_eq_true rfl)) dX12_bundle_8 ⟨Nat.le_of_ble_eq_true rfl, Nat.le_of_ble_eq_true rfl⟩)) (fun r_1 hw_2 => ?_)
  by_cases hc_3 : 90 ≤ na ∧ na ≤ 110
  · obtain rfl : 1 = r_1 := (hw_2.trans (if_pos ((tz_in64 (by first | rfl | decide) rfl (by first | rfl | decide)).mpr hc_3))).symm
    obtain ⟨j_4, hj_5, hj_6, rfl⟩ := tz_pickL (l := 90) (n := 110) hc_3 (by decide) (by decide)
    refine lv_if_eq (tgt := 27) hx hb dX12_bundle_11 (by decide) (fun c_7 => ?_) (fun c_7 => ?_)
    · exact absurd c_7 (by decide)
    · refine lv_iload_n hx hb dX12_bundle_14 rfl (lv_at hl 2 rfl) ?_
      refine lv_i2l (v := nb.toInt64) hx hb dX12_bundle_15 rfl ?_
      refine lv_iload_n hx hb dX12_bundle_16 rfl (lv_at hl 1 rfl) ?_
      refine lv_i2l (v := (nI j_4).toInt64) hx hb dX12_bundle_17 rfl ?_
      refine lv_ldc2 hx hb hown (hts (.constantLong RX12 75 (110)) (by decide +kernel)) dX12_bundle_18 ?_
      refine vp_callSi (va_Run.run (va_runS (As := [.long nb.toInt64, .long (nI j_4).toInt64, .long 110]) (rest := []) ⟨hx, hb, hml, hown, hts⟩ (m_in l dC dI nb.toInt64 ((nI j_4).toInt64) 110) (va_cwS 3 hts gX12_bundle_X12_in rfl rfl rfl (by decide +kernel) ⟨Nat.le_of_ble_eq_true rfl, Nat.le_of_ble_eq_true rfl⟩) ⟨fun a U g mk q => ⟨q.1, trivial⟩, fun U hU hW => ⟨rfl, trivial⟩⟩ rfl rfl hl.1 rfl (lv_room (Nat.le_of_ble_eq_true rfl)) dX12_bundle_21 ⟨Nat.le_of_ble_eq_true rfl, Nat.le_of_ble_eq_true rfl⟩)) (fun r_8 hw_9 => ?_)
      by_cases hc_10 : (nI j_4) ≤ nb ∧ nb ≤ 110
      · obtain rfl : 1 = r_8 := (hw_9.trans (if_pos ((tz_in64 (by first | rfl | decide) rfl (by first | rfl | decide)).mpr hc_10))).symm
        obtain ⟨j_11, hj_12, hj_13, rfl⟩ := tz_pickN (l := j_4) (n := 110) hc_10 (by omega) (by decide)
        refine lv_if_ne (tgt := 34) hx hb dX12_bundle_24 (by decide) (fun c_14 => ?_) (fun c_14 => ?_)
        · refine lv_aload_n hx hb dX12_bundle_34 rfl (lv_at hl 0 rfl) ?_
          refine va_get (D := (dC, dI)) (ci := 12) (v := .ref nw) (C := RX12) (T := TX12) (N := 24) hx hb hts iw_m_bundle_X12 hown hK hP 0 rfl rfl 0 (by decide) (hts (.fieldLink RX12 7 "ThriceCountedModel" "now" "[I") (by decide +kernel)) (fun _ h9 => h9) rfl dX12_bundle_35 ?_
          refine lv_iconst (v := 1) hx hb dX12_bundle_38 (by decide) ?_
          refine va_iald hx hb hK hP 1 0 rfl rfl (show ¬ ((1 : Int32) < 0 ∨ 350 ≤ (1 : Int32).toNatClampNeg) by decide) dX12_bundle_39 ?_
          obtain ⟨j_15, hj_16, ej_17⟩ := hOn.nat (K := 1) (n := 5) (by omega) (show tz_b 1 = (0, 5) from by decide)
          refine tz_i (nI j_15) ej_17 ?_
          refine lv_iconst (v := 5) hx hb dX12_bundle_40 (by decide) ?_
          refine lv_icmp_ne (tgt := 49) hx hb dX12_bundle_41 (by decide) (fun c_18 => ?_) (fun c_18 => ?_)
          · have hn_19 : ¬ j_15 = 5 := fun q => c_18 ((nI_eq (a := j_15) (b := 5) (by omega) (by omega)).mpr q)
            refine lv_aload_n hx hb dX12_bundle_49 rfl (lv_at hl 0 rfl) ?_
            refine va_get (D := (dC, dI)) (ci := 12) (v := .ref nw) (C := RX12) (T := TX12) (N := 24) hx hb hts iw_m_bundle_X12 hown hK hP 0 rfl rfl 0 (by decide) (hts (.fieldLink RX12 7 "ThriceCountedModel" "now" "[I") (by decide +kernel)) (fun _ h9 => h9) rfl dX12_bundle_50 ?_
            refine lv_iload_n hx hb dX12_bundle_53 rfl (lv_at hl 1 rfl) ?_
            refine lv_iload_n hx hb dX12_bundle_54 rfl (lv_at hl 2 rfl) ?_
            have hPc := hP.sub (ws' := [(nw, .inl (cn_, 350, .inl fn))]) [1] rfl
            have hDc := hD.sub (ws' := [(nw, .inl (cn_, 350, .inl fn))]) [1] (by decide) rfl
            have hKc := hK.sub (tys' := [(cn_, .int)]) [0] rfl
            have hFc := va_free (wc := [(nw, .inl (cn_, 350, .inl fn))]) hD hS hA [1] rfl
            refine va_callv (va_runS (As := [.ref nw, .int (nI j_4), .int (nI j_11)]) (rest := []) ⟨hx, hb, hml, hown, hts⟩ (m_layBundle_350 l dC dI nw cn_ fn j_4 j_11 j_15 s.heap.size hOn (by omega) (by omega) (by omega) ej_17) (va_cwS 3 hts gX12_bundle_X12_layBundle rfl rfl rfl (by decide +kernel) ⟨Nat.le_of_ble_eq_true rfl, Nat.le_of_ble_eq_true rfl⟩) ⟨fun a U g mk q => by obtain ⟨q0, q1, qP, qK, qD⟩ := q; exact ⟨q0, q1, qP, va_K.moved (u := U) (U := U.calling g mk a) (Vm.Alike.refl U.vm) qK, qD⟩, fun U hU hW => ⟨rfl, by rw [hU], by rw [hU]; exact hPc, va_K.moved hW.alike hKc, hDc.weaken (fun _ _ _ _ => trivial)⟩⟩ rfl rfl hl.1 rfl (lv_room (Nat.le_of_ble_eq_true rfl)) dX12_bundle_55 ⟨Nat.le_of_ble_eq_true rfl, Nat.le_of_ble_eq_true rfl⟩) hS (fun q _ h => hFc q h) hFc (fun u_ t H1 locs ht hvm hw_21 hB hz1 hk1 hS => ?_)
            obtain ⟨gf_22, hf_23, hP1, hK1, hD1⟩ := hB
            rw [ht] at hP1
            have hK1 := va_K.moved hvm.symm hK1
            obtain ⟨hP, hD⟩ := va_join (wr := [(mo, .inr (12, [.ref nw, .ref kp, .ref ik, .ref mr, .long la_, .long lb_, .ref mw, .long lc_, .int ti_, .int cb_, .long ld_, .long le_, .ref mq, .ref mz, .ref my, .int sm_, .ref mb, .int bl_, .int ta_, .int tl_, .int tk_, .int vl_, .ref mx, .ref mv])), (mr, .inl (cr_, 3, .inl fr_))]) (w1 := [(nw, .inl (cn_, 350, .inl gf_22))]) hP hD [1] [0, 2] rfl rfl (by decide) (by decide) hk1 hFc hP1 hD1
            generalize H1 = H at hP hS ⊢
            have hP : va_P (dC, dI) vwCl [(mo, .inr (12, [.ref nw, .ref kp, .ref ik, .ref mr, .long la_, .long lb_, .ref mw, .long lc_, .int ti_, .int cb_, .long ld_, .long le_, .ref mq, .ref mz, .ref my, .int sm_, .ref mb, .int bl_, .int ta_, .int tl_, .int tk_, .int vl_, .ref mx, .ref mv])), (mr, .inl (cr_, 3, .inl fr_)), (nw, .inl (cn_, 350, .inl gf_22))] H := hP
            have hD : va_D A [(mo, .inr (12, [.ref nw, .ref kp, .ref ik, .ref mr, .long la_, .long lb_, .ref mw, .long lc_, .int ti_, .int cb_, .long ld_, .long le_, .ref mq, .ref mz, .ref my, .int sm_, .ref mb, .int bl_, .int ta_, .int tl_, .int tk_, .int vl_, .ref mx, .ref mv])), (mr, .inl (cr_, 3, .inl fr_)), (nw, .inl (cn_, 350, .inl gf_22))] := hD
            refine lv_aload_n hx hb dX12_bundle_58 rfl (lv_at hl 0 rfl) ?_
            refine va_get (D := (dC, dI)) (ci := 12) (v := .ref nw) (C := RX12) (T := TX12) (N := 24) hx hb hts iw_m_bundle_X12 hown hK hP 0 rfl rfl 0 (by decide) (hts (.fieldLink RX12 7 "ThriceCountedModel" "now" "[I") (by decide +kernel)) (fun _ h9 => h9) rfl dX12_bundle_59 ?_
            refine lv_iconst (v := 1) hx hb dX12_bundle_62 (by decide) ?_
            refine va_iald hx hb hK hP 2 0 rfl rfl (show ¬ ((1 : Int32) < 0 ∨ 350 ≤ (1 : Int32).toNatClampNeg) by decide) dX12_bundle_63 ?_
            obtain ⟨j_24, hj_25, ej_26⟩ := hf_23.nat (K := 1) (n := 5) (by omega) (show tz_b 1 = (0, 5) from by decide)
            refine tz_i (nI j_24) ej_26 ?_
            refine lv_iconst (v := 1) hx hb dX12_bundle_64 (by decide) ?_
            refine lv_isub hx hb dX12_bundle_65 ?_
            refine lv_topi (fun x_27 _ => ?_)
            have hP9 := hP.sub (ws' := [(mo, .inr (12, [.ref nw, .ref kp, .ref ik, .ref mr, .long la_, .long lb_, .ref mw, .long lc_, .int ti_, .int cb_, .long ld_, .long le_, .ref mq, .ref mz, .ref my, .int sm_, .ref mb, .int bl_, .int ta_, .int tl_, .int tk_, .int vl_, .ref mx, .ref mv])), (nw, .inl (cn_, 350, .inl gf_22)), (mr, .inl (cr_, 3, .inl fr_))]) [0, 2, 1] rfl
            have hD9 := hD.sub (ws' := [(mo, .inr (12, [.ref nw, .ref kp, .ref ik, .ref mr, .long la_, .long lb_, .ref mw, .long lc_, .int ti_, .int cb_, .long ld_, .long le_, .ref mq, .ref mz, .ref my, .int sm_, .ref mb, .int bl_, .int ta_, .int tl_, .int tk_, .int vl_, .ref mx, .ref mv])), (nw, .inl (cn_, 350, .inl gf_22)), (mr, .inl (cr_, 3, .inl fr_))]) [0, 2, 1] (by decide) rfl
            have hK9 := hK.sub (tys' := [(cn_, .int), (cr_, .int)]) [0, 1] rfl
            exact W.iret (v := x_27) hx hb hr (fun t ht hW => ⟨⟨x_27, (), rfl, trivial, gf_22, fr_, hf_23, by rw [ht]; exact hP9, va_K.moved hW.alike hK9, hD9⟩, hS.F ht⟩) hS.2.2 dX12_bundle_66
          · have hn_28 : j_15 = 5 := (nI_eq (a := j_15) (b := 5) (by omega) (by omega)).mp c_18
            refine lv_aload_n hx hb dX12_bundle_44 rfl (lv_at hl 0 rfl) ?_
            have hPc := hP.sub (ws' := [(mo, .inr (12, [.ref nw, .ref kp, .ref ik, .ref mr, .long la_, .long lb_, .ref mw, .long lc_, .int ti_, .int cb_, .long ld_, .long le_, .ref mq, .ref mz, .ref my, .int sm_, .ref mb, .int bl_, .int ta_, .int tl_, .int tk_, .int vl_, .ref mx, .ref mv])), (mr, .inl (cr_, 3, .inl fr_))]) [0, 2] rfl
            have hDc := hD.sub (ws' := [(mo, .inr (12, [.ref nw, .ref kp, .ref ik, .ref mr, .long la_, .long lb_, .ref mw, .long lc_, .int ti_, .int cb_, .long ld_, .long le_, .ref mq, .ref mz, .ref my, .int sm_, .ref mb, .int bl_, .int ta_, .int tl_, .int tk_, .int vl_, .ref mx, .ref mv])), (mr, .inl (cr_, 3, .inl fr_))]) [0, 2] (by decide) rfl
            have hKc := hK.sub (tys' := [(cr_, .int)]) [1] rfl
            have hFc := va_free (wc := [(mo, .inr (12, [.ref nw, .ref kp, .ref ik, .ref mr, .long la_, .long lb_, .ref mw, .long lc_, .int ti_, .int cb_, .long ld_, .long le_, .ref mq, .ref mz, .ref my, .int sm_, .ref mb, .int bl_, .int ta_, .int tl_, .int tk_, .int vl_, .ref mx, .ref mv])), (mr, .inl (cr_, 3, .inl fr_))]) hD hS hA [0, 2] rfl
            refine va_calli (va_runV (As := []) (rest := []) ⟨hx, hb, hml, hown, hts⟩ (m_full l dC dI mo nw kp ik mr la_ lb_ mw lc_ ti_ cb_ ld_ le_ mq mz my sm_ mb bl_ ta_ tl_ tk_ vl_ mx mv cr_ fr_ s.heap.size) (cwV 0 hts gX12_bundle_X12_full rfl rfl rfl (by decide +kernel) ⟨Nat.le_of_ble_eq_true rfl, Nat.le_of_ble_eq_true rfl⟩) ⟨fun a U g mk q => by obtain ⟨q0, q1, qP, qK, qD⟩ := q; exact ⟨q0, q1, qP, va_K.moved (u := U) (U := U.calling g mk a) (Vm.Alike.refl U.vm) qK, qD⟩, va_recv hK hP (ci := 12) (q0 := 0) rfl rfl, fun U hU hW => ⟨rfl, by rw [hU], by rw [hU]; exact hPc, va_K.moved hW.alike hKc, hDc.weaken (fun _ _ _ _ => trivial)⟩⟩ rfl rfl hl.1 rfl (lv_room (Nat.le_of_ble_eq_true rfl)) dX12_bundle_45 ⟨Nat.le_of_ble_eq_true rfl, Nat.le_of_ble_eq_true rfl⟩) hS (fun q _ h => hFc q h) hFc (fun r_29 u_ t H1 locs ht hvm hw_30 hB hz1 hk1 hS => ?_)
            obtain ⟨gr__31, hP1, hK1, hD1⟩ := hB
            rw [ht] at hP1
            have hK1 := va_K.moved hvm.symm hK1
            obtain ⟨hP, hD⟩ := va_join (wr := [(nw, .inl (cn_, 350, .inl fn))]) (w1 := [(mo, .inr (12, [.ref nw, .ref kp, .ref ik, .ref mr, .long la_, .long lb_, .ref mw, .long lc_, .int ti_, .int cb_, .long ld_, .long le_, .ref mq, .ref mz, .ref my, .int sm_, .ref mb, .int bl_, .int ta_, .int tl_, .int tk_, .int vl_, .ref mx, .ref mv])), (mr, .inl (cr_, 3, .inl gr__31))]) hP hD [0, 2] [1] rfl rfl (by decide) (by decide) hk1 hFc hP1 hD1
            generalize H1 = H at hP hS ⊢
            have hP : va_P (dC, dI) vwCl [(nw, .inl (cn_, 350, .inl fn)), (mo, .inr (12, [.ref nw, .ref kp, .ref ik, .ref mr, .long la_, .long lb_, .ref mw, .long lc_, .int ti_, .int cb_, .long ld_, .long le_, .ref mq, .ref mz, .ref my, .int sm_, .ref mb, .int bl_, .int ta_, .int tl_, .int tk_, .int vl_, .ref mx, .ref mv])), (mr, .inl (cr_, 3, .inl gr__31))] H := hP
            have hD : va_D A [(nw, .inl (cn_, 350, .inl fn)), (mo, .inr (12, [.ref nw, .ref kp, .ref ik, .ref mr, .long la_, .long lb_, .ref mw, .long lc_, .int ti_, .int cb_, .long ld_, .long le_, .ref mq, .ref mz, .ref my, .int sm_, .ref mb, .int bl_, .int ta_, .int tl_, .int tk_, .int vl_, .ref mx, .ref mv])), (mr, .inl (cr_, 3, .inl gr__31))] := hD
            obtain rfl : (-4) = r_29 := hw_30.symm
            have hP9 := hP.sub (ws' := [(mo, .inr (12, [.ref nw, .ref kp, .ref ik, .ref mr, .long la_, .long lb_, .ref mw, .long lc_, .int ti_, .int cb_, .long ld_, .long le_, .ref mq, .ref mz, .ref my, .int sm_, .ref mb, .int bl_, .int ta_, .int tl_, .int tk_, .int vl_, .ref mx, .ref mv])), (nw, .inl (cn_, 350, .inl fn)), (mr, .inl (cr_, 3, .inl gr__31))]) [1, 0, 2] rfl
            have hD9 := hD.sub (ws' := [(mo, .inr (12, [.ref nw, .ref kp, .ref ik, .ref mr, .long la_, .long lb_, .ref mw, .long lc_, .int ti_, .int cb_, .long ld_, .long le_, .ref mq, .ref mz, .ref my, .int sm_, .ref mb, .int bl_, .int ta_, .int tl_, .int tk_, .int vl_, .ref mx, .ref mv])), (nw, .inl (cn_, 350, .inl fn)), (mr, .inl (cr_, 3, .inl gr__31))]) [1, 0, 2] (by decide) rfl
            have hK9 := hK.sub (tys' := [(cn_, .int), (cr_, .int)]) [0, 1] rfl
            exact W.iret (v := (-4)) hx hb hr (fun t ht hW => ⟨⟨(-4), (), rfl, trivial, fn, gr__31, hOn, by rw [ht]; exact hP9, va_K.moved hW.alike hK9, hD9⟩, hS.F ht⟩) hS.2.2 dX12_bundle_48
        · exact absurd c_14 (by decide)
      · obtain rfl : 0 = r_8 := (hw_9.trans (if_neg (fun z => hc_10 ((tz_in64 (by first | rfl | decide) rfl (by first | rfl | decide)).mp z)))).symm
        refine lv_if_ne (tgt := 34) hx hb dX12_bundle_24 (by decide) (fun c_32 => ?_) (fun c_32 => ?_)
        · exact absurd c_32 (by decide)
        · refine lv_aload_n hx hb dX12_bundle_27 rfl (lv_at hl 0 rfl) ?_
          refine lv_bipush (v := (-2)) hx hb dX12_bundle_28 (by decide) ?_
          have hPc := hP.sub (ws' := [(mo, .inr (12, [.ref nw, .ref kp, .ref ik, .ref mr, .long la_, .long lb_, .ref mw, .long lc_, .int ti_, .int cb_, .long ld_, .long le_, .ref mq, .ref mz, .ref my, .int sm_, .ref mb, .int bl_, .int ta_, .int tl_, .int tk_, .int vl_, .ref mx, .ref mv])), (mr, .inl (cr_, 3, .inl fr_))]) [0, 2] rfl
          have hDc := hD.sub (ws' := [(mo, .inr (12, [.ref nw, .ref kp, .ref ik, .ref mr, .long la_, .long lb_, .ref mw, .long lc_, .int ti_, .int cb_, .long ld_, .long le_, .ref mq, .ref mz, .ref my, .int sm_, .ref mb, .int bl_, .int ta_, .int tl_, .int tk_, .int vl_, .ref mx, .ref mv])), (mr, .inl (cr_, 3, .inl fr_))]) [0, 2] (by decide) rfl
          have hKc := hK.sub (tys' := [(cr_, .int)]) [1] rfl
          have hFc := va_free (wc := [(mo, .inr (12, [.ref nw, .ref kp, .ref ik, .ref mr, .long la_, .long lb_, .ref mw, .long lc_, .int ti_, .int cb_, .long ld_, .long le_, .ref mq, .ref mz, .ref my, .int sm_, .ref mb, .int bl_, .int ta_, .int tl_, .int tk_, .int vl_, .ref mx, .ref mv])), (mr, .inl (cr_, 3, .inl fr_))]) hD hS hA [0, 2] rfl
          refine va_calli (va_runV (As := [.int (-2)]) (rest := []) ⟨hx, hb, hml, hown, hts⟩ (m_bad l dC dI mo nw kp ik mr la_ lb_ mw lc_ ti_ cb_ ld_ le_ mq mz my sm_ mb bl_ ta_ tl_ tk_ vl_ mx mv cr_ fr_ (-2) s.heap.size) (cwV 1 hts gX12_bundle_X12_bad rfl rfl rfl (by decide +kernel) ⟨Nat.le_of_ble_eq_true rfl, Nat.le_of_ble_eq_true rfl⟩) ⟨fun a U g mk q => by obtain ⟨q0, q1, qP, qK, qD⟩ := q; exact ⟨q0, q1, qP, va_K.moved (u := U) (U := U.calling g mk a) (Vm.Alike.refl U.vm) qK, qD⟩, va_recv hK hP (ci := 12) (q0 := 0) rfl rfl, fun U hU hW => ⟨rfl, by rw [hU], by rw [hU]; exact hPc, va_K.moved hW.alike hKc, hDc.weaken (fun _ _ _ _ => trivial)⟩⟩ rfl rfl hl.1 rfl (lv_room (Nat.le_of_ble_eq_true rfl)) dX12_bundle_30 ⟨Nat.le_of_ble_eq_true rfl, Nat.le_of_ble_eq_true rfl⟩) hS (fun q _ h => hFc q h) hFc (fun r_33 u_ t H1 locs ht hvm hw_34 hB hz1 hk1 hS => ?_)
          obtain ⟨gr__35, hP1, hK1, hD1⟩ := hB
          rw [ht] at hP1
          have hK1 := va_K.moved hvm.symm hK1
          obtain ⟨hP, hD⟩ := va_join (wr := [(nw, .inl (cn_, 350, .inl fn))]) (w1 := [(mo, .inr (12, [.ref nw, .ref kp, .ref ik, .ref mr, .long la_, .long lb_, .ref mw, .long lc_, .int ti_, .int cb_, .long ld_, .long le_, .ref mq, .ref mz, .ref my, .int sm_, .ref mb, .int bl_, .int ta_, .int tl_, .int tk_, .int vl_, .ref mx, .ref mv])), (mr, .inl (cr_, 3, .inl gr__35))]) hP hD [0, 2] [1] rfl rfl (by decide) (by decide) hk1 hFc hP1 hD1
          generalize H1 = H at hP hS ⊢
          have hP : va_P (dC, dI) vwCl [(nw, .inl (cn_, 350, .inl fn)), (mo, .inr (12, [.ref nw, .ref kp, .ref ik, .ref mr, .long la_, .long lb_, .ref mw, .long lc_, .int ti_, .int cb_, .long ld_, .long le_, .ref mq, .ref mz, .ref my, .int sm_, .ref mb, .int bl_, .int ta_, .int tl_, .int tk_, .int vl_, .ref mx, .ref mv])), (mr, .inl (cr_, 3, .inl gr__35))] H := hP
          have hD : va_D A [(nw, .inl (cn_, 350, .inl fn)), (mo, .inr (12, [.ref nw, .ref kp, .ref ik, .ref mr, .long la_, .long lb_, .ref mw, .long lc_, .int ti_, .int cb_, .long ld_, .long le_, .ref mq, .ref mz, .ref my, .int sm_, .ref mb, .int bl_, .int ta_, .int tl_, .int tk_, .int vl_, .ref mx, .ref mv])), (mr, .inl (cr_, 3, .inl gr__35))] := hD
          obtain rfl : (-2) = r_33 := hw_34.symm
          have hP9 := hP.sub (ws' := [(mo, .inr (12, [.ref nw, .ref kp, .ref ik, .ref mr, .long la_, .long lb_, .ref mw, .long lc_, .int ti_, .int cb_, .long ld_, .long le_, .ref mq, .ref mz, .ref my, .int sm_, .ref mb, .int bl_, .int ta_, .int tl_, .int tk_, .int vl_, .ref mx, .ref mv])), (nw, .inl (cn_, 350, .inl fn)), (mr, .inl (cr_, 3, .inl gr__35))]) [1, 0, 2] rfl
          have hD9 := hD.sub (ws' := [(mo, .inr (12, [.ref nw, .ref kp, .ref ik, .ref mr, .long la_, .long lb_, .ref mw, .long lc_, .int ti_, .int cb_, .long ld_, .long le_, .ref mq, .ref mz, .ref my, .int sm_, .ref mb, .int bl_, .int ta_, .int tl_, .int tk_, .int vl_, .ref mx, .ref mv])), (nw, .inl (cn_, 350, .inl fn)), (mr, .inl (cr_, 3, .inl gr__35))]) [1, 0, 2] (by decide) rfl
          have hK9 := hK.sub (tys' := [(cn_, .int), (cr_, .int)]) [0, 1] rfl
          exact W.iret (v := (-2)) hx hb hr (fun t ht hW => ⟨⟨(-2), (), rfl, trivial, fn, gr__35, hOn, by rw [ht]; exact hP9, va_K.moved hW.alike hK9, hD9⟩, hS.F ht⟩) hS.2.2 dX12_bundle_33
  · obtain rfl : 0 = r_1 := (hw_2.trans (if_neg (fun z => hc_3 ((tz_in64 (by first | rfl | decide) rfl (by first | rfl | decide)).mp z)))).symm
    refine lv_if_eq (tgt := 27) hx hb dX12_bundle_11 (by decide) (fun c_36 => ?_) (fun c_36 => ?_)
    · refine lv_aload_n hx hb dX12_bundle_27 rfl (lv_at hl 0 rfl) ?_
      refine lv_bipush (v := (-2)) hx hb dX12_bundle_28 (by decide) ?_
      have hPc := hP.sub (ws' := [(mo, .inr (12, [.ref nw, .ref kp, .ref ik, .ref mr, .long la_, .long lb_, .ref mw, .long lc_, .int ti_, .int cb_, .long ld_, .long le_, .ref mq, .ref mz, .ref my, .int sm_, .ref mb, .int bl_, .int ta_, .int tl_, .int tk_, .int vl_, .ref mx, .ref mv])), (mr, .inl (cr_, 3, .inl fr_))]) [0, 2] rfl
      have hDc := hD.sub (ws' := [(mo, .inr (12, [.ref nw, .ref kp, .ref ik, .ref mr, .long la_, .long lb_, .ref mw, .long lc_, .int ti_, .int cb_, .long ld_, .long le_, .ref mq, .ref mz, .ref my, .int sm_, .ref mb, .int bl_, .int ta_, .int tl_, .int tk_, .int vl_, .ref mx, .ref mv])), (mr, .inl (cr_, 3, .inl fr_))]) [0, 2] (by decide) rfl
      have hKc := hK.sub (tys' := [(cr_, .int)]) [1] rfl
      have hFc := va_free (wc := [(mo, .inr (12, [.ref nw, .ref kp, .ref ik, .ref mr, .long la_, .long lb_, .ref mw, .long lc_, .int ti_, .int cb_, .long ld_, .long le_, .ref mq, .ref mz, .ref my, .int sm_, .ref mb, .int bl_, .int ta_, .int tl_, .int tk_, .int vl_, .ref mx, .ref mv])), (mr, .inl (cr_, 3, .inl fr_))]) hD hS hA [0, 2] rfl
      refine va_calli (va_runV (As := [.int (-2)]) (rest := []) ⟨hx, hb, hml, hown, hts⟩ (m_bad l dC dI mo nw kp ik mr la_ lb_ mw lc_ ti_ cb_ ld_ le_ mq mz my sm_ mb bl_ ta_ tl_ tk_ vl_ mx mv cr_ fr_ (-2) s.heap.size) (cwV 1 hts gX12_bundle_X12_bad rfl rfl rfl (by decide +kernel) ⟨Nat.le_of_ble_eq_true rfl, Nat.le_of_ble_eq_true rfl⟩) ⟨fun a U g mk q => by obtain ⟨q0, q1, qP, qK, qD⟩ := q; exact ⟨q0, q1, qP, va_K.moved (u := U) (U := U.calling g mk a) (Vm.Alike.refl U.vm) qK, qD⟩, va_recv hK hP (ci := 12) (q0 := 0) rfl rfl, fun U hU hW => ⟨rfl, by rw [hU], by rw [hU]; exact hPc, va_K.moved hW.alike hKc, hDc.weaken (fun _ _ _ _ => trivial)⟩⟩ rfl rfl hl.1 rfl (lv_room (Nat.le_of_ble_eq_true rfl)) dX12_bundle_30 ⟨Nat.le_of_ble_eq_true rfl, Nat.le_of_ble_eq_true rfl⟩) hS (fun q _ h => hFc q h) hFc (fun r_37 u_ t H1 locs ht hvm hw_38 hB hz1 hk1 hS => ?_)
      obtain ⟨gr__39, hP1, hK1, hD1⟩ := hB
      rw [ht] at hP1
      have hK1 := va_K.moved hvm.symm hK1
      obtain ⟨hP, hD⟩ := va_join (wr := [(nw, .inl (cn_, 350, .inl fn))]) (w1 := [(mo, .inr (12, [.ref nw, .ref kp, .ref ik, .ref mr, .long la_, .long lb_, .ref mw, .long lc_, .int ti_, .int cb_, .long ld_, .long le_, .ref mq, .ref mz, .ref my, .int sm_, .ref mb, .int bl_, .int ta_, .int tl_, .int tk_, .int vl_, .ref mx, .ref mv])), (mr, .inl (cr_, 3, .inl gr__39))]) hP hD [0, 2] [1] rfl rfl (by decide) (by decide) hk1 hFc hP1 hD1
      generalize H1 = H at hP hS ⊢
      have hP : va_P (dC, dI) vwCl [(nw, .inl (cn_, 350, .inl fn)), (mo, .inr (12, [.ref nw, .ref kp, .ref ik, .ref mr, .long la_, .long lb_, .ref mw, .long lc_, .int ti_, .int cb_, .long ld_, .long le_, .ref mq, .ref mz, .ref my, .int sm_, .ref mb, .int bl_, .int ta_, .int tl_, .int tk_, .int vl_, .ref mx, .ref mv])), (mr, .inl (cr_, 3, .inl gr__39))] H := hP
      have hD : va_D A [(nw, .inl (cn_, 350, .inl fn)), (mo, .inr (12, [.ref nw, .ref kp, .ref ik, .ref mr, .long la_, .long lb_, .ref mw, .long lc_, .int ti_, .int cb_, .long ld_, .long le_, .ref mq, .ref mz, .ref my, .int sm_, .ref mb, .int bl_, .int ta_, .int tl_, .int tk_, .int vl_, .ref mx, .ref mv])), (mr, .inl (cr_, 3, .inl gr__39))] := hD
      obtain rfl : (-2) = r_37 := hw_38.symm
      have hP9 := hP.sub (ws' := [(mo, .inr (12, [.ref nw, .ref kp, .ref ik, .ref mr, .long la_, .long lb_, .ref mw, .long lc_, .int ti_, .int cb_, .long ld_, .long le_, .ref mq, .ref mz, .ref my, .int sm_, .ref mb, .int bl_, .int ta_, .int tl_, .int tk_, .int vl_, .ref mx, .ref mv])), (nw, .inl (cn_, 350, .inl fn)), (mr, .inl (cr_, 3, .inl gr__39))]) [1, 0, 2] rfl
      have hD9 := hD.sub (ws' := [(mo, .inr (12, [.ref nw, .ref kp, .ref ik, .ref mr, .long la_, .long lb_, .ref mw, .long lc_, .int ti_, .int cb_, .long ld_, .long le_, .ref mq, .ref mz, .ref my, .int sm_, .ref mb, .int bl_, .int ta_, .int tl_, .int tk_, .int vl_, .ref mx, .ref mv])), (nw, .inl (cn_, 350, .inl fn)), (mr, .inl (cr_, 3, .inl gr__39))]) [1, 0, 2] (by decide) rfl
      have hK9 := hK.sub (tys' := [(cn_, .int), (cr_, .int)]) [0, 1] rfl
      exact W.iret (v := (-2)) hx hb hr (fun t ht hW => ⟨⟨(-2), (), rfl, trivial, fn, gr__39, hOn, by rw [ht]; exact hP9, va_K.moved hW.alike hK9, hD9⟩, hS.F ht⟩) hS.2.2 dX12_bundle_33
    · exact absurd c_36 (by decide)
set_option maxRecDepth 20000 in
theorem ggX12_band_X12_isBundle : GoodIn wsX12_band wsX12_isBundle := goodIn_r _ [8, 3, 9, 10, 7, 11, 28, 29, 30, 31, 32, 33, 34, 35, 36, 37, 38, 39, 40, 41, 42, 43, 44, 45, 46, 47, 48, 49, 50, 51] (by decide +kernel) (by decide +kernel)
set_option maxRecDepth 20000 in
theorem gX12_band_X12_isBundle : GoodIn wsX12_band (wsV RX12 81 RX12 yX12_isBundle wsX12_isBundle) := goodIn_app (goodIn_of _ (by decide +kernel)) ggX12_band_X12_isBundle
set_option maxRecDepth 20000 in
theorem ggX12_band_X12_in : GoodIn wsX12_band wsX12_in := goodIn_r _ [11] (by decide +kernel) (by decide +kernel)
set_option maxRecDepth 20000 in
theorem gX12_band_X12_in : GoodIn wsX12_band (va_wsS RX12 49 yX12_in wsX12_in) := goodIn_app (goodIn_of _ (by decide +kernel)) ggX12_band_X12_in
set_option maxRecDepth 20000 in
theorem ggX12_band_X12_isClerk : GoodIn wsX12_band wsX12_isClerk := goodIn_r _ [15, 3, 9, 10, 7, 11, 28, 29, 30, 31, 32, 33, 34, 35, 36, 37, 38, 39, 40, 41, 42, 43, 44, 45, 46, 47, 48, 49, 50, 51] (by decide +kernel) (by decide +kernel)
set_option maxRecDepth 20000 in
theorem gX12_band_X12_isClerk : GoodIn wsX12_band (wsV RX12 85 RX12 yX12_isClerk wsX12_isClerk) := goodIn_app (goodIn_of _ (by decide +kernel)) ggX12_band_X12_isClerk
set_option maxRecDepth 20000 in
theorem ggX12_band_X12_bundleHas : GoodIn wsX12_band wsX12_bundleHas := goodIn_r _ [24, 3, 28, 29, 30, 31, 32, 33, 34, 35, 36, 37, 38, 39, 40, 41, 42, 43, 44, 45, 46, 47, 48, 49, 50, 51] (by decide +kernel) (by decide +kernel)
set_option maxRecDepth 20000 in
theorem gX12_band_X12_bundleHas : GoodIn wsX12_band (wsV RX12 88 RX12 yX12_bundleHas wsX12_bundleHas) := goodIn_app (goodIn_of _ (by decide +kernel)) ggX12_band_X12_bundleHas
set_option maxRecDepth 20000 in
theorem ggX12_band_X12_layBand : GoodIn wsX12_band wsX12_layBand := goodIn_r _ [27] (by decide +kernel) (by decide +kernel)
set_option maxRecDepth 20000 in
theorem gX12_band_X12_layBand : GoodIn wsX12_band (va_wsS RX12 92 yX12_layBand wsX12_layBand) := goodIn_app (goodIn_of _ (by decide +kernel)) ggX12_band_X12_layBand
set_option maxRecDepth 20000 in
theorem ggX12_band_X12_bad : GoodIn wsX12_band wsX12_bad := goodIn_r _ [19, 20, 28, 29, 30, 31, 32, 33, 34, 35, 36, 37, 38, 39, 40, 41, 42, 43, 44, 45, 46, 47, 48, 49, 50, 51] (by decide +kernel) (by decide +kernel)
set_option maxRecDepth 20000 in
theorem gX12_band_X12_bad : GoodIn wsX12_band (wsV RX12 61 RX12 yX12_bad wsX12_bad) := goodIn_app (goodIn_of _ (by decide +kernel)) ggX12_band_X12_bad
theorem dX12_band_0 : decode cX12_band 0 = .ok (.aload_n 0, 1) := by decide +kernel
theorem dX12_band_1 : decode cX12_band 1 = .ok (.iload_n 1, 1) := by decide +kernel
theorem dX12_band_2 : decode cX12_band 2 = .ok (.invokevirtual 81, 3) := by decide +kernel
theorem dX12_band_5 : decode cX12_band 5 = .ok (.ifCond .eq 25, 3) := by decide +kernel
theorem dX12_band_8 : decode cX12_band 8 = .ok (.iload_n 2, 1) := by decide +kernel
theorem dX12_band_9 : decode cX12_band 9 = .ok (.i2l, 1) := by decide +kernel
theorem dX12_band_10 : decode cX12_band 10 = .ok (.ldc2_w 73, 3) := by decide +kernel
theorem dX12_band_13 : decode cX12_band 13 = .ok (.ldc2_w 75, 3) := by decide +kernel
theorem dX12_band_16 : decode cX12_band 16 = .ok (.invokestatic 49, 3) := by decide +kernel
theorem dX12_band_19 : decode cX12_band 19 = .ok (.ifCond .eq 11, 3) := by decide +kernel
theorem dX12_band_22 : decode cX12_band 22 = .ok (.aload_n 0, 1) := by decide +kernel
theorem dX12_band_23 : decode cX12_band 23 = .ok (.iload_n 3, 1) := by decide +kernel
theorem dX12_band_24 : decode cX12_band 24 = .ok (.invokevirtual 85, 3) := by decide +kernel
theorem dX12_band_27 : decode cX12_band 27 = .ok (.ifCond .ne 10, 3) := by decide +kernel
theorem dX12_band_37 : decode cX12_band 37 = .ok (.aload_n 0, 1) := by decide +kernel
theorem dX12_band_38 : decode cX12_band 38 = .ok (.iload_n 1, 1) := by decide +kernel
theorem dX12_band_39 : decode cX12_band 39 = .ok (.iconst 2, 1) := by decide +kernel
theorem dX12_band_40 : decode cX12_band 40 = .ok (.invokevirtual 88, 3) := by decide +kernel
theorem dX12_band_43 : decode cX12_band 43 = .ok (.istore 4, 2) := by decide +kernel
theorem dX12_band_45 : decode cX12_band 45 = .ok (.aload_n 0, 1) := by decide +kernel
theorem dX12_band_46 : decode cX12_band 46 = .ok (.getfield 7, 3) := by decide +kernel
theorem dX12_band_49 : decode cX12_band 49 = .ok (.iload_n 1, 1) := by decide +kernel
theorem dX12_band_50 : decode cX12_band 50 = .ok (.iload_n 2, 1) := by decide +kernel
theorem dX12_band_51 : decode cX12_band 51 = .ok (.iload_n 3, 1) := by decide +kernel
theorem dX12_band_52 : decode cX12_band 52 = .ok (.invokestatic 92, 3) := by decide +kernel
theorem dX12_band_55 : decode cX12_band 55 = .ok (.iload 4, 2) := by decide +kernel
theorem dX12_band_57 : decode cX12_band 57 = .ok (.ireturn, 1) := by decide +kernel
theorem dX12_band_30 : decode cX12_band 30 = .ok (.aload_n 0, 1) := by decide +kernel
theorem dX12_band_31 : decode cX12_band 31 = .ok (.bipush (-2), 2) := by decide +kernel
theorem dX12_band_33 : decode cX12_band 33 = .ok (.invokevirtual 61, 3) := by decide +kernel
theorem dX12_band_36 : decode cX12_band 36 = .ok (.ireturn, 1) := by decide +kernel
set_option maxRecDepth 20000 in
theorem iw_m_band_X12 : ∀ w ∈ wsX120, w ∈ wsX12_band := by decide +kernel
set_option maxHeartbeats 4000000 in
set_option maxRecDepth 100000 in
theorem m_band (l : Launch) (dC : Nat → ClassId) (dI : Nat → Nat → Nat) (mo : Nat) (nw : Nat) (kp : Nat) (ik : Nat) (mr : Nat) (la_ : Int64) (lb_ : Int64) (mw : Nat) (lc_ : Int64) (ti_ : Int32) (cb_ : Int32) (ld_ : Int64) (le_ : Int64) (mq : Nat) (mz : Nat) (my : Nat) (sm_ : Int32) (mb : Nat) (bl_ : Int32) (ta_ : Int32) (tl_ : Int32) (tk_ : Int32) (vl_ : Int32) (mx : Nat) (mv : Nat) (cn_ : ClassId) (fn : Nat → Int32) (cr_ : ClassId) (fr_ : Nat → Int32) (na : Int32) (nb : Int32) (nc : Int32) (sz : Nat) (hOn : tz_OK 350 fn) : Met l yX12_band wsX12_band ({ frames := 2, cells := 0, slots := 0, locals := 46 }) (va_Pc [.ref mo, .int na, .int nb, .int nc] (fun U => U.heap.size = sz ∧ va_P (dC, dI) vwCl [(mo, .inr (12, [.ref nw, .ref kp, .ref ik, .ref mr, .long la_, .long lb_, .ref mw, .long lc_, .int ti_, .int cb_, .long ld_, .long le_, .ref mq, .ref mz, .ref my, .int sm_, .ref mb, .int bl_, .int ta_, .int tl_, .int tk_, .int vl_, .ref mx, .ref mv])), (nw, .inl (cn_, 350, .inl fn)), (mr, .inl (cr_, 3, .inl fr_))] U.heap ∧ va_K (dC, dI) vwCl [(cn_, .int), (cr_, .int)] U ∧ va_D (fun _ => True) [(mo, .inr (12, [.ref nw, .ref kp, .ref ik, .ref mr, .long la_, .long lb_, .ref mw, .long lc_, .int ti_, .int cb_, .long ld_, .long le_, .ref mq, .ref mz, .ref my, .int sm_, .ref mb, .int bl_, .int ta_, .int tl_, .int tk_, .int vl_, .ref mx, .ref mv])), (nw, .inl (cn_, 350, .inl fn)), (mr, .inl (cr_, 3, .inl fr_))])) (va_Qi (fun (r : Int32) (_ : Unit) => True) (fun _ t => ∃ (gn : Nat → Int32) (gr_ : Nat → Int32), (tz_OK 350 gn) ∧ va_P (dC, dI) vwCl [(mo, .inr (12, [.ref nw, .ref kp, .ref ik, .ref mr, .long la_, .long lb_, .ref mw, .long lc_, .int ti_, .int cb_, .long ld_, .long le_, .ref mq, .ref mz, .ref my, .int sm_, .ref mb, .int bl_, .int ta_, .int tl_, .int tk_, .int vl_, .ref mx, .ref mv])), (nw, .inl (cn_, 350, .inl gn)), (mr, .inl (cr_, 3, .inl gr_))] t.heap ∧ va_K (dC, dI) vwCl [(cn_, .int), (cr_, .int)] t ∧ va_D (va_A [(mo, .inr (12, [.ref nw, .ref kp, .ref ik, .ref mr, .long la_, .long lb_, .ref mw, .long lc_, .int ti_, .int cb_, .long ld_, .long le_, .ref mq, .ref mz, .ref my, .int sm_, .ref mb, .int bl_, .int ta_, .int tl_, .int tk_, .int vl_, .ref mx, .ref mv])), (nw, .inl (cn_, 350, .inl fn)), (mr, .inl (cr_, 3, .inl fr_))] sz) [(mo, .inr (12, [.ref nw, .ref kp, .ref ik, .ref mr, .long la_, .long lb_, .ref mw, .long lc_, .int ti_, .int cb_, .long ld_, .long le_, .ref mq, .ref mz, .ref my, .int sm_, .ref mb, .int bl_, .int ta_, .int tl_, .int tk_, .int vl_, .ref mx, .ref mv])), (nw, .inl (cn_, 350, .inl gn)), (mr, .inl (cr_, 3, .inl gr_))]) (va_A [(mo, .inr (12, [.ref nw, .ref kp, .ref ik, .ref mr, .long la_, .long lb_, .ref mw, .long lc_, .int ti_, .int cb_, .long ld_, .long le_, .ref mq, .ref mz, .ref my, .int sm_, .ref mb, .int bl_, .int ta_, .int tl_, .int tk_, .int vl_, .ref mx, .ref mv])), (nw, .inl (cn_, 350, .inl fn)), (mr, .inl (cr_, 3, .inl fr_))] sz)) 0 0 (va_A [(mo, .inr (12, [.ref nw, .ref kp, .ref ik, .ref mr, .long la_, .long lb_, .ref mw, .long lc_, .int ti_, .int cb_, .long ld_, .long le_, .ref mq, .ref mz, .ref my, .int sm_, .ref mb, .int bl_, .int ta_, .int tl_, .int tk_, .int vl_, .ref mx, .ref mv])), (nw, .inl (cn_, 350, .inl fn)), (mr, .inl (cr_, 3, .inl fr_))] sz) := by
  refine Met.ofW (cc := cX12_band) (maxL := 5) (ret := (some .int)) (by decide) rfl ?_
  intro p e s m args below meth c s₁ B hml hv
  obtain ⟨rfl, hsz, hP, hK, hD0⟩ := hv
  have hx := B.exec
  have hb := B.bytes
  have hr := B.returns
  have hts := atoms_spec (ws := wsX12_band) B.pre
  have hown : s.vm.findClass RX12 = some m.cls := findClass_of_methodNamed B.named
  have hlocks := B.notSynchronized
  subst hsz
  have hD := hD0.self (sz := s.heap.size)
  generalize hAe : va_A [(mo, .inr (12, [.ref nw, .ref kp, .ref ik, .ref mr, .long la_, .long lb_, .ref mw, .long lc_, .int ti_, .int cb_, .long ld_, .long le_, .ref mq, .ref mz, .ref my, .int sm_, .ref mb, .int bl_, .int ta_, .int tl_, .int tk_, .int vl_, .ref mx, .ref mv])), (nw, .inl (cn_, 350, .inl fn)), (mr, .inl (cr_, 3, .inl fr_))] s.heap.size = A at hD ⊢
  have hA : ∀ q : Nat, s.heap.size ≤ q → A q := fun q h => by rw [← hAe]; exact Or.inr h
  have hS : va_S A s.heap s.heap [] := va_S.rf
  have hP : va_P (dC, dI) vwCl [(mo, .inr (12, [.ref nw, .ref kp, .ref ik, .ref mr, .long la_, .long lb_, .ref mw, .long lc_, .int ti_, .int cb_, .long ld_, .long le_, .ref mq, .ref mz, .ref my, .int sm_, .ref mb, .int bl_, .int ta_, .int tl_, .int tk_, .int vl_, .ref mx, .ref mv])), (nw, .inl (cn_, 350, .inl fn)), (mr, .inl (cr_, 3, .inl fr_))] s.heap := hP
  have hl := lv_entry ([.ref mo, .int na, .int nb, .int nc]) (n := 5) (Nat.le_of_ble_eq_true rfl)
  rw [lg_entry_eq]
  generalize (lg_sl ([.ref mo, .int na, .int nb, .int nc]) ++ List.replicate (5 - (lg_sl ([.ref mo, .int na, .int nb, .int nc])).length) Slot.unset).toArray = ls at hl ⊢
  have hl : lv_has ls 5 [(0, .ref mo), (1, .int na), (2, .int nb), (3, .int nc)] := hl
  refine lv_aload_n hx hb dX12_band_0 rfl (lv_at hl 0 rfl) ?_
  refine lv_iload_n hx hb dX12_band_1 rfl (lv_at hl 1 rfl) ?_
  have hPc_1 := hP.sub (ws' := [(mo, .inr (12, [.ref nw, .ref kp, .ref ik, .ref mr, .long la_, .long lb_, .ref mw, .long lc_, .int ti_, .int cb_, .long ld_, .long le_, .ref mq, .ref mz, .ref my, .int sm_, .ref mb, .int bl_, .int ta_, .int tl_, .int tk_, .int vl_, .ref mx, .ref mv])), (nw, .inl (cn_, 350, .inl fn))]) [0, 1] rfl
  have hKc_2 := hK.sub (tys' := [(cn_, .int)]) [0] rfl
  refine vp_callSi (va_Run.run (va_runV (As := [.int na]) (rest := []) ⟨hx, hb, hml, hown, hts⟩ (m_isBundle l dC dI mo nw kp ik mr la_ lb_ mw lc_ ti_ cb_ ld_ le_ mq mz my sm_ mb bl_ ta_ tl_ tk_ vl_ mx mv cn_ fn na hOn) (cwV 1 hts gX12_band_X12_isBundle rfl rfl rfl (by decide +kernel) ⟨Nat.le_of_ble_eq_true rfl, Nat.le_of_ble_eq_true rfl⟩) ⟨fun a U g mk q => by obtain ⟨q0, qP, qK⟩ := q; exact ⟨q0, qP, va_K.moved (u := U) (U := U.calling g mk a) (Vm.Alike.refl U.vm) qK⟩, va_recv hK hP (ci := 12) (q0 := 0) rfl rfl, fun U hU hW => ⟨rfl, by rw [hU]; exact hPc_1, va_K.moved hW.alike hKc_2⟩⟩ rfl rfl hl.1 rfl (lv_room (Nat.le_of_ble_eq_true rfl)) dX12_band_2 ⟨Nat.le_of_ble_eq_true rfl, Nat.le_of_ble_eq_true rfl⟩)) (fun r_3 hw_4 => ?_)
  by_cases hc_5 : 0 ≤ na ∧ na < (fn 1)
  · obtain rfl : 1 = r_3 := (hw_4.trans (if_pos hc_5)).symm
    obtain ⟨j_7, hj_8, ej_9⟩ := hOn.nat (K := 1) (n := 5) (by omega) (show tz_b 1 = (0, 5) from by decide)
    obtain ⟨j_6, hj_10, rfl⟩ := tz_idx2 (J := j_7) hc_5 ej_9 (by omega)
    refine lv_if_eq (tgt := 30) hx hb dX12_band_5 (by decide) (fun c_11 => ?_) (fun c_11 => ?_)
    · exact absurd c_11 (by decide)
    · refine lv_iload_n hx hb dX12_band_8 rfl (lv_at hl 2 rfl) ?_
      refine lv_i2l (v := nb.toInt64) hx hb dX12_band_9 rfl ?_
      refine lv_ldc2 hx hb hown (hts (.constantLong RX12 73 (90)) (by decide +kernel)) dX12_band_10 ?_
      refine lv_ldc2 hx hb hown (hts (.constantLong RX12 75 (110)) (by decide +kernel)) dX12_band_13 ?_
      refine vp_callSi (va_Run.run (va_runS (As := [.long nb.toInt64, .long 90, .long 110]) (rest := []) ⟨hx, hb, hml, hown, hts⟩ (m_in l dC dI nb.toInt64 90 110) (va_cwS 3 hts gX12_band_X12_in rfl rfl rfl (by decide +kernel) ⟨Nat.le_of_ble_eq_true rfl, Nat.le_of_ble_eq_true rfl⟩) ⟨fun a U g mk q => ⟨q.1, trivial⟩, fun U hU hW => ⟨rfl, trivial⟩⟩ rfl rfl hl.1 rfl (lv_room (Nat.le_of_ble_eq_true rfl)) dX12_band_16 ⟨Nat.le_of_ble_eq_true rfl, Nat.le_of_ble_eq_true rfl⟩)) (fun r_12 hw_13 => ?_)
      by_cases hc_14 : 90 ≤ nb ∧ nb ≤ 110
      · obtain rfl : 1 = r_12 := (hw_13.trans (if_pos ((tz_in64 (by first | rfl | decide) rfl (by first | rfl | decide)).mpr hc_14))).symm
        obtain ⟨j_15, hj_16, hj_17, rfl⟩ := tz_pickL (l := 90) (n := 110) hc_14 (by decide) (by decide)
        refine lv_if_eq (tgt := 30) hx hb dX12_band_19 (by decide) (fun c_18 => ?_) (fun c_18 => ?_)
        · exact absurd c_18 (by decide)
        · refine lv_aload_n hx hb dX12_band_22 rfl (lv_at hl 0 rfl) ?_
          refine lv_iload_n hx hb dX12_band_23 rfl (lv_at hl 3 rfl) ?_
          have hPc_19 := hP.sub (ws' := [(mo, .inr (12, [.ref nw, .ref kp, .ref ik, .ref mr, .long la_, .long lb_, .ref mw, .long lc_, .int ti_, .int cb_, .long ld_, .long le_, .ref mq, .ref mz, .ref my, .int sm_, .ref mb, .int bl_, .int ta_, .int tl_, .int tk_, .int vl_, .ref mx, .ref mv])), (nw, .inl (cn_, 350, .inl fn))]) [0, 1] rfl
          have hKc_20 := hK.sub (tys' := [(cn_, .int)]) [0] rfl
          refine vp_callSi (va_Run.run (va_runV (As := [.int nc]) (rest := []) ⟨hx, hb, hml, hown, hts⟩ (m_isClerk l dC dI mo nw kp ik mr la_ lb_ mw lc_ ti_ cb_ ld_ le_ mq mz my sm_ mb bl_ ta_ tl_ tk_ vl_ mx mv cn_ fn nc hOn) (cwV 1 hts gX12_band_X12_isClerk rfl rfl rfl (by decide +kernel) ⟨Nat.le_of_ble_eq_true rfl, Nat.le_of_ble_eq_true rfl⟩) ⟨fun a U g mk q => by obtain ⟨q0, qP, qK⟩ := q; exact ⟨q0, qP, va_K.moved (u := U) (U := U.calling g mk a) (Vm.Alike.refl U.vm) qK⟩, va_recv hK hP (ci := 12) (q0 := 0) rfl rfl, fun U hU hW => ⟨rfl, by rw [hU]; exact hPc_19, va_K.moved hW.alike hKc_20⟩⟩ rfl rfl hl.1 rfl (lv_room (Nat.le_of_ble_eq_true rfl)) dX12_band_24 ⟨Nat.le_of_ble_eq_true rfl, Nat.le_of_ble_eq_true rfl⟩)) (fun r_21 hw_22 => ?_)
          by_cases hc_23 : 0 ≤ nc ∧ nc < (fn 0)
          · obtain rfl : 1 = r_21 := (hw_22.trans (if_pos hc_23)).symm
            obtain ⟨j_25, hj_26, ej_27⟩ := hOn.nat (K := 0) (n := 5) (by omega) (show tz_b 0 = (0, 5) from by decide)
            obtain ⟨j_24, hj_28, rfl⟩ := tz_idx2 (J := j_25) hc_23 ej_27 (by omega)
            refine lv_if_ne (tgt := 37) hx hb dX12_band_27 (by decide) (fun c_29 => ?_) (fun c_29 => ?_)
            · refine lv_aload_n hx hb dX12_band_37 rfl (lv_at hl 0 rfl) ?_
              refine lv_iload_n hx hb dX12_band_38 rfl (lv_at hl 1 rfl) ?_
              refine lv_iconst (v := 2) hx hb dX12_band_39 (by decide) ?_
              have hPc_30 := hP.sub (ws' := [(mo, .inr (12, [.ref nw, .ref kp, .ref ik, .ref mr, .long la_, .long lb_, .ref mw, .long lc_, .int ti_, .int cb_, .long ld_, .long le_, .ref mq, .ref mz, .ref my, .int sm_, .ref mb, .int bl_, .int ta_, .int tl_, .int tk_, .int vl_, .ref mx, .ref mv])), (nw, .inl (cn_, 350, .inl fn))]) [0, 1] rfl
              have hKc_31 := hK.sub (tys' := [(cn_, .int)]) [0] rfl
              refine vp_callSi (va_Run.run (va_runV (As := [.int (nI j_6), .int 2]) (rest := []) ⟨hx, hb, hml, hown, hts⟩ (m_bundleHas2 l dC dI mo nw kp ik mr la_ lb_ mw lc_ ti_ cb_ ld_ le_ mq mz my sm_ mb bl_ ta_ tl_ tk_ vl_ mx mv cn_ fn j_6 hOn (by omega)) (cwV 2 hts gX12_band_X12_bundleHas rfl rfl rfl (by decide +kernel) ⟨Nat.le_of_ble_eq_true rfl, Nat.le_of_ble_eq_true rfl⟩) ⟨fun a U g mk q => by obtain ⟨q0, qP, qK⟩ := q; exact ⟨q0, qP, va_K.moved (u := U) (U := U.calling g mk a) (Vm.Alike.refl U.vm) qK⟩, va_recv hK hP (ci := 12) (q0 := 0) rfl rfl, fun U hU hW => ⟨rfl, by rw [hU]; exact hPc_30, va_K.moved hW.alike hKc_31⟩⟩ rfl rfl hl.1 rfl (lv_room (Nat.le_of_ble_eq_true rfl)) dX12_band_40 ⟨Nat.le_of_ble_eq_true rfl, Nat.le_of_ble_eq_true rfl⟩)) (fun r_32 hw_33 => ?_)
              refine lv_istore (lv' := [(4, .int r_32), (0, .ref mo), (1, .int (nI j_6)), (2, .int (nI j_15)), (3, .int (nI j_24))]) hx hb dX12_band_43 hl (by decide) rfl (fun ls hl => ?_)
              refine lv_aload_n hx hb dX12_band_45 rfl (lv_at hl 1 rfl) ?_
              refine va_get (D := (dC, dI)) (ci := 12) (v := .ref nw) (C := RX12) (T := TX12) (N := 24) hx hb hts iw_m_band_X12 hown hK hP 0 rfl rfl 0 (by decide) (hts (.fieldLink RX12 7 "ThriceCountedModel" "now" "[I") (by decide +kernel)) (fun _ h9 => h9) rfl dX12_band_46 ?_
              refine lv_iload_n hx hb dX12_band_49 rfl (lv_at hl 2 rfl) ?_
              refine lv_iload_n hx hb dX12_band_50 rfl (lv_at hl 3 rfl) ?_
              refine lv_iload_n hx hb dX12_band_51 rfl (lv_at hl 4 rfl) ?_
              have hPc := hP.sub (ws' := [(nw, .inl (cn_, 350, .inl fn))]) [1] rfl
              have hDc := hD.sub (ws' := [(nw, .inl (cn_, 350, .inl fn))]) [1] (by decide) rfl
              have hKc := hK.sub (tys' := [(cn_, .int)]) [0] rfl
              have hFc := va_free (wc := [(nw, .inl (cn_, 350, .inl fn))]) hD hS hA [1] rfl
              refine va_callv (va_runS (As := [.ref nw, .int (nI j_6), .int (nI j_15), .int (nI j_24)]) (rest := []) ⟨hx, hb, hml, hown, hts⟩ (m_layBand_350 l dC dI nw cn_ fn j_6 (nI j_15) j_24 s.heap.size hOn (by omega) (by omega)) (va_cwS 4 hts gX12_band_X12_layBand rfl rfl rfl (by decide +kernel) ⟨Nat.le_of_ble_eq_true rfl, Nat.le_of_ble_eq_true rfl⟩) ⟨fun a U g mk q => by obtain ⟨q0, q1, qP, qK, qD⟩ := q; exact ⟨q0, q1, qP, va_K.moved (u := U) (U := U.calling g mk a) (Vm.Alike.refl U.vm) qK, qD⟩, fun U hU hW => ⟨rfl, by rw [hU], by rw [hU]; exact hPc, va_K.moved hW.alike hKc, hDc.weaken (fun _ _ _ _ => trivial)⟩⟩ rfl rfl hl.1 rfl (lv_room (Nat.le_of_ble_eq_true rfl)) dX12_band_52 ⟨Nat.le_of_ble_eq_true rfl, Nat.le_of_ble_eq_true rfl⟩) hS (fun q _ h => hFc q h) hFc (fun u_ t H1 locs ht hvm hw_35 hB hz1 hk1 hS => ?_)
              obtain ⟨gf_36, hf_37, hP1, hK1, hD1⟩ := hB
              rw [ht] at hP1
              have hK1 := va_K.moved hvm.symm hK1
              obtain ⟨hP, hD⟩ := va_join (wr := [(mo, .inr (12, [.ref nw, .ref kp, .ref ik, .ref mr, .long la_, .long lb_, .ref mw, .long lc_, .int ti_, .int cb_, .long ld_, .long le_, .ref mq, .ref mz, .ref my, .int sm_, .ref mb, .int bl_, .int ta_, .int tl_, .int tk_, .int vl_, .ref mx, .ref mv])), (mr, .inl (cr_, 3, .inl fr_))]) (w1 := [(nw, .inl (cn_, 350, .inl gf_36))]) hP hD [1] [0, 2] rfl rfl (by decide) (by decide) hk1 hFc hP1 hD1
              generalize H1 = H at hP hS ⊢
              have hP : va_P (dC, dI) vwCl [(mo, .inr (12, [.ref nw, .ref kp, .ref ik, .ref mr, .long la_, .long lb_, .ref mw, .long lc_, .int ti_, .int cb_, .long ld_, .long le_, .ref mq, .ref mz, .ref my, .int sm_, .ref mb, .int bl_, .int ta_, .int tl_, .int tk_, .int vl_, .ref mx, .ref mv])), (mr, .inl (cr_, 3, .inl fr_)), (nw, .inl (cn_, 350, .inl gf_36))] H := hP
              have hD : va_D A [(mo, .inr (12, [.ref nw, .ref kp, .ref ik, .ref mr, .long la_, .long lb_, .ref mw, .long lc_, .int ti_, .int cb_, .long ld_, .long le_, .ref mq, .ref mz, .ref my, .int sm_, .ref mb, .int bl_, .int ta_, .int tl_, .int tk_, .int vl_, .ref mx, .ref mv])), (mr, .inl (cr_, 3, .inl fr_)), (nw, .inl (cn_, 350, .inl gf_36))] := hD
              refine lv_iload hx hb dX12_band_55 (lv_at hl 0 rfl) ?_
              have hP9 := hP.sub (ws' := [(mo, .inr (12, [.ref nw, .ref kp, .ref ik, .ref mr, .long la_, .long lb_, .ref mw, .long lc_, .int ti_, .int cb_, .long ld_, .long le_, .ref mq, .ref mz, .ref my, .int sm_, .ref mb, .int bl_, .int ta_, .int tl_, .int tk_, .int vl_, .ref mx, .ref mv])), (nw, .inl (cn_, 350, .inl gf_36)), (mr, .inl (cr_, 3, .inl fr_))]) [0, 2, 1] rfl
              have hD9 := hD.sub (ws' := [(mo, .inr (12, [.ref nw, .ref kp, .ref ik, .ref mr, .long la_, .long lb_, .ref mw, .long lc_, .int ti_, .int cb_, .long ld_, .long le_, .ref mq, .ref mz, .ref my, .int sm_, .ref mb, .int bl_, .int ta_, .int tl_, .int tk_, .int vl_, .ref mx, .ref mv])), (nw, .inl (cn_, 350, .inl gf_36)), (mr, .inl (cr_, 3, .inl fr_))]) [0, 2, 1] (by decide) rfl
              have hK9 := hK.sub (tys' := [(cn_, .int), (cr_, .int)]) [0, 1] rfl
              exact W.iret (v := r_32) hx hb hr (fun t ht hW => ⟨⟨r_32, (), rfl, trivial, gf_36, fr_, hf_37, by rw [ht]; exact hP9, va_K.moved hW.alike hK9, hD9⟩, hS.F ht⟩) hS.2.2 dX12_band_57
            · exact absurd c_29 (by decide)
          · obtain rfl : 0 = r_21 := (hw_22.trans (if_neg hc_23)).symm
            refine lv_if_ne (tgt := 37) hx hb dX12_band_27 (by decide) (fun c_38 => ?_) (fun c_38 => ?_)
            · exact absurd c_38 (by decide)
            · refine lv_aload_n hx hb dX12_band_30 rfl (lv_at hl 0 rfl) ?_
              refine lv_bipush (v := (-2)) hx hb dX12_band_31 (by decide) ?_
              have hPc := hP.sub (ws' := [(mo, .inr (12, [.ref nw, .ref kp, .ref ik, .ref mr, .long la_, .long lb_, .ref mw, .long lc_, .int ti_, .int cb_, .long ld_, .long le_, .ref mq, .ref mz, .ref my, .int sm_, .ref mb, .int bl_, .int ta_, .int tl_, .int tk_, .int vl_, .ref mx, .ref mv])), (mr, .inl (cr_, 3, .inl fr_))]) [0, 2] rfl
              have hDc := hD.sub (ws' := [(mo, .inr (12, [.ref nw, .ref kp, .ref ik, .ref mr, .long la_, .long lb_, .ref mw, .long lc_, .int ti_, .int cb_, .long ld_, .long le_, .ref mq, .ref mz, .ref my, .int sm_, .ref mb, .int bl_, .int ta_, .int tl_, .int tk_, .int vl_, .ref mx, .ref mv])), (mr, .inl (cr_, 3, .inl fr_))]) [0, 2] (by decide) rfl
              have hKc := hK.sub (tys' := [(cr_, .int)]) [1] rfl
              have hFc := va_free (wc := [(mo, .inr (12, [.ref nw, .ref kp, .ref ik, .ref mr, .long la_, .long lb_, .ref mw, .long lc_, .int ti_, .int cb_, .long ld_, .long le_, .ref mq, .ref mz, .ref my, .int sm_, .ref mb, .int bl_, .int ta_, .int tl_, .int tk_, .int vl_, .ref mx, .ref mv])), (mr, .inl (cr_, 3, .inl fr_))]) hD hS hA [0, 2] rfl
              refine va_calli (va_runV (As := [.int (-2)]) (rest := []) ⟨hx, hb, hml, hown, hts⟩ (m_bad l dC dI mo nw kp ik mr la_ lb_ mw lc_ ti_ cb_ ld_ le_ mq mz my sm_ mb bl_ ta_ tl_ tk_ vl_ mx mv cr_ fr_ (-2) s.heap.size) (cwV 1 hts gX12_band_X12_bad rfl rfl rfl (by decide +kernel) ⟨Nat.le_of_ble_eq_true rfl, Nat.le_of_ble_eq_true rfl⟩) ⟨fun a U g mk q => by obtain ⟨q0, q1, qP, qK, qD⟩ := q; exact ⟨q0, q1, qP, va_K.moved (u := U) (U := U.calling g mk a) (Vm.Alike.refl U.vm) qK, qD⟩, va_recv hK hP (ci := 12) (q0 := 0) rfl rfl, fun U hU hW => ⟨rfl, by rw [hU], by rw [hU]; exact hPc, va_K.moved hW.alike hKc, hDc.weaken (fun _ _ _ _ => trivial)⟩⟩ rfl rfl hl.1 rfl (lv_room (Nat.le_of_ble_eq_true rfl)) dX12_band_33 ⟨Nat.le_of_ble_eq_true rfl, Nat.le_of_ble_eq_true rfl⟩) hS (fun q _ h => hFc q h) hFc (fun r_39 u_ t H1 locs ht hvm hw_40 hB hz1 hk1 hS => ?_)
              obtain ⟨gr__41, hP1, hK1, hD1⟩ := hB
              rw [ht] at hP1
              have hK1 := va_K.moved hvm.symm hK1
              obtain ⟨hP, hD⟩ := va_join (wr := [(nw, .inl (cn_, 350, .inl fn))]) (w1 := [(mo, .inr (12, [.ref nw, .ref kp, .ref ik, .ref mr, .long la_, .long lb_, .ref mw, .long lc_, .int ti_, .int cb_, .long ld_, .long le_, .ref mq, .ref mz, .ref my, .int sm_, .ref mb, .int bl_, .int ta_, .int tl_, .int tk_, .int vl_, .ref mx, .ref mv])), (mr, .inl (cr_, 3, .inl gr__41))]) hP hD [0, 2] [1] rfl rfl (by decide) (by decide) hk1 hFc hP1 hD1
              generalize H1 = H at hP hS ⊢
              have hP : va_P (dC, dI) vwCl [(nw, .inl (cn_, 350, .inl fn)), (mo, .inr (12, [.ref nw, .ref kp, .ref ik, .ref mr, .long la_, .long lb_, .ref mw, .long lc_, .int ti_, .int cb_, .long ld_, .long le_, .ref mq, .ref mz, .ref my, .int sm_, .ref mb, .int bl_, .int ta_, .int tl_, .int tk_, .int vl_, .ref mx, .ref mv])), (mr, .inl (cr_, 3, .inl gr__41))] H := hP
              have hD : va_D A [(nw, .inl (cn_, 350, .inl fn)), (mo, .inr (12, [.ref nw, .ref kp, .ref ik, .ref mr, .long la_, .long lb_, .ref mw, .long lc_, .int ti_, .int cb_, .long ld_, .long le_, .ref mq, .ref mz, .ref my, .int sm_, .ref mb, .int bl_, .int ta_, .int tl_, .int tk_, .int vl_, .ref mx, .ref mv])), (mr, .inl (cr_, 3, .inl gr__41))] := hD
              obtain rfl : (-2) = r_39 := hw_40.symm
              have hP9 := hP.sub (ws' := [(mo, .inr (12, [.ref nw, .ref kp, .ref ik, .ref mr, .long la_, .long lb_, .ref mw, .long lc_, .int ti_, .int cb_, .long ld_, .long le_, .ref mq, .ref mz, .ref my, .int sm_, .ref mb, .int bl_, .int ta_, .int tl_, .int tk_, .int vl_, .ref mx, .ref mv])), (nw, .inl (cn_, 350, .inl fn)), (mr, .inl (cr_, 3, .inl gr__41))]) [1, 0, 2] rfl
              have hD9 := hD.sub (ws' := [(mo, .inr (12, [.ref nw, .ref kp, .ref ik, .ref mr, .long la_, .long lb_, .ref mw, .long lc_, .int ti_, .int cb_, .long ld_, .long le_, .ref mq, .ref mz, .ref my, .int sm_, .ref mb, .int bl_, .int ta_, .int tl_, .int tk_, .int vl_, .ref mx, .ref mv])), (nw, .inl (cn_, 350, .inl fn)), (mr, .inl (cr_, 3, .inl gr__41))]) [1, 0, 2] (by decide) rfl
              have hK9 := hK.sub (tys' := [(cn_, .int), (cr_, .int)]) [0, 1] rfl
              exact W.iret (v := (-2)) hx hb hr (fun t ht hW => ⟨⟨(-2), (), rfl, trivial, fn, gr__41, hOn, by rw [ht]; exact hP9, va_K.moved hW.alike hK9, hD9⟩, hS.F ht⟩) hS.2.2 dX12_band_36
      · obtain rfl : 0 = r_12 := (hw_13.trans (if_neg (fun z => hc_14 ((tz_in64 (by first | rfl | decide) rfl (by first | rfl | decide)).mp z)))).symm
        refine lv_if_eq (tgt := 30) hx hb dX12_band_19 (by decide) (fun c_42 => ?_) (fun c_42 => ?_)
        · refine lv_aload_n hx hb dX12_band_30 rfl (lv_at hl 0 rfl) ?_
          refine lv_bipush (v := (-2)) hx hb dX12_band_31 (by decide) ?_
          have hPc := hP.sub (ws' := [(mo, .inr (12, [.ref nw, .ref kp, .ref ik, .ref mr, .long la_, .long lb_, .ref mw, .long lc_, .int ti_, .int cb_, .long ld_, .long le_, .ref mq, .ref mz, .ref my, .int sm_, .ref mb, .int bl_, .int ta_, .int tl_, .int tk_, .int vl_, .ref mx, .ref mv])), (mr, .inl (cr_, 3, .inl fr_))]) [0, 2] rfl
          have hDc := hD.sub (ws' := [(mo, .inr (12, [.ref nw, .ref kp, .ref ik, .ref mr, .long la_, .long lb_, .ref mw, .long lc_, .int ti_, .int cb_, .long ld_, .long le_, .ref mq, .ref mz, .ref my, .int sm_, .ref mb, .int bl_, .int ta_, .int tl_, .int tk_, .int vl_, .ref mx, .ref mv])), (mr, .inl (cr_, 3, .inl fr_))]) [0, 2] (by decide) rfl
          have hKc := hK.sub (tys' := [(cr_, .int)]) [1] rfl
          have hFc := va_free (wc := [(mo, .inr (12, [.ref nw, .ref kp, .ref ik, .ref mr, .long la_, .long lb_, .ref mw, .long lc_, .int ti_, .int cb_, .long ld_, .long le_, .ref mq, .ref mz, .ref my, .int sm_, .ref mb, .int bl_, .int ta_, .int tl_, .int tk_, .int vl_, .ref mx, .ref mv])), (mr, .inl (cr_, 3, .inl fr_))]) hD hS hA [0, 2] rfl
          refine va_calli (va_runV (As := [.int (-2)]) (rest := []) ⟨hx, hb, hml, hown, hts⟩ (m_bad l dC dI mo nw kp ik mr la_ lb_ mw lc_ ti_ cb_ ld_ le_ mq mz my sm_ mb bl_ ta_ tl_ tk_ vl_ mx mv cr_ fr_ (-2) s.heap.size) (cwV 1 hts gX12_band_X12_bad rfl rfl rfl (by decide +kernel) ⟨Nat.le_of_ble_eq_true rfl, Nat.le_of_ble_eq_true rfl⟩) ⟨fun a U g mk q => by obtain ⟨q0, q1, qP, qK, qD⟩ := q; exact ⟨q0, q1, qP, va_K.moved (u := U) (U := U.calling g mk a) (Vm.Alike.refl U.vm) qK, qD⟩, va_recv hK hP (ci := 12) (q0 := 0) rfl rfl, fun U hU hW => ⟨rfl, by rw [hU], by rw [hU]; exact hPc, va_K.moved hW.alike hKc, hDc.weaken (fun _ _ _ _ => trivial)⟩⟩ rfl rfl hl.1 rfl (lv_room (Nat.le_of_ble_eq_true rfl)) dX12_band_33 ⟨Nat.le_of_ble_eq_true rfl, Nat.le_of_ble_eq_true rfl⟩) hS (fun q _ h => hFc q h) hFc (fun r_43 u_ t H1 locs ht hvm hw_44 hB hz1 hk1 hS => ?_)
          obtain ⟨gr__45, hP1, hK1, hD1⟩ := hB
          rw [ht] at hP1
          have hK1 := va_K.moved hvm.symm hK1
          obtain ⟨hP, hD⟩ := va_join (wr := [(nw, .inl (cn_, 350, .inl fn))]) (w1 := [(mo, .inr (12, [.ref nw, .ref kp, .ref ik, .ref mr, .long la_, .long lb_, .ref mw, .long lc_, .int ti_, .int cb_, .long ld_, .long le_, .ref mq, .ref mz, .ref my, .int sm_, .ref mb, .int bl_, .int ta_, .int tl_, .int tk_, .int vl_, .ref mx, .ref mv])), (mr, .inl (cr_, 3, .inl gr__45))]) hP hD [0, 2] [1] rfl rfl (by decide) (by decide) hk1 hFc hP1 hD1
          generalize H1 = H at hP hS ⊢
          have hP : va_P (dC, dI) vwCl [(nw, .inl (cn_, 350, .inl fn)), (mo, .inr (12, [.ref nw, .ref kp, .ref ik, .ref mr, .long la_, .long lb_, .ref mw, .long lc_, .int ti_, .int cb_, .long ld_, .long le_, .ref mq, .ref mz, .ref my, .int sm_, .ref mb, .int bl_, .int ta_, .int tl_, .int tk_, .int vl_, .ref mx, .ref mv])), (mr, .inl (cr_, 3, .inl gr__45))] H := hP
          have hD : va_D A [(nw, .inl (cn_, 350, .inl fn)), (mo, .inr (12, [.ref nw, .ref kp, .ref ik, .ref mr, .long la_, .long lb_, .ref mw, .long lc_, .int ti_, .int cb_, .long ld_, .long le_, .ref mq, .ref mz, .ref my, .int sm_, .ref mb, .int bl_, .int ta_, .int tl_, .int tk_, .int vl_, .ref mx, .ref mv])), (mr, .inl (cr_, 3, .inl gr__45))] := hD
          obtain rfl : (-2) = r_43 := hw_44.symm
          have hP9 := hP.sub (ws' := [(mo, .inr (12, [.ref nw, .ref kp, .ref ik, .ref mr, .long la_, .long lb_, .ref mw, .long lc_, .int ti_, .int cb_, .long ld_, .long le_, .ref mq, .ref mz, .ref my, .int sm_, .ref mb, .int bl_, .int ta_, .int tl_, .int tk_, .int vl_, .ref mx, .ref mv])), (nw, .inl (cn_, 350, .inl fn)), (mr, .inl (cr_, 3, .inl gr__45))]) [1, 0, 2] rfl
          have hD9 := hD.sub (ws' := [(mo, .inr (12, [.ref nw, .ref kp, .ref ik, .ref mr, .long la_, .long lb_, .ref mw, .long lc_, .int ti_, .int cb_, .long ld_, .long le_, .ref mq, .ref mz, .ref my, .int sm_, .ref mb, .int bl_, .int ta_, .int tl_, .int tk_, .int vl_, .ref mx, .ref mv])), (nw, .inl (cn_, 350, .inl fn)), (mr, .inl (cr_, 3, .inl gr__45))]) [1, 0, 2] (by decide) rfl
          have hK9 := hK.sub (tys' := [(cn_, .int), (cr_, .int)]) [0, 1] rfl
          exact W.iret (v := (-2)) hx hb hr (fun t ht hW => ⟨⟨(-2), (), rfl, trivial, fn, gr__45, hOn, by rw [ht]; exact hP9, va_K.moved hW.alike hK9, hD9⟩, hS.F ht⟩) hS.2.2 dX12_band_36
        · exact absurd c_42 (by decide)
  · obtain rfl : 0 = r_3 := (hw_4.trans (if_neg hc_5)).symm
    refine lv_if_eq (tgt := 30) hx hb dX12_band_5 (by decide) (fun c_46 => ?_) (fun c_46 => ?_)
    · refine lv_aload_n hx hb dX12_band_30 rfl (lv_at hl 0 rfl) ?_
      refine lv_bipush (v := (-2)) hx hb dX12_band_31 (by decide) ?_
      have hPc := hP.sub (ws' := [(mo, .inr (12, [.ref nw, .ref kp, .ref ik, .ref mr, .long la_, .long lb_, .ref mw, .long lc_, .int ti_, .int cb_, .long ld_, .long le_, .ref mq, .ref mz, .ref my, .int sm_, .ref mb, .int bl_, .int ta_, .int tl_, .int tk_, .int vl_, .ref mx, .ref mv])), (mr, .inl (cr_, 3, .inl fr_))]) [0, 2] rfl
      have hDc := hD.sub (ws' := [(mo, .inr (12, [.ref nw, .ref kp, .ref ik, .ref mr, .long la_, .long lb_, .ref mw, .long lc_, .int ti_, .int cb_, .long ld_, .long le_, .ref mq, .ref mz, .ref my, .int sm_, .ref mb, .int bl_, .int ta_, .int tl_, .int tk_, .int vl_, .ref mx, .ref mv])), (mr, .inl (cr_, 3, .inl fr_))]) [0, 2] (by decide) rfl
      have hKc := hK.sub (tys' := [(cr_, .int)]) [1] rfl
      have hFc := va_free (wc := [(mo, .inr (12, [.ref nw, .ref kp, .ref ik, .ref mr, .long la_, .long lb_, .ref mw, .long lc_, .int ti_, .int cb_, .long ld_, .long le_, .ref mq, .ref mz, .ref my, .int sm_, .ref mb, .int bl_, .int ta_, .int tl_, .int tk_, .int vl_, .ref mx, .ref mv])), (mr, .inl (cr_, 3, .inl fr_))]) hD hS hA [0, 2] rfl
      refine va_calli (va_runV (As := [.int (-2)]) (rest := []) ⟨hx, hb, hml, hown, hts⟩ (m_bad l dC dI mo nw kp ik mr la_ lb_ mw lc_ ti_ cb_ ld_ le_ mq mz my sm_ mb bl_ ta_ tl_ tk_ vl_ mx mv cr_ fr_ (-2) s.heap.size) (cwV 1 hts gX12_band_X12_bad rfl rfl rfl (by decide +kernel) ⟨Nat.le_of_ble_eq_true rfl, Nat.le_of_ble_eq_true rfl⟩) ⟨fun a U g mk q => by obtain ⟨q0, q1, qP, qK, qD⟩ := q; exact ⟨q0, q1, qP, va_K.moved (u := U) (U := U.calling g mk a) (Vm.Alike.refl U.vm) qK, qD⟩, va_recv hK hP (ci := 12) (q0 := 0) rfl rfl, fun U hU hW => ⟨rfl, by rw [hU], by rw [hU]; exact hPc, va_K.moved hW.alike hKc, hDc.weaken (fun _ _ _ _ => trivial)⟩⟩ rfl rfl hl.1 rfl (lv_room (Nat.le_of_ble_eq_true rfl)) dX12_band_33 ⟨Nat.le_of_ble_eq_true rfl, Nat.le_of_ble_eq_true rfl⟩) hS (fun q _ h => hFc q h) hFc (fun r_47 u_ t H1 locs ht hvm hw_48 hB hz1 hk1 hS => ?_)
      obtain ⟨gr__49, hP1, hK1, hD1⟩ := hB
      rw [ht] at hP1
      have hK1 := va_K.moved hvm.symm hK1
      obtain ⟨hP, hD⟩ := va_join (wr := [(nw, .inl (cn_, 350, .inl fn))]) (w1 := [(mo, .inr (12, [.ref nw, .ref kp, .ref ik, .ref mr, .long la_, .long lb_, .ref mw, .long lc_, .int ti_, .int cb_, .long ld_, .long le_, .ref mq, .ref mz, .ref my, .int sm_, .ref mb, .int bl_, .int ta_, .int tl_, .int tk_, .int vl_, .ref mx, .ref mv])), (mr, .inl (cr_, 3, .inl gr__49))]) hP hD [0, 2] [1] rfl rfl (by decide) (by decide) hk1 hFc hP1 hD1
      generalize H1 = H at hP hS ⊢
      have hP : va_P (dC, dI) vwCl [(nw, .inl (cn_, 350, .inl fn)), (mo, .inr (12, [.ref nw, .ref kp, .ref ik, .ref mr, .long la_, .long lb_, .ref mw, .long lc_, .int ti_, .int cb_, .long ld_, .long le_, .ref mq, .ref mz, .ref my, .int sm_, .ref mb, .int bl_, .int ta_, .int tl_, .int tk_, .int vl_, .ref mx, .ref mv])), (mr, .inl (cr_, 3, .inl gr__49))] H := hP
      have hD : va_D A [(nw, .inl (cn_, 350, .inl fn)), (mo, .inr (12, [.ref nw, .ref kp, .ref ik, .ref mr, .long la_, .long lb_, .ref mw, .long lc_, .int ti_, .int cb_, .long ld_, .long le_, .ref mq, .ref mz, .ref my, .int sm_, .ref mb, .int bl_, .int ta_, .int tl_, .int tk_, .int vl_, .ref mx, .ref mv])), (mr, .inl (cr_, 3, .inl gr__49))] := hD
      obtain rfl : (-2) = r_47 := hw_48.symm
      have hP9 := hP.sub (ws' := [(mo, .inr (12, [.ref nw, .ref kp, .ref ik, .ref mr, .long la_, .long lb_, .ref mw, .long lc_, .int ti_, .int cb_, .long ld_, .long le_, .ref mq, .ref mz, .ref my, .int sm_, .ref mb, .int bl_, .int ta_, .int tl_, .int tk_, .int vl_, .ref mx, .ref mv])), (nw, .inl (cn_, 350, .inl fn)), (mr, .inl (cr_, 3, .inl gr__49))]) [1, 0, 2] rfl
      have hD9 := hD.sub (ws' := [(mo, .inr (12, [.ref nw, .ref kp, .ref ik, .ref mr, .long la_, .long lb_, .ref mw, .long lc_, .int ti_, .int cb_, .long ld_, .long le_, .ref mq, .ref mz, .ref my, .int sm_, .ref mb, .int bl_, .int ta_, .int tl_, .int tk_, .int vl_, .ref mx, .ref mv])), (nw, .inl (cn_, 350, .inl fn)), (mr, .inl (cr_, 3, .inl gr__49))]) [1, 0, 2] (by decide) rfl
      have hK9 := hK.sub (tys' := [(cn_, .int), (cr_, .int)]) [0, 1] rfl
      exact W.iret (v := (-2)) hx hb hr (fun t ht hW => ⟨⟨(-2), (), rfl, trivial, fn, gr__49, hOn, by rw [ht]; exact hP9, va_K.moved hW.alike hK9, hD9⟩, hS.F ht⟩) hS.2.2 dX12_band_36
    · exact absurd c_46 (by decide)
set_option maxRecDepth 20000 in
theorem ggX12_tell_X12_isBundle : GoodIn wsX12_tell wsX12_isBundle := goodIn_r _ [8, 3, 9, 10, 7, 11, 36, 37, 38, 39, 40, 41, 42, 43, 44, 45, 46, 47, 48, 49, 50, 51, 52, 53, 54, 55, 56, 57, 58, 59] (by decide +kernel) (by decide +kernel)
set_option maxRecDepth 20000 in
theorem gX12_tell_X12_isBundle : GoodIn wsX12_tell (wsV RX12 81 RX12 yX12_isBundle wsX12_isBundle) := goodIn_app (goodIn_of _ (by decide +kernel)) ggX12_tell_X12_isBundle
set_option maxRecDepth 20000 in
theorem ggX12_tell_X12_isWay : GoodIn wsX12_tell wsX12_isWay := goodIn_r _ [14, 15, 9, 10, 7, 11] (by decide +kernel) (by decide +kernel)
set_option maxRecDepth 20000 in
theorem gX12_tell_X12_isWay : GoodIn wsX12_tell (va_wsS RX12 96 yX12_isWay wsX12_isWay) := goodIn_app (goodIn_of _ (by decide +kernel)) ggX12_tell_X12_isWay
set_option maxRecDepth 20000 in
theorem ggX12_tell_X12_isClerk : GoodIn wsX12_tell wsX12_isClerk := goodIn_r _ [19, 3, 9, 10, 7, 11, 36, 37, 38, 39, 40, 41, 42, 43, 44, 45, 46, 47, 48, 49, 50, 51, 52, 53, 54, 55, 56, 57, 58, 59] (by decide +kernel) (by decide +kernel)
set_option maxRecDepth 20000 in
theorem gX12_tell_X12_isClerk : GoodIn wsX12_tell (wsV RX12 85 RX12 yX12_isClerk wsX12_isClerk) := goodIn_app (goodIn_of _ (by decide +kernel)) ggX12_tell_X12_isClerk
set_option maxRecDepth 20000 in
theorem ggX12_tell_X12_in : GoodIn wsX12_tell wsX12_in := goodIn_r _ [11] (by decide +kernel) (by decide +kernel)
set_option maxRecDepth 20000 in
theorem gX12_tell_X12_in : GoodIn wsX12_tell (va_wsS RX12 49 yX12_in wsX12_in) := goodIn_app (goodIn_of _ (by decide +kernel)) ggX12_tell_X12_in
set_option maxRecDepth 20000 in
theorem ggX12_tell_X12_keep : GoodIn wsX12_tell wsX12_keep := goodIn_r _ [32, 3, 36, 37, 38, 39, 40, 41, 42, 43, 44, 45, 46, 47, 48, 49, 50, 51, 52, 53, 54, 55, 56, 57, 58, 59] (by decide +kernel) (by decide +kernel)
set_option maxRecDepth 20000 in
theorem gX12_tell_X12_keep : GoodIn wsX12_tell (wsV RX12 103 RX12 yX12_keep wsX12_keep) := goodIn_app (goodIn_of _ (by decide +kernel)) ggX12_tell_X12_keep
set_option maxRecDepth 20000 in
theorem ggX12_tell_X12_layCount : GoodIn wsX12_tell wsX12_layCount := goodIn_r _ [35] (by decide +kernel) (by decide +kernel)
set_option maxRecDepth 20000 in
theorem gX12_tell_X12_layCount : GoodIn wsX12_tell (va_wsS RX12 106 yX12_layCount wsX12_layCount) := goodIn_app (goodIn_of _ (by decide +kernel)) ggX12_tell_X12_layCount
set_option maxRecDepth 20000 in
theorem ggX12_tell_X12_full : GoodIn wsX12_tell wsX12_full := goodIn_r _ [28, 24, 36, 37, 38, 39, 40, 41, 42, 43, 44, 45, 46, 47, 48, 49, 50, 51, 52, 53, 54, 55, 56, 57, 58, 59] (by decide +kernel) (by decide +kernel)
set_option maxRecDepth 20000 in
theorem gX12_tell_X12_full : GoodIn wsX12_tell (wsV RX12 65 RX12 yX12_full wsX12_full) := goodIn_app (goodIn_of _ (by decide +kernel)) ggX12_tell_X12_full
set_option maxRecDepth 20000 in
theorem ggX12_tell_X12_bad : GoodIn wsX12_tell wsX12_bad := goodIn_r _ [23, 24, 36, 37, 38, 39, 40, 41, 42, 43, 44, 45, 46, 47, 48, 49, 50, 51, 52, 53, 54, 55, 56, 57, 58, 59] (by decide +kernel) (by decide +kernel)
set_option maxRecDepth 20000 in
theorem gX12_tell_X12_bad : GoodIn wsX12_tell (wsV RX12 61 RX12 yX12_bad wsX12_bad) := goodIn_app (goodIn_of _ (by decide +kernel)) ggX12_tell_X12_bad
theorem dX12_tell_0 : decode cX12_tell 0 = .ok (.aload_n 0, 1) := by decide +kernel
theorem dX12_tell_1 : decode cX12_tell 1 = .ok (.iload_n 1, 1) := by decide +kernel
theorem dX12_tell_2 : decode cX12_tell 2 = .ok (.invokevirtual 81, 3) := by decide +kernel
theorem dX12_tell_5 : decode cX12_tell 5 = .ok (.ifCond .eq 33, 3) := by decide +kernel
theorem dX12_tell_8 : decode cX12_tell 8 = .ok (.iload_n 2, 1) := by decide +kernel
theorem dX12_tell_9 : decode cX12_tell 9 = .ok (.invokestatic 96, 3) := by decide +kernel
theorem dX12_tell_12 : decode cX12_tell 12 = .ok (.ifCond .eq 26, 3) := by decide +kernel
theorem dX12_tell_15 : decode cX12_tell 15 = .ok (.aload_n 0, 1) := by decide +kernel
theorem dX12_tell_16 : decode cX12_tell 16 = .ok (.iload_n 3, 1) := by decide +kernel
theorem dX12_tell_17 : decode cX12_tell 17 = .ok (.invokevirtual 85, 3) := by decide +kernel
theorem dX12_tell_20 : decode cX12_tell 20 = .ok (.ifCond .eq 18, 3) := by decide +kernel
theorem dX12_tell_23 : decode cX12_tell 23 = .ok (.iload 4, 2) := by decide +kernel
theorem dX12_tell_25 : decode cX12_tell 25 = .ok (.i2l, 1) := by decide +kernel
theorem dX12_tell_26 : decode cX12_tell 26 = .ok (.ldc2_w 99, 3) := by decide +kernel
theorem dX12_tell_29 : decode cX12_tell 29 = .ok (.ldc2_w 101, 3) := by decide +kernel
theorem dX12_tell_32 : decode cX12_tell 32 = .ok (.invokestatic 49, 3) := by decide +kernel
theorem dX12_tell_35 : decode cX12_tell 35 = .ok (.ifCond .ne 10, 3) := by decide +kernel
theorem dX12_tell_45 : decode cX12_tell 45 = .ok (.aload_n 0, 1) := by decide +kernel
theorem dX12_tell_46 : decode cX12_tell 46 = .ok (.getfield 7, 3) := by decide +kernel
theorem dX12_tell_49 : decode cX12_tell 49 = .ok (.iconst 2, 1) := by decide +kernel
theorem dX12_tell_50 : decode cX12_tell 50 = .ok (.iaload, 1) := by decide +kernel
theorem dX12_tell_51 : decode cX12_tell 51 = .ok (.bipush 8, 2) := by decide +kernel
theorem dX12_tell_53 : decode cX12_tell 53 = .ok (.if_icmp .ne 8, 3) := by decide +kernel
theorem dX12_tell_61 : decode cX12_tell 61 = .ok (.aload_n 0, 1) := by decide +kernel
theorem dX12_tell_62 : decode cX12_tell 62 = .ok (.invokevirtual 103, 3) := by decide +kernel
theorem dX12_tell_65 : decode cX12_tell 65 = .ok (.aload_n 0, 1) := by decide +kernel
theorem dX12_tell_66 : decode cX12_tell 66 = .ok (.getfield 7, 3) := by decide +kernel
theorem dX12_tell_69 : decode cX12_tell 69 = .ok (.iload_n 1, 1) := by decide +kernel
theorem dX12_tell_70 : decode cX12_tell 70 = .ok (.iload_n 2, 1) := by decide +kernel
theorem dX12_tell_71 : decode cX12_tell 71 = .ok (.iload_n 3, 1) := by decide +kernel
theorem dX12_tell_72 : decode cX12_tell 72 = .ok (.iload 4, 2) := by decide +kernel
theorem dX12_tell_74 : decode cX12_tell 74 = .ok (.invokestatic 106, 3) := by decide +kernel
theorem dX12_tell_77 : decode cX12_tell 77 = .ok (.aload_n 0, 1) := by decide +kernel
theorem dX12_tell_78 : decode cX12_tell 78 = .ok (.getfield 7, 3) := by decide +kernel
theorem dX12_tell_81 : decode cX12_tell 81 = .ok (.iconst 2, 1) := by decide +kernel
theorem dX12_tell_82 : decode cX12_tell 82 = .ok (.iaload, 1) := by decide +kernel
theorem dX12_tell_83 : decode cX12_tell 83 = .ok (.iconst 1, 1) := by decide +kernel
theorem dX12_tell_84 : decode cX12_tell 84 = .ok (.isub, 1) := by decide +kernel
theorem dX12_tell_85 : decode cX12_tell 85 = .ok (.ireturn, 1) := by decide +kernel
theorem dX12_tell_56 : decode cX12_tell 56 = .ok (.aload_n 0, 1) := by decide +kernel
theorem dX12_tell_57 : decode cX12_tell 57 = .ok (.invokevirtual 65, 3) := by decide +kernel
theorem dX12_tell_60 : decode cX12_tell 60 = .ok (.ireturn, 1) := by decide +kernel
theorem dX12_tell_38 : decode cX12_tell 38 = .ok (.aload_n 0, 1) := by decide +kernel
theorem dX12_tell_39 : decode cX12_tell 39 = .ok (.bipush (-2), 2) := by decide +kernel
theorem dX12_tell_41 : decode cX12_tell 41 = .ok (.invokevirtual 61, 3) := by decide +kernel
theorem dX12_tell_44 : decode cX12_tell 44 = .ok (.ireturn, 1) := by decide +kernel
set_option maxRecDepth 20000 in
theorem iw_m_tell_X12 : ∀ w ∈ wsX120, w ∈ wsX12_tell := by decide +kernel
set_option maxHeartbeats 4000000 in
set_option maxRecDepth 100000 in
theorem m_tell (l : Launch) (dC : Nat → ClassId) (dI : Nat → Nat → Nat) (mo : Nat) (nw : Nat) (kp : Nat) (ik : Nat) (mr : Nat) (la_ : Int64) (lb_ : Int64) (mw : Nat) (lc_ : Int64) (ti_ : Int32) (cb_ : Int32) (ld_ : Int64) (le_ : Int64) (mq : Nat) (mz : Nat) (my : Nat) (sm_ : Int32) (mb : Nat) (bl_ : Int32) (ta_ : Int32) (tl_ : Int32) (tk_ : Int32) (vl_ : Int32) (mx : Nat) (mv : Nat) (cn_ : ClassId) (fn : Nat → Int32) (cr_ : ClassId) (fr_ : Nat → Int32) (na : Int32) (nb : Int32) (nc : Int32) (nd : Int32) (sz : Nat) (hOn : tz_OK 350 fn) : Met l yX12_tell wsX12_tell ({ frames := 2, cells := 0, slots := 0, locals := 46 }) (va_Pc [.ref mo, .int na, .int nb, .int nc, .int nd] (fun U => U.heap.size = sz ∧ va_P (dC, dI) vwCl [(mo, .inr (12, [.ref nw, .ref kp, .ref ik, .ref mr, .long la_, .long lb_, .ref mw, .long lc_, .int ti_, .int cb_, .long ld_, .long le_, .ref mq, .ref mz, .ref my, .int sm_, .ref mb, .int bl_, .int ta_, .int tl_, .int tk_, .int vl_, .ref mx, .ref mv])), (nw, .inl (cn_, 350, .inl fn)), (mr, .inl (cr_, 3, .inl fr_))] U.heap ∧ va_K (dC, dI) vwCl [(cn_, .int), (cr_, .int)] U ∧ va_D (fun _ => True) [(mo, .inr (12, [.ref nw, .ref kp, .ref ik, .ref mr, .long la_, .long lb_, .ref mw, .long lc_, .int ti_, .int cb_, .long ld_, .long le_, .ref mq, .ref mz, .ref my, .int sm_, .ref mb, .int bl_, .int ta_, .int tl_, .int tk_, .int vl_, .ref mx, .ref mv])), (nw, .inl (cn_, 350, .inl fn)), (mr, .inl (cr_, 3, .inl fr_))])) (va_Qi (fun (r : Int32) (_ : Unit) => True) (fun _ t => ∃ (gn : Nat → Int32) (gr_ : Nat → Int32), (tz_OK 350 gn) ∧ va_P (dC, dI) vwCl [(mo, .inr (12, [.ref nw, .ref kp, .ref ik, .ref mr, .long la_, .long lb_, .ref mw, .long lc_, .int ti_, .int cb_, .long ld_, .long le_, .ref mq, .ref mz, .ref my, .int sm_, .ref mb, .int bl_, .int ta_, .int tl_, .int tk_, .int vl_, .ref mx, .ref mv])), (nw, .inl (cn_, 350, .inl gn)), (mr, .inl (cr_, 3, .inl gr_))] t.heap ∧ va_K (dC, dI) vwCl [(cn_, .int), (cr_, .int)] t ∧ va_D (va_A [(mo, .inr (12, [.ref nw, .ref kp, .ref ik, .ref mr, .long la_, .long lb_, .ref mw, .long lc_, .int ti_, .int cb_, .long ld_, .long le_, .ref mq, .ref mz, .ref my, .int sm_, .ref mb, .int bl_, .int ta_, .int tl_, .int tk_, .int vl_, .ref mx, .ref mv])), (nw, .inl (cn_, 350, .inl fn)), (mr, .inl (cr_, 3, .inl fr_))] sz) [(mo, .inr (12, [.ref nw, .ref kp, .ref ik, .ref mr, .long la_, .long lb_, .ref mw, .long lc_, .int ti_, .int cb_, .long ld_, .long le_, .ref mq, .ref mz, .ref my, .int sm_, .ref mb, .int bl_, .int ta_, .int tl_, .int tk_, .int vl_, .ref mx, .ref mv])), (nw, .inl (cn_, 350, .inl gn)), (mr, .inl (cr_, 3, .inl gr_))]) (va_A [(mo, .inr (12, [.ref nw, .ref kp, .ref ik, .ref mr, .long la_, .long lb_, .ref mw, .long lc_, .int ti_, .int cb_, .long ld_, .long le_, .ref mq, .ref mz, .ref my, .int sm_, .ref mb, .int bl_, .int ta_, .int tl_, .int tk_, .int vl_, .ref mx, .ref mv])), (nw, .inl (cn_, 350, .inl fn)), (mr, .inl (cr_, 3, .inl fr_))] sz)) 0 0 (va_A [(mo, .inr (12, [.ref nw, .ref kp, .ref ik, .ref mr, .long la_, .long lb_, .ref mw, .long lc_, .int ti_, .int cb_, .long ld_, .long le_, .ref mq, .ref mz, .ref my, .int sm_, .ref mb, .int bl_, .int ta_, .int tl_, .int tk_, .int vl_, .ref mx, .ref mv])), (nw, .inl (cn_, 350, .inl fn)), (mr, .inl (cr_, 3, .inl fr_))] sz) := by
  refine Met.ofW (cc := cX12_tell) (maxL := 5) (ret := (some .int)) (by decide) rfl ?_
  intro p e s m args below meth c s₁ B hml hv
  obtain ⟨rfl, hsz, hP, hK, hD0⟩ := hv
  have hx := B.exec
  have hb := B.bytes
  have hr := B.returns
  have hts := atoms_spec (ws := wsX12_tell) B.pre
  have hown : s.vm.findClass RX12 = some m.cls := findClass_of_methodNamed B.named
  have hlocks := B.notSynchronized
  subst hsz
  have hD := hD0.self (sz := s.heap.size)
  generalize hAe : va_A [(mo, .inr (12, [.ref nw, .ref kp, .ref ik, .ref mr, .long la_, .long lb_, .ref mw, .long lc_, .int ti_, .int cb_, .long ld_, .long le_, .ref mq, .ref mz, .ref my, .int sm_, .ref mb, .int bl_, .int ta_, .int tl_, .int tk_, .int vl_, .ref mx, .ref mv])), (nw, .inl (cn_, 350, .inl fn)), (mr, .inl (cr_, 3, .inl fr_))] s.heap.size = A at hD ⊢
  have hA : ∀ q : Nat, s.heap.size ≤ q → A q := fun q h => by rw [← hAe]; exact Or.inr h
  have hS : va_S A s.heap s.heap [] := va_S.rf
  have hP : va_P (dC, dI) vwCl [(mo, .inr (12, [.ref nw, .ref kp, .ref ik, .ref mr, .long la_, .long lb_, .ref mw, .long lc_, .int ti_, .int cb_, .long ld_, .long le_, .ref mq, .ref mz, .ref my, .int sm_, .ref mb, .int bl_, .int ta_, .int tl_, .int tk_, .int vl_, .ref mx, .ref mv])), (nw, .inl (cn_, 350, .inl fn)), (mr, .inl (cr_, 3, .inl fr_))] s.heap := hP
  have hl := lv_entry ([.ref mo, .int na, .int nb, .int nc, .int nd]) (n := 5) (Nat.le_of_ble_eq_true rfl)
  rw [lg_entry_eq]
  generalize (lg_sl ([.ref mo, .int na, .int nb, .int nc, .int nd]) ++ List.replicate (5 - (lg_sl ([.ref mo, .int na, .int nb, .int nc, .int nd])).length) Slot.unset).toArray = ls at hl ⊢
  have hl : lv_has ls 5 [(0, .ref mo), (1, .int na), (2, .int nb), (3, .int nc), (4, .int nd)] := hl
  refine lv_aload_n hx hb dX12_tell_0 rfl (lv_at hl 0 rfl) ?_
  refine lv_iload_n hx hb dX12_tell_1 rfl (lv_at hl 1 rfl) ?_
  have hPc_1 := hP.sub (ws' := [(mo, .inr (12, [.ref nw, .ref kp, .ref ik, .ref mr, .long la_, .long lb_, .ref mw, .long lc_, .int ti_, .int cb_, .long ld_, .long le_, .ref mq, .ref mz, .ref my, .int sm_, .ref mb, .int bl_, .int ta_, .int tl_, .int tk_, .int vl_, .ref mx, .ref mv])), (nw, .inl (cn_, 350, .inl fn))]) [0, 1] rfl
  have hKc_2 := hK.sub (tys' := [(cn_, .int)]) [0] rfl
  refine vp_callSi (va_Run.run (va_runV (As := [.int na]) (rest := []) ⟨hx, hb, hml, hown, hts⟩ (m_isBundle l dC dI mo nw kp ik mr la_ lb_ mw lc_ ti_ cb_ ld_ le_ mq mz my sm_ mb bl_ ta_ tl_ tk_ vl_ mx mv cn_ fn na hOn) (cwV 1 hts gX12_tell_X12_isBundle rfl rfl rfl (by decide +kernel) ⟨Nat.le_of_ble_eq_true rfl, Nat.le_of_ble_eq_true rfl⟩) ⟨fun a U g mk q => by obtain ⟨q0, qP, qK⟩ := q; exact ⟨q0, qP, va_K.moved (u := U) (U := U.calling g mk a) (Vm.Alike.refl U.vm) qK⟩, va_recv hK hP (ci := 12) (q0 := 0) rfl rfl, fun U hU hW => ⟨rfl, by rw [hU]; exact hPc_1, va_K.moved hW.alike hKc_2⟩⟩ rfl rfl hl.1 rfl (lv_room (Nat.le_of_ble_eq_true rfl)) dX12_tell_2 ⟨Nat.le_of_ble_eq_true rfl, Nat.le_of_ble_eq_true rfl⟩)) (fun r_3 hw_4 => ?_)
  by_cases hc_5 : 0 ≤ na ∧ na < (fn 1)
  · obtain rfl : 1 = r_3 := (hw_4.trans (if_pos hc_5)).symm
    obtain ⟨j_7, hj_8, ej_9⟩ := hOn.nat (K := 1) (n := 5) (by omega) (show tz_b 1 = (0, 5) from by decide)
    obtain ⟨j_6, hj_10, rfl⟩ := tz_idx2 (J := j_7) hc_5 ej_9 (by omega)
    refine lv_if_eq (tgt := 38) hx hb dX12_tell_5 (by decide) (fun c_11 => ?_) (fun c_11 => ?_)
    · exact absurd c_11 (by decide)
    · refine lv_iload_n hx hb dX12_tell_8 rfl (lv_at hl 2 rfl) ?_
      refine vp_callSi (va_Run.run (va_runS (As := [.int nb]) (rest := []) ⟨hx, hb, hml, hown, hts⟩ (m_isWay l dC dI nb) (va_cwS 1 hts gX12_tell_X12_isWay rfl rfl rfl (by decide +kernel) ⟨Nat.le_of_ble_eq_true rfl, Nat.le_of_ble_eq_true rfl⟩) ⟨fun a U g mk q => ⟨q.1, trivial⟩, fun U hU hW => ⟨rfl, trivial⟩⟩ rfl rfl hl.1 rfl (lv_room (Nat.le_of_ble_eq_true rfl)) dX12_tell_9 ⟨Nat.le_of_ble_eq_true rfl, Nat.le_of_ble_eq_true rfl⟩)) (fun r_12 hw_13 => ?_)
      by_cases hc_14 : 0 ≤ nb ∧ nb ≤ 5
      · obtain rfl : 1 = r_12 := (hw_13.trans (if_pos hc_14)).symm
        obtain ⟨j_15, hj_16, hj_17, rfl⟩ := tz_pickL (l := 0) (n := 5) hc_14 (by decide) (by decide)
        refine lv_if_eq (tgt := 38) hx hb dX12_tell_12 (by decide) (fun c_18 => ?_) (fun c_18 => ?_)
        · exact absurd c_18 (by decide)
        · refine lv_aload_n hx hb dX12_tell_15 rfl (lv_at hl 0 rfl) ?_
          refine lv_iload_n hx hb dX12_tell_16 rfl (lv_at hl 3 rfl) ?_
          have hPc_19 := hP.sub (ws' := [(mo, .inr (12, [.ref nw, .ref kp, .ref ik, .ref mr, .long la_, .long lb_, .ref mw, .long lc_, .int ti_, .int cb_, .long ld_, .long le_, .ref mq, .ref mz, .ref my, .int sm_, .ref mb, .int bl_, .int ta_, .int tl_, .int tk_, .int vl_, .ref mx, .ref mv])), (nw, .inl (cn_, 350, .inl fn))]) [0, 1] rfl
          have hKc_20 := hK.sub (tys' := [(cn_, .int)]) [0] rfl
          refine vp_callSi (va_Run.run (va_runV (As := [.int nc]) (rest := []) ⟨hx, hb, hml, hown, hts⟩ (m_isClerk l dC dI mo nw kp ik mr la_ lb_ mw lc_ ti_ cb_ ld_ le_ mq mz my sm_ mb bl_ ta_ tl_ tk_ vl_ mx mv cn_ fn nc hOn) (cwV 1 hts gX12_tell_X12_isClerk rfl rfl rfl (by decide +kernel) ⟨Nat.le_of_ble_eq_true rfl, Nat.le_of_ble_eq_true rfl⟩) ⟨fun a U g mk q => by obtain ⟨q0, qP, qK⟩ := q; exact ⟨q0, qP, va_K.moved (u := U) (U := U.calling g mk a) (Vm.Alike.refl U.vm) qK⟩, va_recv hK hP (ci := 12) (q0 := 0) rfl rfl, fun U hU hW => ⟨rfl, by rw [hU]; exact hPc_19, va_K.moved hW.alike hKc_20⟩⟩ rfl rfl hl.1 rfl (lv_room (Nat.le_of_ble_eq_true rfl)) dX12_tell_17 ⟨Nat.le_of_ble_eq_true rfl, Nat.le_of_ble_eq_true rfl⟩)) (fun r_21 hw_22 => ?_)
          by_cases hc_23 : 0 ≤ nc ∧ nc < (fn 0)
          · obtain rfl : 1 = r_21 := (hw_22.trans (if_pos hc_23)).symm
            obtain ⟨j_25, hj_26, ej_27⟩ := hOn.nat (K := 0) (n := 5) (by omega) (show tz_b 0 = (0, 5) from by decide)
            obtain ⟨j_24, hj_28, rfl⟩ := tz_idx2 (J := j_25) hc_23 ej_27 (by omega)
            refine lv_if_eq (tgt := 38) hx hb dX12_tell_20 (by decide) (fun c_29 => ?_) (fun c_29 => ?_)
            · exact absurd c_29 (by decide)
            · refine lv_iload hx hb dX12_tell_23 (lv_at hl 4 rfl) ?_
              refine lv_i2l (v := nd.toInt64) hx hb dX12_tell_25 rfl ?_
              refine lv_ldc2 hx hb hown (hts (.constantLong RX12 99 (80)) (by decide +kernel)) dX12_tell_26 ?_
              refine lv_ldc2 hx hb hown (hts (.constantLong RX12 101 (120)) (by decide +kernel)) dX12_tell_29 ?_
              refine vp_callSi (va_Run.run (va_runS (As := [.long nd.toInt64, .long 80, .long 120]) (rest := []) ⟨hx, hb, hml, hown, hts⟩ (m_in l dC dI nd.toInt64 80 120) (va_cwS 3 hts gX12_tell_X12_in rfl rfl rfl (by decide +kernel) ⟨Nat.le_of_ble_eq_true rfl, Nat.le_of_ble_eq_true rfl⟩) ⟨fun a U g mk q => ⟨q.1, trivial⟩, fun U hU hW => ⟨rfl, trivial⟩⟩ rfl rfl hl.1 rfl (lv_room (Nat.le_of_ble_eq_true rfl)) dX12_tell_32 ⟨Nat.le_of_ble_eq_true rfl, Nat.le_of_ble_eq_true rfl⟩)) (fun r_30 hw_31 => ?_)
              by_cases hc_32 : 80 ≤ nd ∧ nd ≤ 120
              · obtain rfl : 1 = r_30 := (hw_31.trans (if_pos ((tz_in64 (by first | rfl | decide) rfl (by first | rfl | decide)).mpr hc_32))).symm
                obtain ⟨j_33, hj_34, hj_35, rfl⟩ := tz_pickL (l := 80) (n := 120) hc_32 (by decide) (by decide)
                refine lv_if_ne (tgt := 45) hx hb dX12_tell_35 (by decide) (fun c_36 => ?_) (fun c_36 => ?_)
                · refine lv_aload_n hx hb dX12_tell_45 rfl (lv_at hl 0 rfl) ?_
                  refine va_get (D := (dC, dI)) (ci := 12) (v := .ref nw) (C := RX12) (T := TX12) (N := 24) hx hb hts iw_m_tell_X12 hown hK hP 0 rfl rfl 0 (by decide) (hts (.fieldLink RX12 7 "ThriceCountedModel" "now" "[I") (by decide +kernel)) (fun _ h9 => h9) rfl dX12_tell_46 ?_
                  refine lv_iconst (v := 2) hx hb dX12_tell_49 (by decide) ?_
                  refine va_iald hx hb hK hP 1 0 rfl rfl (show ¬ ((2 : Int32) < 0 ∨ 350 ≤ (2 : Int32).toNatClampNeg) by decide) dX12_tell_50 ?_
                  obtain ⟨j_37, hj_38, ej_39⟩ := hOn.nat (K := 2) (n := 8) (by omega) (show tz_b 2 = (0, 8) from by decide)
                  refine tz_i (nI j_37) ej_39 ?_
                  refine lv_bipush (v := 8) hx hb dX12_tell_51 (by decide) ?_
                  refine lv_icmp_ne (tgt := 61) hx hb dX12_tell_53 (by decide) (fun c_40 => ?_) (fun c_40 => ?_)
                  · have hn_41 : ¬ j_37 = 8 := fun q => c_40 ((nI_eq (a := j_37) (b := 8) (by omega) (by omega)).mpr q)
                    refine lv_aload_n hx hb dX12_tell_61 rfl (lv_at hl 0 rfl) ?_
                    have hPc := hP.sub (ws' := [(mo, .inr (12, [.ref nw, .ref kp, .ref ik, .ref mr, .long la_, .long lb_, .ref mw, .long lc_, .int ti_, .int cb_, .long ld_, .long le_, .ref mq, .ref mz, .ref my, .int sm_, .ref mb, .int bl_, .int ta_, .int tl_, .int tk_, .int vl_, .ref mx, .ref mv])), (nw, .inl (cn_, 350, .inl fn))]) [0, 1] rfl
                    have hDc := hD.sub (ws' := [(mo, .inr (12, [.ref nw, .ref kp, .ref ik, .ref mr, .long la_, .long lb_, .ref mw, .long lc_, .int ti_, .int cb_, .long ld_, .long le_, .ref mq, .ref mz, .ref my, .int sm_, .ref mb, .int bl_, .int ta_, .int tl_, .int tk_, .int vl_, .ref mx, .ref mv])), (nw, .inl (cn_, 350, .inl fn))]) [0, 1] (by decide) rfl
                    have hKc := hK.sub (tys' := [(cn_, .int)]) [0] rfl
                    have hFc := va_free (wc := [(mo, .inr (12, [.ref nw, .ref kp, .ref ik, .ref mr, .long la_, .long lb_, .ref mw, .long lc_, .int ti_, .int cb_, .long ld_, .long le_, .ref mq, .ref mz, .ref my, .int sm_, .ref mb, .int bl_, .int ta_, .int tl_, .int tk_, .int vl_, .ref mx, .ref mv])), (nw, .inl (cn_, 350, .inl fn))]) hD hS hA [0, 1] rfl
                    refine va_callv (va_runV (As := []) (rest := []) ⟨hx, hb, hml, hown, hts⟩ (m_keep l dC dI mo nw kp ik mr la_ lb_ mw lc_ ti_ cb_ ld_ le_ mq mz my sm_ mb bl_ ta_ tl_ tk_ vl_ mx mv cn_ fn j_37 s.heap.size hOn ej_39 (by omega)) (cwV 0 hts gX12_tell_X12_keep rfl rfl rfl (by decide +kernel) ⟨Nat.le_of_ble_eq_true rfl, Nat.le_of_ble_eq_true rfl⟩) ⟨fun a U g mk q => by obtain ⟨q0, q1, qP, qK, qD⟩ := q; exact ⟨q0, q1, qP, va_K.moved (u := U) (U := U.calling g mk a) (Vm.Alike.refl U.vm) qK, qD⟩, va_recv hK hP (ci := 12) (q0 := 0) rfl rfl, fun U hU hW => ⟨rfl, by rw [hU], by rw [hU]; exact hPc, va_K.moved hW.alike hKc, hDc.weaken (fun _ _ _ _ => trivial)⟩⟩ rfl rfl hl.1 rfl (lv_room (Nat.le_of_ble_eq_true rfl)) dX12_tell_62 ⟨Nat.le_of_ble_eq_true rfl, Nat.le_of_ble_eq_true rfl⟩) hS (fun q _ h => hFc q h) hFc (fun u_ t H1 locs ht hvm hw_43 hB hz1 hk1 hS => ?_)
                    obtain ⟨gn_44, hf_45, hf_46, hP1, hK1, hD1⟩ := hB
                    rw [ht] at hP1
                    have hK1 := va_K.moved hvm.symm hK1
                    obtain ⟨hP, hD⟩ := va_join (wr := [(mr, .inl (cr_, 3, .inl fr_))]) (w1 := [(mo, .inr (12, [.ref nw, .ref kp, .ref ik, .ref mr, .long la_, .long lb_, .ref mw, .long lc_, .int ti_, .int cb_, .long ld_, .long le_, .ref mq, .ref mz, .ref my, .int sm_, .ref mb, .int bl_, .int ta_, .int tl_, .int tk_, .int vl_, .ref mx, .ref mv])), (nw, .inl (cn_, 350, .inl gn_44))]) hP hD [0, 1] [2] rfl rfl (by decide) (by decide) hk1 hFc hP1 hD1
                    generalize H1 = H at hP hS ⊢
                    have hP : va_P (dC, dI) vwCl [(mr, .inl (cr_, 3, .inl fr_)), (mo, .inr (12, [.ref nw, .ref kp, .ref ik, .ref mr, .long la_, .long lb_, .ref mw, .long lc_, .int ti_, .int cb_, .long ld_, .long le_, .ref mq, .ref mz, .ref my, .int sm_, .ref mb, .int bl_, .int ta_, .int tl_, .int tk_, .int vl_, .ref mx, .ref mv])), (nw, .inl (cn_, 350, .inl gn_44))] H := hP
                    have hD : va_D A [(mr, .inl (cr_, 3, .inl fr_)), (mo, .inr (12, [.ref nw, .ref kp, .ref ik, .ref mr, .long la_, .long lb_, .ref mw, .long lc_, .int ti_, .int cb_, .long ld_, .long le_, .ref mq, .ref mz, .ref my, .int sm_, .ref mb, .int bl_, .int ta_, .int tl_, .int tk_, .int vl_, .ref mx, .ref mv])), (nw, .inl (cn_, 350, .inl gn_44))] := hD
                    refine lv_aload_n hx hb dX12_tell_65 rfl (lv_at hl 0 rfl) ?_
                    refine va_get (D := (dC, dI)) (ci := 12) (v := .ref nw) (C := RX12) (T := TX12) (N := 24) hx hb hts iw_m_tell_X12 hown hK hP 1 rfl rfl 0 (by decide) (hts (.fieldLink RX12 7 "ThriceCountedModel" "now" "[I") (by decide +kernel)) (fun _ h9 => h9) rfl dX12_tell_66 ?_
                    refine lv_iload_n hx hb dX12_tell_69 rfl (lv_at hl 1 rfl) ?_
                    refine lv_iload_n hx hb dX12_tell_70 rfl (lv_at hl 2 rfl) ?_
                    refine lv_iload_n hx hb dX12_tell_71 rfl (lv_at hl 3 rfl) ?_
                    refine lv_iload hx hb dX12_tell_72 (lv_at hl 4 rfl) ?_
                    have hPc := hP.sub (ws' := [(nw, .inl (cn_, 350, .inl gn_44))]) [2] rfl
                    have hDc := hD.sub (ws' := [(nw, .inl (cn_, 350, .inl gn_44))]) [2] (by decide) rfl
                    have hKc := hK.sub (tys' := [(cn_, .int)]) [0] rfl
                    have hFc := va_free (wc := [(nw, .inl (cn_, 350, .inl gn_44))]) hD hS hA [2] rfl
                    refine va_callv (va_runS (As := [.ref nw, .int (nI j_6), .int (nI j_15), .int (nI j_24), .int (nI j_33)]) (rest := []) ⟨hx, hb, hml, hown, hts⟩ (m_layCount_350 l dC dI nw cn_ gn_44 j_6 j_15 (nI j_24) (nI j_33) j_37 H.size hf_45 (by omega) (by omega) (by omega) hf_46) (va_cwS 5 hts gX12_tell_X12_layCount rfl rfl rfl (by decide +kernel) ⟨Nat.le_of_ble_eq_true rfl, Nat.le_of_ble_eq_true rfl⟩) ⟨fun a U g mk q => by obtain ⟨q0, q1, qP, qK, qD⟩ := q; exact ⟨q0, q1, qP, va_K.moved (u := U) (U := U.calling g mk a) (Vm.Alike.refl U.vm) qK, qD⟩, fun U hU hW => ⟨rfl, by rw [hU], by rw [hU]; exact hPc, va_K.moved hW.alike hKc, hDc.weaken (fun _ _ _ _ => trivial)⟩⟩ rfl rfl hl.1 rfl (lv_room (Nat.le_of_ble_eq_true rfl)) dX12_tell_74 ⟨Nat.le_of_ble_eq_true rfl, Nat.le_of_ble_eq_true rfl⟩) hS (fun q _ h => hFc q h) hFc (fun u_ t H1 locs ht hvm hw_48 hB hz1 hk1 hS => ?_)
                    obtain ⟨gf_49, hf_50, hP1, hK1, hD1⟩ := hB
                    rw [ht] at hP1
                    have hK1 := va_K.moved hvm.symm hK1
                    obtain ⟨hP, hD⟩ := va_join (wr := [(mr, .inl (cr_, 3, .inl fr_)), (mo, .inr (12, [.ref nw, .ref kp, .ref ik, .ref mr, .long la_, .long lb_, .ref mw, .long lc_, .int ti_, .int cb_, .long ld_, .long le_, .ref mq, .ref mz, .ref my, .int sm_, .ref mb, .int bl_, .int ta_, .int tl_, .int tk_, .int vl_, .ref mx, .ref mv]))]) (w1 := [(nw, .inl (cn_, 350, .inl gf_49))]) hP hD [2] [0, 1] rfl rfl (by decide) (by decide) hk1 hFc hP1 hD1
                    generalize H1 = H at hP hS ⊢
                    have hP : va_P (dC, dI) vwCl [(mr, .inl (cr_, 3, .inl fr_)), (mo, .inr (12, [.ref nw, .ref kp, .ref ik, .ref mr, .long la_, .long lb_, .ref mw, .long lc_, .int ti_, .int cb_, .long ld_, .long le_, .ref mq, .ref mz, .ref my, .int sm_, .ref mb, .int bl_, .int ta_, .int tl_, .int tk_, .int vl_, .ref mx, .ref mv])), (nw, .inl (cn_, 350, .inl gf_49))] H := hP
                    have hD : va_D A [(mr, .inl (cr_, 3, .inl fr_)), (mo, .inr (12, [.ref nw, .ref kp, .ref ik, .ref mr, .long la_, .long lb_, .ref mw, .long lc_, .int ti_, .int cb_, .long ld_, .long le_, .ref mq, .ref mz, .ref my, .int sm_, .ref mb, .int bl_, .int ta_, .int tl_, .int tk_, .int vl_, .ref mx, .ref mv])), (nw, .inl (cn_, 350, .inl gf_49))] := hD
                    refine lv_aload_n hx hb dX12_tell_77 rfl (lv_at hl 0 rfl) ?_
                    refine va_get (D := (dC, dI)) (ci := 12) (v := .ref nw) (C := RX12) (T := TX12) (N := 24) hx hb hts iw_m_tell_X12 hown hK hP 1 rfl rfl 0 (by decide) (hts (.fieldLink RX12 7 "ThriceCountedModel" "now" "[I") (by decide +kernel)) (fun _ h9 => h9) rfl dX12_tell_78 ?_
                    refine lv_iconst (v := 2) hx hb dX12_tell_81 (by decide) ?_
                    refine va_iald hx hb hK hP 2 0 rfl rfl (show ¬ ((2 : Int32) < 0 ∨ 350 ≤ (2 : Int32).toNatClampNeg) by decide) dX12_tell_82 ?_
                    obtain ⟨j_51, hj_52, ej_53⟩ := hf_50.nat (K := 2) (n := 8) (by omega) (show tz_b 2 = (0, 8) from by decide)
                    refine tz_i (nI j_51) ej_53 ?_
                    refine lv_iconst (v := 1) hx hb dX12_tell_83 (by decide) ?_
                    refine lv_isub hx hb dX12_tell_84 ?_
                    refine lv_topi (fun x_54 _ => ?_)
                    have hP9 := hP.sub (ws' := [(mo, .inr (12, [.ref nw, .ref kp, .ref ik, .ref mr, .long la_, .long lb_, .ref mw, .long lc_, .int ti_, .int cb_, .long ld_, .long le_, .ref mq, .ref mz, .ref my, .int sm_, .ref mb, .int bl_, .int ta_, .int tl_, .int tk_, .int vl_, .ref mx, .ref mv])), (nw, .inl (cn_, 350, .inl gf_49)), (mr, .inl (cr_, 3, .inl fr_))]) [1, 2, 0] rfl
                    have hD9 := hD.sub (ws' := [(mo, .inr (12, [.ref nw, .ref kp, .ref ik, .ref mr, .long la_, .long lb_, .ref mw, .long lc_, .int ti_, .int cb_, .long ld_, .long le_, .ref mq, .ref mz, .ref my, .int sm_, .ref mb, .int bl_, .int ta_, .int tl_, .int tk_, .int vl_, .ref mx, .ref mv])), (nw, .inl (cn_, 350, .inl gf_49)), (mr, .inl (cr_, 3, .inl fr_))]) [1, 2, 0] (by decide) rfl
                    have hK9 := hK.sub (tys' := [(cn_, .int), (cr_, .int)]) [0, 1] rfl
                    exact W.iret (v := x_54) hx hb hr (fun t ht hW => ⟨⟨x_54, (), rfl, trivial, gf_49, fr_, hf_50, by rw [ht]; exact hP9, va_K.moved hW.alike hK9, hD9⟩, hS.F ht⟩) hS.2.2 dX12_tell_85
                  · have hn_55 : j_37 = 8 := (nI_eq (a := j_37) (b := 8) (by omega) (by omega)).mp c_40
                    refine lv_aload_n hx hb dX12_tell_56 rfl (lv_at hl 0 rfl) ?_
                    have hPc := hP.sub (ws' := [(mo, .inr (12, [.ref nw, .ref kp, .ref ik, .ref mr, .long la_, .long lb_, .ref mw, .long lc_, .int ti_, .int cb_, .long ld_, .long le_, .ref mq, .ref mz, .ref my, .int sm_, .ref mb, .int bl_, .int ta_, .int tl_, .int tk_, .int vl_, .ref mx, .ref mv])), (mr, .inl (cr_, 3, .inl fr_))]) [0, 2] rfl
                    have hDc := hD.sub (ws' := [(mo, .inr (12, [.ref nw, .ref kp, .ref ik, .ref mr, .long la_, .long lb_, .ref mw, .long lc_, .int ti_, .int cb_, .long ld_, .long le_, .ref mq, .ref mz, .ref my, .int sm_, .ref mb, .int bl_, .int ta_, .int tl_, .int tk_, .int vl_, .ref mx, .ref mv])), (mr, .inl (cr_, 3, .inl fr_))]) [0, 2] (by decide) rfl
                    have hKc := hK.sub (tys' := [(cr_, .int)]) [1] rfl
                    have hFc := va_free (wc := [(mo, .inr (12, [.ref nw, .ref kp, .ref ik, .ref mr, .long la_, .long lb_, .ref mw, .long lc_, .int ti_, .int cb_, .long ld_, .long le_, .ref mq, .ref mz, .ref my, .int sm_, .ref mb, .int bl_, .int ta_, .int tl_, .int tk_, .int vl_, .ref mx, .ref mv])), (mr, .inl (cr_, 3, .inl fr_))]) hD hS hA [0, 2] rfl
                    refine va_calli (va_runV (As := []) (rest := []) ⟨hx, hb, hml, hown, hts⟩ (m_full l dC dI mo nw kp ik mr la_ lb_ mw lc_ ti_ cb_ ld_ le_ mq mz my sm_ mb bl_ ta_ tl_ tk_ vl_ mx mv cr_ fr_ s.heap.size) (cwV 0 hts gX12_tell_X12_full rfl rfl rfl (by decide +kernel) ⟨Nat.le_of_ble_eq_true rfl, Nat.le_of_ble_eq_true rfl⟩) ⟨fun a U g mk q => by obtain ⟨q0, q1, qP, qK, qD⟩ := q; exact ⟨q0, q1, qP, va_K.moved (u := U) (U := U.calling g mk a) (Vm.Alike.refl U.vm) qK, qD⟩, va_recv hK hP (ci := 12) (q0 := 0) rfl rfl, fun U hU hW => ⟨rfl, by rw [hU], by rw [hU]; exact hPc, va_K.moved hW.alike hKc, hDc.weaken (fun _ _ _ _ => trivial)⟩⟩ rfl rfl hl.1 rfl (lv_room (Nat.le_of_ble_eq_true rfl)) dX12_tell_57 ⟨Nat.le_of_ble_eq_true rfl, Nat.le_of_ble_eq_true rfl⟩) hS (fun q _ h => hFc q h) hFc (fun r_56 u_ t H1 locs ht hvm hw_57 hB hz1 hk1 hS => ?_)
                    obtain ⟨gr__58, hP1, hK1, hD1⟩ := hB
                    rw [ht] at hP1
                    have hK1 := va_K.moved hvm.symm hK1
                    obtain ⟨hP, hD⟩ := va_join (wr := [(nw, .inl (cn_, 350, .inl fn))]) (w1 := [(mo, .inr (12, [.ref nw, .ref kp, .ref ik, .ref mr, .long la_, .long lb_, .ref mw, .long lc_, .int ti_, .int cb_, .long ld_, .long le_, .ref mq, .ref mz, .ref my, .int sm_, .ref mb, .int bl_, .int ta_, .int tl_, .int tk_, .int vl_, .ref mx, .ref mv])), (mr, .inl (cr_, 3, .inl gr__58))]) hP hD [0, 2] [1] rfl rfl (by decide) (by decide) hk1 hFc hP1 hD1
                    generalize H1 = H at hP hS ⊢
                    have hP : va_P (dC, dI) vwCl [(nw, .inl (cn_, 350, .inl fn)), (mo, .inr (12, [.ref nw, .ref kp, .ref ik, .ref mr, .long la_, .long lb_, .ref mw, .long lc_, .int ti_, .int cb_, .long ld_, .long le_, .ref mq, .ref mz, .ref my, .int sm_, .ref mb, .int bl_, .int ta_, .int tl_, .int tk_, .int vl_, .ref mx, .ref mv])), (mr, .inl (cr_, 3, .inl gr__58))] H := hP
                    have hD : va_D A [(nw, .inl (cn_, 350, .inl fn)), (mo, .inr (12, [.ref nw, .ref kp, .ref ik, .ref mr, .long la_, .long lb_, .ref mw, .long lc_, .int ti_, .int cb_, .long ld_, .long le_, .ref mq, .ref mz, .ref my, .int sm_, .ref mb, .int bl_, .int ta_, .int tl_, .int tk_, .int vl_, .ref mx, .ref mv])), (mr, .inl (cr_, 3, .inl gr__58))] := hD
                    obtain rfl : (-4) = r_56 := hw_57.symm
                    have hP9 := hP.sub (ws' := [(mo, .inr (12, [.ref nw, .ref kp, .ref ik, .ref mr, .long la_, .long lb_, .ref mw, .long lc_, .int ti_, .int cb_, .long ld_, .long le_, .ref mq, .ref mz, .ref my, .int sm_, .ref mb, .int bl_, .int ta_, .int tl_, .int tk_, .int vl_, .ref mx, .ref mv])), (nw, .inl (cn_, 350, .inl fn)), (mr, .inl (cr_, 3, .inl gr__58))]) [1, 0, 2] rfl
                    have hD9 := hD.sub (ws' := [(mo, .inr (12, [.ref nw, .ref kp, .ref ik, .ref mr, .long la_, .long lb_, .ref mw, .long lc_, .int ti_, .int cb_, .long ld_, .long le_, .ref mq, .ref mz, .ref my, .int sm_, .ref mb, .int bl_, .int ta_, .int tl_, .int tk_, .int vl_, .ref mx, .ref mv])), (nw, .inl (cn_, 350, .inl fn)), (mr, .inl (cr_, 3, .inl gr__58))]) [1, 0, 2] (by decide) rfl
                    have hK9 := hK.sub (tys' := [(cn_, .int), (cr_, .int)]) [0, 1] rfl
                    exact W.iret (v := (-4)) hx hb hr (fun t ht hW => ⟨⟨(-4), (), rfl, trivial, fn, gr__58, hOn, by rw [ht]; exact hP9, va_K.moved hW.alike hK9, hD9⟩, hS.F ht⟩) hS.2.2 dX12_tell_60
                · exact absurd c_36 (by decide)
              · obtain rfl : 0 = r_30 := (hw_31.trans (if_neg (fun z => hc_32 ((tz_in64 (by first | rfl | decide) rfl (by first | rfl | decide)).mp z)))).symm
                refine lv_if_ne (tgt := 45) hx hb dX12_tell_35 (by decide) (fun c_59 => ?_) (fun c_59 => ?_)
                · exact absurd c_59 (by decide)
                · refine lv_aload_n hx hb dX12_tell_38 rfl (lv_at hl 0 rfl) ?_
                  refine lv_bipush (v := (-2)) hx hb dX12_tell_39 (by decide) ?_
                  have hPc := hP.sub (ws' := [(mo, .inr (12, [.ref nw, .ref kp, .ref ik, .ref mr, .long la_, .long lb_, .ref mw, .long lc_, .int ti_, .int cb_, .long ld_, .long le_, .ref mq, .ref mz, .ref my, .int sm_, .ref mb, .int bl_, .int ta_, .int tl_, .int tk_, .int vl_, .ref mx, .ref mv])), (mr, .inl (cr_, 3, .inl fr_))]) [0, 2] rfl
                  have hDc := hD.sub (ws' := [(mo, .inr (12, [.ref nw, .ref kp, .ref ik, .ref mr, .long la_, .long lb_, .ref mw, .long lc_, .int ti_, .int cb_, .long ld_, .long le_, .ref mq, .ref mz, .ref my, .int sm_, .ref mb, .int bl_, .int ta_, .int tl_, .int tk_, .int vl_, .ref mx, .ref mv])), (mr, .inl (cr_, 3, .inl fr_))]) [0, 2] (by decide) rfl
                  have hKc := hK.sub (tys' := [(cr_, .int)]) [1] rfl
                  have hFc := va_free (wc := [(mo, .inr (12, [.ref nw, .ref kp, .ref ik, .ref mr, .long la_, .long lb_, .ref mw, .long lc_, .int ti_, .int cb_, .long ld_, .long le_, .ref mq, .ref mz, .ref my, .int sm_, .ref mb, .int bl_, .int ta_, .int tl_, .int tk_, .int vl_, .ref mx, .ref mv])), (mr, .inl (cr_, 3, .inl fr_))]) hD hS hA [0, 2] rfl
                  refine va_calli (va_runV (As := [.int (-2)]) (rest := []) ⟨hx, hb, hml, hown, hts⟩ (m_bad l dC dI mo nw kp ik mr la_ lb_ mw lc_ ti_ cb_ ld_ le_ mq mz my sm_ mb bl_ ta_ tl_ tk_ vl_ mx mv cr_ fr_ (-2) s.heap.size) (cwV 1 hts gX12_tell_X12_bad rfl rfl rfl (by decide +kernel) ⟨Nat.le_of_ble_eq_true rfl, Nat.le_of_ble_eq_true rfl⟩) ⟨fun a U g mk q => by obtain ⟨q0, q1, qP, qK, qD⟩ := q; exact ⟨q0, q1, qP, va_K.moved (u := U) (U := U.calling g mk a) (Vm.Alike.refl U.vm) qK, qD⟩, va_recv hK hP (ci := 12) (q0 := 0) rfl rfl, fun U hU hW => ⟨rfl, by rw [hU], by rw [hU]; exact hPc, va_K.moved hW.alike hKc, hDc.weaken (fun _ _ _ _ => trivial)⟩⟩ rfl rfl hl.1 rfl (lv_room (Nat.le_of_ble_eq_true rfl)) dX12_tell_41 ⟨Nat.le_of_ble_eq_true rfl, Nat.le_of_ble_eq_true rfl⟩) hS (fun q _ h => hFc q h) hFc (fun r_60 u_ t H1 locs ht hvm hw_61 hB hz1 hk1 hS => ?_)
                  obtain ⟨gr__62, hP1, hK1, hD1⟩ := hB
                  rw [ht] at hP1
                  have hK1 := va_K.moved hvm.symm hK1
                  obtain ⟨hP, hD⟩ := va_join (wr := [(nw, .inl (cn_, 350, .inl fn))]) (w1 := [(mo, .inr (12, [.ref nw, .ref kp, .ref ik, .ref mr, .long la_, .long lb_, .ref mw, .long lc_, .int ti_, .int cb_, .long ld_, .long le_, .ref mq, .ref mz, .ref my, .int sm_, .ref mb, .int bl_, .int ta_, .int tl_, .int tk_, .int vl_, .ref mx, .ref mv])), (mr, .inl (cr_, 3, .inl gr__62))]) hP hD [0, 2] [1] rfl rfl (by decide) (by decide) hk1 hFc hP1 hD1
                  generalize H1 = H at hP hS ⊢
                  have hP : va_P (dC, dI) vwCl [(nw, .inl (cn_, 350, .inl fn)), (mo, .inr (12, [.ref nw, .ref kp, .ref ik, .ref mr, .long la_, .long lb_, .ref mw, .long lc_, .int ti_, .int cb_, .long ld_, .long le_, .ref mq, .ref mz, .ref my, .int sm_, .ref mb, .int bl_, .int ta_, .int tl_, .int tk_, .int vl_, .ref mx, .ref mv])), (mr, .inl (cr_, 3, .inl gr__62))] H := hP
                  have hD : va_D A [(nw, .inl (cn_, 350, .inl fn)), (mo, .inr (12, [.ref nw, .ref kp, .ref ik, .ref mr, .long la_, .long lb_, .ref mw, .long lc_, .int ti_, .int cb_, .long ld_, .long le_, .ref mq, .ref mz, .ref my, .int sm_, .ref mb, .int bl_, .int ta_, .int tl_, .int tk_, .int vl_, .ref mx, .ref mv])), (mr, .inl (cr_, 3, .inl gr__62))] := hD
                  obtain rfl : (-2) = r_60 := hw_61.symm
                  have hP9 := hP.sub (ws' := [(mo, .inr (12, [.ref nw, .ref kp, .ref ik, .ref mr, .long la_, .long lb_, .ref mw, .long lc_, .int ti_, .int cb_, .long ld_, .long le_, .ref mq, .ref mz, .ref my, .int sm_, .ref mb, .int bl_, .int ta_, .int tl_, .int tk_, .int vl_, .ref mx, .ref mv])), (nw, .inl (cn_, 350, .inl fn)), (mr, .inl (cr_, 3, .inl gr__62))]) [1, 0, 2] rfl
                  have hD9 := hD.sub (ws' := [(mo, .inr (12, [.ref nw, .ref kp, .ref ik, .ref mr, .long la_, .long lb_, .ref mw, .long lc_, .int ti_, .int cb_, .long ld_, .long le_, .ref mq, .ref mz, .ref my, .int sm_, .ref mb, .int bl_, .int ta_, .int tl_, .int tk_, .int vl_, .ref mx, .ref mv])), (nw, .inl (cn_, 350, .inl fn)), (mr, .inl (cr_, 3, .inl gr__62))]) [1, 0, 2] (by decide) rfl
                  have hK9 := hK.sub (tys' := [(cn_, .int), (cr_, .int)]) [0, 1] rfl
                  exact W.iret (v := (-2)) hx hb hr (fun t ht hW => ⟨⟨(-2), (), rfl, trivial, fn, gr__62, hOn, by rw [ht]; exact hP9, va_K.moved hW.alike hK9, hD9⟩, hS.F ht⟩) hS.2.2 dX12_tell_44
          · obtain rfl : 0 = r_21 := (hw_22.trans (if_neg hc_23)).symm
            refine lv_if_eq (tgt := 38) hx hb dX12_tell_20 (by decide) (fun c_63 => ?_) (fun c_63 => ?_)
            · refine lv_aload_n hx hb dX12_tell_38 rfl (lv_at hl 0 rfl) ?_
              refine lv_bipush (v := (-2)) hx hb dX12_tell_39 (by decide) ?_
              have hPc := hP.sub (ws' := [(mo, .inr (12, [.ref nw, .ref kp, .ref ik, .ref mr, .long la_, .long lb_, .ref mw, .long lc_, .int ti_, .int cb_, .long ld_, .long le_, .ref mq, .ref mz, .ref my, .int sm_, .ref mb, .int bl_, .int ta_, .int tl_, .int tk_, .int vl_, .ref mx, .ref mv])), (mr, .inl (cr_, 3, .inl fr_))]) [0, 2] rfl
              have hDc := hD.sub (ws' := [(mo, .inr (12, [.ref nw, .ref kp, .ref ik, .ref mr, .long la_, .long lb_, .ref mw, .long lc_, .int ti_, .int cb_, .long ld_, .long le_, .ref mq, .ref mz, .ref my, .int sm_, .ref mb, .int bl_, .int ta_, .int tl_, .int tk_, .int vl_, .ref mx, .ref mv])), (mr, .inl (cr_, 3, .inl fr_))]) [0, 2] (by decide) rfl
              have hKc := hK.sub (tys' := [(cr_, .int)]) [1] rfl
              have hFc := va_free (wc := [(mo, .inr (12, [.ref nw, .ref kp, .ref ik, .ref mr, .long la_, .long lb_, .ref mw, .long lc_, .int ti_, .int cb_, .long ld_, .long le_, .ref mq, .ref mz, .ref my, .int sm_, .ref mb, .int bl_, .int ta_, .int tl_, .int tk_, .int vl_, .ref mx, .ref mv])), (mr, .inl (cr_, 3, .inl fr_))]) hD hS hA [0, 2] rfl
              refine va_calli (va_runV (As := [.int (-2)]) (rest := []) ⟨hx, hb, hml, hown, hts⟩ (m_bad l dC dI mo nw kp ik mr la_ lb_ mw lc_ ti_ cb_ ld_ le_ mq mz my sm_ mb bl_ ta_ tl_ tk_ vl_ mx mv cr_ fr_ (-2) s.heap.size) (cwV 1 hts gX12_tell_X12_bad rfl rfl rfl (by decide +kernel) ⟨Nat.le_of_ble_eq_true rfl, Nat.le_of_ble_eq_true rfl⟩) ⟨fun a U g mk q => by obtain ⟨q0, q1, qP, qK, qD⟩ := q; exact ⟨q0, q1, qP, va_K.moved (u := U) (U := U.calling g mk a) (Vm.Alike.refl U.vm) qK, qD⟩, va_recv hK hP (ci := 12) (q0 := 0) rfl rfl, fun U hU hW => ⟨rfl, by rw [hU], by rw [hU]; exact hPc, va_K.moved hW.alike hKc, hDc.weaken (fun _ _ _ _ => trivial)⟩⟩ rfl rfl hl.1 rfl (lv_room (Nat.le_of_ble_eq_true rfl)) dX12_tell_41 ⟨Nat.le_of_ble_eq_true rfl, Nat.le_of_ble_eq_true rfl⟩) hS (fun q _ h => hFc q h) hFc (fun r_64 u_ t H1 locs ht hvm hw_65 hB hz1 hk1 hS => ?_)
              obtain ⟨gr__66, hP1, hK1, hD1⟩ := hB
              rw [ht] at hP1
              have hK1 := va_K.moved hvm.symm hK1
              obtain ⟨hP, hD⟩ := va_join (wr := [(nw, .inl (cn_, 350, .inl fn))]) (w1 := [(mo, .inr (12, [.ref nw, .ref kp, .ref ik, .ref mr, .long la_, .long lb_, .ref mw, .long lc_, .int ti_, .int cb_, .long ld_, .long le_, .ref mq, .ref mz, .ref my, .int sm_, .ref mb, .int bl_, .int ta_, .int tl_, .int tk_, .int vl_, .ref mx, .ref mv])), (mr, .inl (cr_, 3, .inl gr__66))]) hP hD [0, 2] [1] rfl rfl (by decide) (by decide) hk1 hFc hP1 hD1
              generalize H1 = H at hP hS ⊢
              have hP : va_P (dC, dI) vwCl [(nw, .inl (cn_, 350, .inl fn)), (mo, .inr (12, [.ref nw, .ref kp, .ref ik, .ref mr, .long la_, .long lb_, .ref mw, .long lc_, .int ti_, .int cb_, .long ld_, .long le_, .ref mq, .ref mz, .ref my, .int sm_, .ref mb, .int bl_, .int ta_, .int tl_, .int tk_, .int vl_, .ref mx, .ref mv])), (mr, .inl (cr_, 3, .inl gr__66))] H := hP
              have hD : va_D A [(nw, .inl (cn_, 350, .inl fn)), (mo, .inr (12, [.ref nw, .ref kp, .ref ik, .ref mr, .long la_, .long lb_, .ref mw, .long lc_, .int ti_, .int cb_, .long ld_, .long le_, .ref mq, .ref mz, .ref my, .int sm_, .ref mb, .int bl_, .int ta_, .int tl_, .int tk_, .int vl_, .ref mx, .ref mv])), (mr, .inl (cr_, 3, .inl gr__66))] := hD
              obtain rfl : (-2) = r_64 := hw_65.symm
              have hP9 := hP.sub (ws' := [(mo, .inr (12, [.ref nw, .ref kp, .ref ik, .ref mr, .long la_, .long lb_, .ref mw, .long lc_, .int ti_, .int cb_, .long ld_, .long le_, .ref mq, .ref mz, .ref my, .int sm_, .ref mb, .int bl_, .int ta_, .int tl_, .int tk_, .int vl_, .ref mx, .ref mv])), (nw, .inl (cn_, 350, .inl fn)), (mr, .inl (cr_, 3, .inl gr__66))]) [1, 0, 2] rfl
              have hD9 := hD.sub (ws' := [(mo, .inr (12, [.ref nw, .ref kp, .ref ik, .ref mr, .long la_, .long lb_, .ref mw, .long lc_, .int ti_, .int cb_, .long ld_, .long le_, .ref mq, .ref mz, .ref my, .int sm_, .ref mb, .int bl_, .int ta_, .int tl_, .int tk_, .int vl_, .ref mx, .ref mv])), (nw, .inl (cn_, 350, .inl fn)), (mr, .inl (cr_, 3, .inl gr__66))]) [1, 0, 2] (by decide) rfl
              have hK9 := hK.sub (tys' := [(cn_, .int), (cr_, .int)]) [0, 1] rfl
              exact W.iret (v := (-2)) hx hb hr (fun t ht hW => ⟨⟨(-2), (), rfl, trivial, fn, gr__66, hOn, by rw [ht]; exact hP9, va_K.moved hW.alike hK9, hD9⟩, hS.F ht⟩) hS.2.2 dX12_tell_44
            · exact absurd c_63 (by decide)
      · obtain rfl : 0 = r_12 := (hw_13.trans (if_neg hc_14)).symm
        refine lv_if_eq (tgt := 38) hx hb dX12_tell_12 (by decide) (fun c_67 => ?_) (fun c_67 => ?_)
        · refine lv_aload_n hx hb dX12_tell_38 rfl (lv_at hl 0 rfl) ?_
          refine lv_bipush (v := (-2)) hx hb dX12_tell_39 (by decide) ?_
          have hPc := hP.sub (ws' := [(mo, .inr (12, [.ref nw, .ref kp, .ref ik, .ref mr, .long la_, .long lb_, .ref mw, .long lc_, .int ti_, .int cb_, .long ld_, .long le_, .ref mq, .ref mz, .ref my, .int sm_, .ref mb, .int bl_, .int ta_, .int tl_, .int tk_, .int vl_, .ref mx, .ref mv])), (mr, .inl (cr_, 3, .inl fr_))]) [0, 2] rfl
          have hDc := hD.sub (ws' := [(mo, .inr (12, [.ref nw, .ref kp, .ref ik, .ref mr, .long la_, .long lb_, .ref mw, .long lc_, .int ti_, .int cb_, .long ld_, .long le_, .ref mq, .ref mz, .ref my, .int sm_, .ref mb, .int bl_, .int ta_, .int tl_, .int tk_, .int vl_, .ref mx, .ref mv])), (mr, .inl (cr_, 3, .inl fr_))]) [0, 2] (by decide) rfl
          have hKc := hK.sub (tys' := [(cr_, .int)]) [1] rfl
          have hFc := va_free (wc := [(mo, .inr (12, [.ref nw, .ref kp, .ref ik, .ref mr, .long la_, .long lb_, .ref mw, .long lc_, .int ti_, .int cb_, .long ld_, .long le_, .ref mq, .ref mz, .ref my, .int sm_, .ref mb, .int bl_, .int ta_, .int tl_, .int tk_, .int vl_, .ref mx, .ref mv])), (mr, .inl (cr_, 3, .inl fr_))]) hD hS hA [0, 2] rfl
          refine va_calli (va_runV (As := [.int (-2)]) (rest := []) ⟨hx, hb, hml, hown, hts⟩ (m_bad l dC dI mo nw kp ik mr la_ lb_ mw lc_ ti_ cb_ ld_ le_ mq mz my sm_ mb bl_ ta_ tl_ tk_ vl_ mx mv cr_ fr_ (-2) s.heap.size) (cwV 1 hts gX12_tell_X12_bad rfl rfl rfl (by decide +kernel) ⟨Nat.le_of_ble_eq_true rfl, Nat.le_of_ble_eq_true rfl⟩) ⟨fun a U g mk q => by obtain ⟨q0, q1, qP, qK, qD⟩ := q; exact ⟨q0, q1, qP, va_K.moved (u := U) (U := U.calling g mk a) (Vm.Alike.refl U.vm) qK, qD⟩, va_recv hK hP (ci := 12) (q0 := 0) rfl rfl, fun U hU hW => ⟨rfl, by rw [hU], by rw [hU]; exact hPc, va_K.moved hW.alike hKc, hDc.weaken (fun _ _ _ _ => trivial)⟩⟩ rfl rfl hl.1 rfl (lv_room (Nat.le_of_ble_eq_true rfl)) dX12_tell_41 ⟨Nat.le_of_ble_eq_true rfl, Nat.le_of_ble_eq_true rfl⟩) hS (fun q _ h => hFc q h) hFc (fun r_68 u_ t H1 locs ht hvm hw_69 hB hz1 hk1 hS => ?_)
          obtain ⟨gr__70, hP1, hK1, hD1⟩ := hB
          rw [ht] at hP1
          have hK1 := va_K.moved hvm.symm hK1
          obtain ⟨hP, hD⟩ := va_join (wr := [(nw, .inl (cn_, 350, .inl fn))]) (w1 := [(mo, .inr (12, [.ref nw, .ref kp, .ref ik, .ref mr, .long la_, .long lb_, .ref mw, .long lc_, .int ti_, .int cb_, .long ld_, .long le_, .ref mq, .ref mz, .ref my, .int sm_, .ref mb, .int bl_, .int ta_, .int tl_, .int tk_, .int vl_, .ref mx, .ref mv])), (mr, .inl (cr_, 3, .inl gr__70))]) hP hD [0, 2] [1] rfl rfl (by decide) (by decide) hk1 hFc hP1 hD1
          generalize H1 = H at hP hS ⊢
          have hP : va_P (dC, dI) vwCl [(nw, .inl (cn_, 350, .inl fn)), (mo, .inr (12, [.ref nw, .ref kp, .ref ik, .ref mr, .long la_, .long lb_, .ref mw, .long lc_, .int ti_, .int cb_, .long ld_, .long le_, .ref mq, .ref mz, .ref my, .int sm_, .ref mb, .int bl_, .int ta_, .int tl_, .int tk_, .int vl_, .ref mx, .ref mv])), (mr, .inl (cr_, 3, .inl gr__70))] H := hP
          have hD : va_D A [(nw, .inl (cn_, 350, .inl fn)), (mo, .inr (12, [.ref nw, .ref kp, .ref ik, .ref mr, .long la_, .long lb_, .ref mw, .long lc_, .int ti_, .int cb_, .long ld_, .long le_, .ref mq, .ref mz, .ref my, .int sm_, .ref mb, .int bl_, .int ta_, .int tl_, .int tk_, .int vl_, .ref mx, .ref mv])), (mr, .inl (cr_, 3, .inl gr__70))] := hD
          obtain rfl : (-2) = r_68 := hw_69.symm
          have hP9 := hP.sub (ws' := [(mo, .inr (12, [.ref nw, .ref kp, .ref ik, .ref mr, .long la_, .long lb_, .ref mw, .long lc_, .int ti_, .int cb_, .long ld_, .long le_, .ref mq, .ref mz, .ref my, .int sm_, .ref mb, .int bl_, .int ta_, .int tl_, .int tk_, .int vl_, .ref mx, .ref mv])), (nw, .inl (cn_, 350, .inl fn)), (mr, .inl (cr_, 3, .inl gr__70))]) [1, 0, 2] rfl
          have hD9 := hD.sub (ws' := [(mo, .inr (12, [.ref nw, .ref kp, .ref ik, .ref mr, .long la_, .long lb_, .ref mw, .long lc_, .int ti_, .int cb_, .long ld_, .long le_, .ref mq, .ref mz, .ref my, .int sm_, .ref mb, .int bl_, .int ta_, .int tl_, .int tk_, .int vl_, .ref mx, .ref mv])), (nw, .inl (cn_, 350, .inl fn)), (mr, .inl (cr_, 3, .inl gr__70))]) [1, 0, 2] (by decide) rfl
          have hK9 := hK.sub (tys' := [(cn_, .int), (cr_, .int)]) [0, 1] rfl
          exact W.iret (v := (-2)) hx hb hr (fun t ht hW => ⟨⟨(-2), (), rfl, trivial, fn, gr__70, hOn, by rw [ht]; exact hP9, va_K.moved hW.alike hK9, hD9⟩, hS.F ht⟩) hS.2.2 dX12_tell_44
        · exact absurd c_67 (by decide)
  · obtain rfl : 0 = r_3 := (hw_4.trans (if_neg hc_5)).symm
    refine lv_if_eq (tgt := 38) hx hb dX12_tell_5 (by decide) (fun c_71 => ?_) (fun c_71 => ?_)
    · refine lv_aload_n hx hb dX12_tell_38 rfl (lv_at hl 0 rfl) ?_
      refine lv_bipush (v := (-2)) hx hb dX12_tell_39 (by decide) ?_
      have hPc := hP.sub (ws' := [(mo, .inr (12, [.ref nw, .ref kp, .ref ik, .ref mr, .long la_, .long lb_, .ref mw, .long lc_, .int ti_, .int cb_, .long ld_, .long le_, .ref mq, .ref mz, .ref my, .int sm_, .ref mb, .int bl_, .int ta_, .int tl_, .int tk_, .int vl_, .ref mx, .ref mv])), (mr, .inl (cr_, 3, .inl fr_))]) [0, 2] rfl
      have hDc := hD.sub (ws' := [(mo, .inr (12, [.ref nw, .ref kp, .ref ik, .ref mr, .long la_, .long lb_, .ref mw, .long lc_, .int ti_, .int cb_, .long ld_, .long le_, .ref mq, .ref mz, .ref my, .int sm_, .ref mb, .int bl_, .int ta_, .int tl_, .int tk_, .int vl_, .ref mx, .ref mv])), (mr, .inl (cr_, 3, .inl fr_))]) [0, 2] (by decide) rfl
      have hKc := hK.sub (tys' := [(cr_, .int)]) [1] rfl
      have hFc := va_free (wc := [(mo, .inr (12, [.ref nw, .ref kp, .ref ik, .ref mr, .long la_, .long lb_, .ref mw, .long lc_, .int ti_, .int cb_, .long ld_, .long le_, .ref mq, .ref mz, .ref my, .int sm_, .ref mb, .int bl_, .int ta_, .int tl_, .int tk_, .int vl_, .ref mx, .ref mv])), (mr, .inl (cr_, 3, .inl fr_))]) hD hS hA [0, 2] rfl
      refine va_calli (va_runV (As := [.int (-2)]) (rest := []) ⟨hx, hb, hml, hown, hts⟩ (m_bad l dC dI mo nw kp ik mr la_ lb_ mw lc_ ti_ cb_ ld_ le_ mq mz my sm_ mb bl_ ta_ tl_ tk_ vl_ mx mv cr_ fr_ (-2) s.heap.size) (cwV 1 hts gX12_tell_X12_bad rfl rfl rfl (by decide +kernel) ⟨Nat.le_of_ble_eq_true rfl, Nat.le_of_ble_eq_true rfl⟩) ⟨fun a U g mk q => by obtain ⟨q0, q1, qP, qK, qD⟩ := q; exact ⟨q0, q1, qP, va_K.moved (u := U) (U := U.calling g mk a) (Vm.Alike.refl U.vm) qK, qD⟩, va_recv hK hP (ci := 12) (q0 := 0) rfl rfl, fun U hU hW => ⟨rfl, by rw [hU], by rw [hU]; exact hPc, va_K.moved hW.alike hKc, hDc.weaken (fun _ _ _ _ => trivial)⟩⟩ rfl rfl hl.1 rfl (lv_room (Nat.le_of_ble_eq_true rfl)) dX12_tell_41 ⟨Nat.le_of_ble_eq_true rfl, Nat.le_of_ble_eq_true rfl⟩) hS (fun q _ h => hFc q h) hFc (fun r_72 u_ t H1 locs ht hvm hw_73 hB hz1 hk1 hS => ?_)
      obtain ⟨gr__74, hP1, hK1, hD1⟩ := hB
      rw [ht] at hP1
      have hK1 := va_K.moved hvm.symm hK1
      obtain ⟨hP, hD⟩ := va_join (wr := [(nw, .inl (cn_, 350, .inl fn))]) (w1 := [(mo, .inr (12, [.ref nw, .ref kp, .ref ik, .ref mr, .long la_, .long lb_, .ref mw, .long lc_, .int ti_, .int cb_, .long ld_, .long le_, .ref mq, .ref mz, .ref my, .int sm_, .ref mb, .int bl_, .int ta_, .int tl_, .int tk_, .int vl_, .ref mx, .ref mv])), (mr, .inl (cr_, 3, .inl gr__74))]) hP hD [0, 2] [1] rfl rfl (by decide) (by decide) hk1 hFc hP1 hD1
      generalize H1 = H at hP hS ⊢
      have hP : va_P (dC, dI) vwCl [(nw, .inl (cn_, 350, .inl fn)), (mo, .inr (12, [.ref nw, .ref kp, .ref ik, .ref mr, .long la_, .long lb_, .ref mw, .long lc_, .int ti_, .int cb_, .long ld_, .long le_, .ref mq, .ref mz, .ref my, .int sm_, .ref mb, .int bl_, .int ta_, .int tl_, .int tk_, .int vl_, .ref mx, .ref mv])), (mr, .inl (cr_, 3, .inl gr__74))] H := hP
      have hD : va_D A [(nw, .inl (cn_, 350, .inl fn)), (mo, .inr (12, [.ref nw, .ref kp, .ref ik, .ref mr, .long la_, .long lb_, .ref mw, .long lc_, .int ti_, .int cb_, .long ld_, .long le_, .ref mq, .ref mz, .ref my, .int sm_, .ref mb, .int bl_, .int ta_, .int tl_, .int tk_, .int vl_, .ref mx, .ref mv])), (mr, .inl (cr_, 3, .inl gr__74))] := hD
      obtain rfl : (-2) = r_72 := hw_73.symm
      have hP9 := hP.sub (ws' := [(mo, .inr (12, [.ref nw, .ref kp, .ref ik, .ref mr, .long la_, .long lb_, .ref mw, .long lc_, .int ti_, .int cb_, .long ld_, .long le_, .ref mq, .ref mz, .ref my, .int sm_, .ref mb, .int bl_, .int ta_, .int tl_, .int tk_, .int vl_, .ref mx, .ref mv])), (nw, .inl (cn_, 350, .inl fn)), (mr, .inl (cr_, 3, .inl gr__74))]) [1, 0, 2] rfl
      have hD9 := hD.sub (ws' := [(mo, .inr (12, [.ref nw, .ref kp, .ref ik, .ref mr, .long la_, .long lb_, .ref mw, .long lc_, .int ti_, .int cb_, .long ld_, .long le_, .ref mq, .ref mz, .ref my, .int sm_, .ref mb, .int bl_, .int ta_, .int tl_, .int tk_, .int vl_, .ref mx, .ref mv])), (nw, .inl (cn_, 350, .inl fn)), (mr, .inl (cr_, 3, .inl gr__74))]) [1, 0, 2] (by decide) rfl
      have hK9 := hK.sub (tys' := [(cn_, .int), (cr_, .int)]) [0, 1] rfl
      exact W.iret (v := (-2)) hx hb hr (fun t ht hW => ⟨⟨(-2), (), rfl, trivial, fn, gr__74, hOn, by rw [ht]; exact hP9, va_K.moved hW.alike hK9, hD9⟩, hS.F ht⟩) hS.2.2 dX12_tell_44
    · exact absurd c_71 (by decide)
