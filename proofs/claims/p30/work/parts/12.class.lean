theorem dX11_within_0 : decode cX11_within 0 = .ok (.iload_n 0, 1) := by decide +kernel
theorem dX11_within_1 : decode cX11_within 1 = .ok (.iload_n 1, 1) := by decide +kernel
theorem dX11_within_2 : decode cX11_within 2 = .ok (.if_icmp .lt 12, 3) := by decide +kernel
theorem dX11_within_14 : decode cX11_within 14 = .ok (.iconst 0, 1) := by decide +kernel
theorem dX11_within_15 : decode cX11_within 15 = .ok (.ireturn, 1) := by decide +kernel
theorem dX11_within_5 : decode cX11_within 5 = .ok (.iload_n 0, 1) := by decide +kernel
theorem dX11_within_6 : decode cX11_within 6 = .ok (.iload_n 2, 1) := by decide +kernel
theorem dX11_within_7 : decode cX11_within 7 = .ok (.if_icmp .gt 7, 3) := by decide +kernel
theorem dX11_within_10 : decode cX11_within 10 = .ok (.iconst 1, 1) := by decide +kernel
theorem dX11_within_11 : decode cX11_within 11 = .ok (.goto 4, 3) := by decide +kernel
set_option maxHeartbeats 4000000 in
set_option maxRecDepth 100000 in
theorem x_within (l : Launch) (dC : Nat → ClassId) (dI : Nat → Nat → Nat) (na : Int32) (nb : Int32) (nc : Int32) : Met l yX11_within wsX11_within ({ frames := 0, cells := 0, slots := 0, locals := 0 }) (va_Pc [.int na, .int nb, .int nc] (fun _ => True)) (vp_Si (fun r => r = if nb ≤ na ∧ na ≤ nc then 1 else 0)) 0 0 (fun _ => False) := by
  refine Met.ofW (cc := cX11_within) (maxL := 3) (ret := (some .boolean)) (by decide) rfl ?_
  intro p e s m args below meth c s₁ B hml hv
  obtain ⟨rfl, -⟩ := hv
  have hx := B.exec
  have hb := B.bytes
  have hr := B.returns
  have hts := atoms_spec (ws := wsX11_within) B.pre
  have hown : s.vm.findClass RX11 = some m.cls := findClass_of_methodNamed B.named
  have hlocks := B.notSynchronized
  have hl := lv_entry ([.int na, .int nb, .int nc]) (n := 3) (Nat.le_of_ble_eq_true rfl)
  rw [lg_entry_eq]
  generalize (lg_sl ([.int na, .int nb, .int nc]) ++ List.replicate (3 - (lg_sl ([.int na, .int nb, .int nc])).length) Slot.unset).toArray = ls at hl ⊢
  have hl : lv_has ls 3 [(0, .int na), (1, .int nb), (2, .int nc)] := hl
  refine lv_iload_n hx hb dX11_within_0 rfl (lv_at hl 0 rfl) ?_
  refine lv_iload_n hx hb dX11_within_1 rfl (lv_at hl 1 rfl) ?_
  refine lv_icmp_lt (tgt := 14) hx hb dX11_within_2 (by decide) (fun c_1 => ?_) (fun c_1 => ?_)
  · refine lv_iconst (v := 0) hx hb dX11_within_14 (by decide) ?_
    exact W.zret (v := 0) hx hb hr (by decide) (fun t ht hW => ⟨0, rfl, (if_neg (fun z => tz_ltn c_1 z.1)).symm, ht⟩) (fun _ h => absurd h List.not_mem_nil) dX11_within_15
  · refine lv_iload_n hx hb dX11_within_5 rfl (lv_at hl 0 rfl) ?_
    refine lv_iload_n hx hb dX11_within_6 rfl (lv_at hl 2 rfl) ?_
    refine lv_icmp_gt (tgt := 14) hx hb dX11_within_7 (by decide) (fun c_2 => ?_) (fun c_2 => ?_)
    · refine lv_iconst (v := 0) hx hb dX11_within_14 (by decide) ?_
      exact W.zret (v := 0) hx hb hr (by decide) (fun t ht hW => ⟨0, rfl, (if_neg (fun z => tz_ltn c_2 z.2)).symm, ht⟩) (fun _ h => absurd h List.not_mem_nil) dX11_within_15
    · refine lv_iconst (v := 1) hx hb dX11_within_10 (by decide) ?_
      refine lv_goto (tgt := 15) hx hb dX11_within_11 (by decide) ?_
      exact W.zret (v := 1) hx hb hr (by decide) (fun t ht hW => ⟨1, rfl, (if_pos ⟨tz_nlt c_1, tz_nlt c_2⟩).symm, ht⟩) (fun _ h => absurd h List.not_mem_nil) dX11_within_15
theorem dX11_refuseAs_0 : decode cX11_refuseAs 0 = .ok (.bipush (-2), 2) := by decide +kernel
theorem dX11_refuseAs_2 : decode cX11_refuseAs 2 = .ok (.iload_n 1, 1) := by decide +kernel
theorem dX11_refuseAs_3 : decode cX11_refuseAs 3 = .ok (.isub, 1) := by decide +kernel
theorem dX11_refuseAs_4 : decode cX11_refuseAs 4 = .ok (.istore_n 3, 1) := by decide +kernel
theorem dX11_refuseAs_5 : decode cX11_refuseAs 5 = .ok (.iload_n 3, 1) := by decide +kernel
theorem dX11_refuseAs_6 : decode cX11_refuseAs 6 = .ok (.ifCond .lt 22, 3) := by decide +kernel
theorem dX11_refuseAs_28 : decode cX11_refuseAs 28 = .ok (.iload_n 2, 1) := by decide +kernel
theorem dX11_refuseAs_29 : decode cX11_refuseAs 29 = .ok (.ireturn, 1) := by decide +kernel
theorem dX11_refuseAs_9 : decode cX11_refuseAs 9 = .ok (.iload_n 3, 1) := by decide +kernel
theorem dX11_refuseAs_10 : decode cX11_refuseAs 10 = .ok (.aload_n 0, 1) := by decide +kernel
theorem dX11_refuseAs_11 : decode cX11_refuseAs 11 = .ok (.getfield 75, 3) := by decide +kernel
theorem dX11_refuseAs_14 : decode cX11_refuseAs 14 = .ok (.arraylength, 1) := by decide +kernel
theorem dX11_refuseAs_15 : decode cX11_refuseAs 15 = .ok (.if_icmp .ge 13, 3) := by decide +kernel
theorem dX11_refuseAs_18 : decode cX11_refuseAs 18 = .ok (.aload_n 0, 1) := by decide +kernel
theorem dX11_refuseAs_19 : decode cX11_refuseAs 19 = .ok (.getfield 75, 3) := by decide +kernel
theorem dX11_refuseAs_22 : decode cX11_refuseAs 22 = .ok (.iload_n 3, 1) := by decide +kernel
theorem dX11_refuseAs_23 : decode cX11_refuseAs 23 = .ok (.dup2, 1) := by decide +kernel
theorem dX11_refuseAs_24 : decode cX11_refuseAs 24 = .ok (.iaload, 1) := by decide +kernel
theorem dX11_refuseAs_25 : decode cX11_refuseAs 25 = .ok (.iconst 1, 1) := by decide +kernel
theorem dX11_refuseAs_26 : decode cX11_refuseAs 26 = .ok (.iadd, 1) := by decide +kernel
theorem dX11_refuseAs_27 : decode cX11_refuseAs 27 = .ok (.iastore, 1) := by decide +kernel
set_option maxRecDepth 20000 in
theorem iw_x_refuseAs_X11 : ∀ w ∈ wsX110, w ∈ wsX11_refuseAs := by decide +kernel
set_option maxHeartbeats 4000000 in
set_option maxRecDepth 100000 in
theorem x_refuseAs (l : Launch) (dC : Nat → ClassId) (dI : Nat → Nat → Nat) (o : Nat) (aw : Nat) (ab : Nat → Nat) (ai : Nat) (ak : Nat) (sc : Nat) (rd : Nat) (fo : Nat) (tx : Nat) (ty : Int32) (ar : Nat) (at_ : Nat) (ao : Nat) (cr : ClassId) (fr : Nat → Int32) (na : Int32) (nb : Int32) (sz : Nat) : Met l yX11_refuseAs wsX11_refuseAs ({ frames := 0, cells := 0, slots := 0, locals := 0 }) (va_Pc [.ref o, .int na, .int nb] (fun U => U.heap.size = sz ∧ va_P (dC, dI) vwCl [(o, .inr (11, [.ref aw, .ref (ab 0), .ref ai, .ref ak, .ref sc, .ref rd, .ref fo, .ref tx, .int ty, .ref ar, .ref at_, .ref ao])), (ar, .inl (cr, 3, .inl fr))] U.heap ∧ va_K (dC, dI) vwCl [(cr, .int)] U ∧ va_D (fun _ => True) [(o, .inr (11, [.ref aw, .ref (ab 0), .ref ai, .ref ak, .ref sc, .ref rd, .ref fo, .ref tx, .int ty, .ref ar, .ref at_, .ref ao])), (ar, .inl (cr, 3, .inl fr))])) (va_Qi (fun (r : Int32) (_ : Unit) => r = nb) (fun _ t => ∃ (gr : Nat → Int32), va_P (dC, dI) vwCl [(o, .inr (11, [.ref aw, .ref (ab 0), .ref ai, .ref ak, .ref sc, .ref rd, .ref fo, .ref tx, .int ty, .ref ar, .ref at_, .ref ao])), (ar, .inl (cr, 3, .inl gr))] t.heap ∧ va_K (dC, dI) vwCl [(cr, .int)] t ∧ va_D (va_A [(o, .inr (11, [.ref aw, .ref (ab 0), .ref ai, .ref ak, .ref sc, .ref rd, .ref fo, .ref tx, .int ty, .ref ar, .ref at_, .ref ao])), (ar, .inl (cr, 3, .inl fr))] sz) [(o, .inr (11, [.ref aw, .ref (ab 0), .ref ai, .ref ak, .ref sc, .ref rd, .ref fo, .ref tx, .int ty, .ref ar, .ref at_, .ref ao])), (ar, .inl (cr, 3, .inl gr))]) (va_A [(o, .inr (11, [.ref aw, .ref (ab 0), .ref ai, .ref ak, .ref sc, .ref rd, .ref fo, .ref tx, .int ty, .ref ar, .ref at_, .ref ao])), (ar, .inl (cr, 3, .inl fr))] sz)) 0 0 (va_A [(o, .inr (11, [.ref aw, .ref (ab 0), .ref ai, .ref ak, .ref sc, .ref rd, .ref fo, .ref tx, .int ty, .ref ar, .ref at_, .ref ao])), (ar, .inl (cr, 3, .inl fr))] sz) := by
  refine Met.ofW (cc := cX11_refuseAs) (maxL := 4) (ret := (some .int)) (by decide) rfl ?_
  intro p e s m args below meth c s₁ B hml hv
  obtain ⟨rfl, hsz, hP, hK, hD0⟩ := hv
  have hx := B.exec
  have hb := B.bytes
  have hr := B.returns
  have hts := atoms_spec (ws := wsX11_refuseAs) B.pre
  have hown : s.vm.findClass RX11 = some m.cls := findClass_of_methodNamed B.named
  have hlocks := B.notSynchronized
  subst hsz
  have hD := hD0.self (sz := s.heap.size)
  generalize hAe : va_A [(o, .inr (11, [.ref aw, .ref (ab 0), .ref ai, .ref ak, .ref sc, .ref rd, .ref fo, .ref tx, .int ty, .ref ar, .ref at_, .ref ao])), (ar, .inl (cr, 3, .inl fr))] s.heap.size = A at hD ⊢
  have hA : ∀ q : Nat, s.heap.size ≤ q → A q := fun q h => by rw [← hAe]; exact Or.inr h
  have hS : va_S A s.heap s.heap [] := va_S.rf
  have hP : va_P (dC, dI) vwCl [(o, .inr (11, [.ref aw, .ref (ab 0), .ref ai, .ref ak, .ref sc, .ref rd, .ref fo, .ref tx, .int ty, .ref ar, .ref at_, .ref ao])), (ar, .inl (cr, 3, .inl fr))] s.heap := hP
  have hl := lv_entry ([.ref o, .int na, .int nb]) (n := 4) (Nat.le_of_ble_eq_true rfl)
  rw [lg_entry_eq]
  generalize (lg_sl ([.ref o, .int na, .int nb]) ++ List.replicate (4 - (lg_sl ([.ref o, .int na, .int nb])).length) Slot.unset).toArray = ls at hl ⊢
  have hl : lv_has ls 4 [(0, .ref o), (1, .int na), (2, .int nb)] := hl
  refine lv_bipush (v := (-2)) hx hb dX11_refuseAs_0 (by decide) ?_
  refine lv_iload_n hx hb dX11_refuseAs_2 rfl (lv_at hl 1 rfl) ?_
  refine lv_isub hx hb dX11_refuseAs_3 ?_
  refine lv_topi (fun x_1 _ => ?_)
  refine lv_istore_n (lv' := [(3, .int x_1), (0, .ref o), (1, .int na), (2, .int nb)]) hx hb dX11_refuseAs_4 rfl hl (by decide) rfl (fun ls hl => ?_)
  refine lv_iload_n hx hb dX11_refuseAs_5 rfl (lv_at hl 0 rfl) ?_
  refine lv_if_lt (tgt := 28) hx hb dX11_refuseAs_6 (by decide) (fun c_2 => ?_) (fun c_2 => ?_)
  · refine lv_iload_n hx hb dX11_refuseAs_28 rfl (lv_at hl 3 rfl) ?_
    have hP9 := hP.sub (ws' := [(o, .inr (11, [.ref aw, .ref (ab 0), .ref ai, .ref ak, .ref sc, .ref rd, .ref fo, .ref tx, .int ty, .ref ar, .ref at_, .ref ao])), (ar, .inl (cr, 3, .inl fr))]) [0, 1] rfl
    have hD9 := hD.sub (ws' := [(o, .inr (11, [.ref aw, .ref (ab 0), .ref ai, .ref ak, .ref sc, .ref rd, .ref fo, .ref tx, .int ty, .ref ar, .ref at_, .ref ao])), (ar, .inl (cr, 3, .inl fr))]) [0, 1] (by decide) rfl
    have hK9 := hK.sub (tys' := [(cr, .int)]) [0] rfl
    exact W.iret (v := nb) hx hb hr (fun t ht hW => ⟨⟨nb, (), rfl, rfl, fr, by rw [ht]; exact hP9, va_K.moved hW.alike hK9, hD9⟩, hS.F ht⟩) hS.2.2 dX11_refuseAs_29
  · refine lv_iload_n hx hb dX11_refuseAs_9 rfl (lv_at hl 0 rfl) ?_
    refine lv_aload_n hx hb dX11_refuseAs_10 rfl (lv_at hl 1 rfl) ?_
    refine va_get (D := (dC, dI)) (ci := 11) (v := .ref ar) (C := RX11) (T := TX11) (N := 12) hx hb hts iw_x_refuseAs_X11 hown hK hP 0 rfl rfl 9 (by decide) (hts (.fieldLink RX11 75 "ThriceCounted" "refused" "[I") (by decide +kernel)) (fun _ h9 => h9) rfl dX11_refuseAs_11 ?_
    refine va_alen (v := 3) hx hb hK hP 1 0 rfl rfl rfl dX11_refuseAs_14 ?_
    refine lv_icmp_ge (tgt := 28) hx hb dX11_refuseAs_15 (by decide) (fun c_3 => ?_) (fun c_3 => ?_)
    · refine lv_iload_n hx hb dX11_refuseAs_28 rfl (lv_at hl 3 rfl) ?_
      have hP9 := hP.sub (ws' := [(o, .inr (11, [.ref aw, .ref (ab 0), .ref ai, .ref ak, .ref sc, .ref rd, .ref fo, .ref tx, .int ty, .ref ar, .ref at_, .ref ao])), (ar, .inl (cr, 3, .inl fr))]) [0, 1] rfl
      have hD9 := hD.sub (ws' := [(o, .inr (11, [.ref aw, .ref (ab 0), .ref ai, .ref ak, .ref sc, .ref rd, .ref fo, .ref tx, .int ty, .ref ar, .ref at_, .ref ao])), (ar, .inl (cr, 3, .inl fr))]) [0, 1] (by decide) rfl
      have hK9 := hK.sub (tys' := [(cr, .int)]) [0] rfl
      exact W.iret (v := nb) hx hb hr (fun t ht hW => ⟨⟨nb, (), rfl, rfl, fr, by rw [ht]; exact hP9, va_K.moved hW.alike hK9, hD9⟩, hS.F ht⟩) hS.2.2 dX11_refuseAs_29
    · refine lv_aload_n hx hb dX11_refuseAs_18 rfl (lv_at hl 1 rfl) ?_
      refine va_get (D := (dC, dI)) (ci := 11) (v := .ref ar) (C := RX11) (T := TX11) (N := 12) hx hb hts iw_x_refuseAs_X11 hown hK hP 0 rfl rfl 9 (by decide) (hts (.fieldLink RX11 75 "ThriceCounted" "refused" "[I") (by decide +kernel)) (fun _ h9 => h9) rfl dX11_refuseAs_19 ?_
      refine lv_iload_n hx hb dX11_refuseAs_22 rfl (lv_at hl 0 rfl) ?_
      refine lv_dup2_11 hx hb dX11_refuseAs_23 rfl rfl ?_
      refine va_iald hx hb hK hP 1 0 rfl rfl (tz_in_le c_2 c_3 (M := 3) (by decide)) dX11_refuseAs_24 ?_
      refine lv_topi (fun x_4 _ => ?_)
      refine lv_iconst (v := 1) hx hb dX11_refuseAs_25 (by decide) ?_
      refine lv_iadd hx hb dX11_refuseAs_26 ?_
      refine lv_topi (fun x_5 _ => ?_)
      refine va_iast hx hb hK hP hD hS 1 0 rfl rfl (tz_in_le c_2 c_3 (M := 3) (by decide)) dX11_refuseAs_27 (fun H locs hP hD hS => ?_)
      generalize (upd fr (Int32.toNatClampNeg x_1) x_5) = f_6 at hP hD
      have hP : va_P (dC, dI) vwCl [(o, .inr (11, [.ref aw, .ref (ab 0), .ref ai, .ref ak, .ref sc, .ref rd, .ref fo, .ref tx, .int ty, .ref ar, .ref at_, .ref ao])), (ar, .inl (cr, 3, .inl f_6))] H := hP
      have hD : va_D A [(o, .inr (11, [.ref aw, .ref (ab 0), .ref ai, .ref ak, .ref sc, .ref rd, .ref fo, .ref tx, .int ty, .ref ar, .ref at_, .ref ao])), (ar, .inl (cr, 3, .inl f_6))] := hD
      refine lv_iload_n hx hb dX11_refuseAs_28 rfl (lv_at hl 3 rfl) ?_
      have hP9 := hP.sub (ws' := [(o, .inr (11, [.ref aw, .ref (ab 0), .ref ai, .ref ak, .ref sc, .ref rd, .ref fo, .ref tx, .int ty, .ref ar, .ref at_, .ref ao])), (ar, .inl (cr, 3, .inl f_6))]) [0, 1] rfl
      have hD9 := hD.sub (ws' := [(o, .inr (11, [.ref aw, .ref (ab 0), .ref ai, .ref ak, .ref sc, .ref rd, .ref fo, .ref tx, .int ty, .ref ar, .ref at_, .ref ao])), (ar, .inl (cr, 3, .inl f_6))]) [0, 1] (by decide) rfl
      have hK9 := hK.sub (tys' := [(cr, .int)]) [0] rfl
      exact W.iret (v := nb) hx hb hr (fun t ht hW => ⟨⟨nb, (), rfl, rfl, f_6, by rw [ht]; exact hP9, va_K.moved hW.alike hK9, hD9⟩, hS.F ht⟩) hS.2.2 dX11_refuseAs_29
set_option maxRecDepth 20000 in
theorem ggX11_refuse_X11_refuseAs : GoodIn wsX11_refuse wsX11_refuseAs := goodIn_r _ [5, 6, 7, 8, 9, 10, 11, 12, 13, 14, 15, 16, 17, 18] (by decide +kernel) (by decide +kernel)
set_option maxRecDepth 20000 in
theorem gX11_refuse_X11_refuseAs : GoodIn wsX11_refuse (wsV RX11 172 RX11 yX11_refuseAs wsX11_refuseAs) := goodIn_app (goodIn_of _ (by decide +kernel)) ggX11_refuse_X11_refuseAs
theorem dX11_refuse_0 : decode cX11_refuse 0 = .ok (.aload_n 0, 1) := by decide +kernel
theorem dX11_refuse_1 : decode cX11_refuse 1 = .ok (.iload_n 1, 1) := by decide +kernel
theorem dX11_refuse_2 : decode cX11_refuse 2 = .ok (.iload_n 1, 1) := by decide +kernel
theorem dX11_refuse_3 : decode cX11_refuse 3 = .ok (.invokevirtual 172, 3) := by decide +kernel
theorem dX11_refuse_6 : decode cX11_refuse 6 = .ok (.ireturn, 1) := by decide +kernel
set_option maxHeartbeats 4000000 in
set_option maxRecDepth 100000 in
theorem x_refuse (l : Launch) (dC : Nat → ClassId) (dI : Nat → Nat → Nat) (o : Nat) (aw : Nat) (ab : Nat → Nat) (ai : Nat) (ak : Nat) (sc : Nat) (rd : Nat) (fo : Nat) (tx : Nat) (ty : Int32) (ar : Nat) (at_ : Nat) (ao : Nat) (cr : ClassId) (fr : Nat → Int32) (na : Int32) (sz : Nat) : Met l yX11_refuse wsX11_refuse ({ frames := 1, cells := 0, slots := 0, locals := 23 }) (va_Pc [.ref o, .int na] (fun U => U.heap.size = sz ∧ va_P (dC, dI) vwCl [(o, .inr (11, [.ref aw, .ref (ab 0), .ref ai, .ref ak, .ref sc, .ref rd, .ref fo, .ref tx, .int ty, .ref ar, .ref at_, .ref ao])), (ar, .inl (cr, 3, .inl fr))] U.heap ∧ va_K (dC, dI) vwCl [(cr, .int)] U ∧ va_D (fun _ => True) [(o, .inr (11, [.ref aw, .ref (ab 0), .ref ai, .ref ak, .ref sc, .ref rd, .ref fo, .ref tx, .int ty, .ref ar, .ref at_, .ref ao])), (ar, .inl (cr, 3, .inl fr))])) (va_Qi (fun (r : Int32) (_ : Unit) => r = na) (fun _ t => ∃ (gr : Nat → Int32), va_P (dC, dI) vwCl [(o, .inr (11, [.ref aw, .ref (ab 0), .ref ai, .ref ak, .ref sc, .ref rd, .ref fo, .ref tx, .int ty, .ref ar, .ref at_, .ref ao])), (ar, .inl (cr, 3, .inl gr))] t.heap ∧ va_K (dC, dI) vwCl [(cr, .int)] t ∧ va_D (va_A [(o, .inr (11, [.ref aw, .ref (ab 0), .ref ai, .ref ak, .ref sc, .ref rd, .ref fo, .ref tx, .int ty, .ref ar, .ref at_, .ref ao])), (ar, .inl (cr, 3, .inl fr))] sz) [(o, .inr (11, [.ref aw, .ref (ab 0), .ref ai, .ref ak, .ref sc, .ref rd, .ref fo, .ref tx, .int ty, .ref ar, .ref at_, .ref ao])), (ar, .inl (cr, 3, .inl gr))]) (va_A [(o, .inr (11, [.ref aw, .ref (ab 0), .ref ai, .ref ak, .ref sc, .ref rd, .ref fo, .ref tx, .int ty, .ref ar, .ref at_, .ref ao])), (ar, .inl (cr, 3, .inl fr))] sz)) 0 0 (va_A [(o, .inr (11, [.ref aw, .ref (ab 0), .ref ai, .ref ak, .ref sc, .ref rd, .ref fo, .ref tx, .int ty, .ref ar, .ref at_, .ref ao])), (ar, .inl (cr, 3, .inl fr))] sz) := by
  refine Met.ofW (cc := cX11_refuse) (maxL := 2) (ret := (some .int)) (by decide) rfl ?_
  intro p e s m args below meth c s₁ B hml hv
  obtain ⟨rfl, hsz, hP, hK, hD0⟩ := hv
  have hx := B.exec
  have hb := B.bytes
  have hr := B.returns
  have hts := atoms_spec (ws := wsX11_refuse) B.pre
  have hown : s.vm.findClass RX11 = some m.cls := findClass_of_methodNamed B.named
  have hlocks := B.notSynchronized
  subst hsz
  have hD := hD0.self (sz := s.heap.size)
  generalize hAe : va_A [(o, .inr (11, [.ref aw, .ref (ab 0), .ref ai, .ref ak, .ref sc, .ref rd, .ref fo, .ref tx, .int ty, .ref ar, .ref at_, .ref ao])), (ar, .inl (cr, 3, .inl fr))] s.heap.size = A at hD ⊢
  have hA : ∀ q : Nat, s.heap.size ≤ q → A q := fun q h => by rw [← hAe]; exact Or.inr h
  have hS : va_S A s.heap s.heap [] := va_S.rf
  have hP : va_P (dC, dI) vwCl [(o, .inr (11, [.ref aw, .ref (ab 0), .ref ai, .ref ak, .ref sc, .ref rd, .ref fo, .ref tx, .int ty, .ref ar, .ref at_, .ref ao])), (ar, .inl (cr, 3, .inl fr))] s.heap := hP
  have hl := lv_entry ([.ref o, .int na]) (n := 2) (Nat.le_of_ble_eq_true rfl)
  rw [lg_entry_eq]
  generalize (lg_sl ([.ref o, .int na]) ++ List.replicate (2 - (lg_sl ([.ref o, .int na])).length) Slot.unset).toArray = ls at hl ⊢
  have hl : lv_has ls 2 [(0, .ref o), (1, .int na)] := hl
  refine lv_aload_n hx hb dX11_refuse_0 rfl (lv_at hl 0 rfl) ?_
  refine lv_iload_n hx hb dX11_refuse_1 rfl (lv_at hl 1 rfl) ?_
  refine lv_iload_n hx hb dX11_refuse_2 rfl (lv_at hl 1 rfl) ?_
  have hPc := hP.sub (ws' := [(o, .inr (11, [.ref aw, .ref (ab 0), .ref ai, .ref ak, .ref sc, .ref rd, .ref fo, .ref tx, .int ty, .ref ar, .ref at_, .ref ao])), (ar, .inl (cr, 3, .inl fr))]) [0, 1] rfl
  have hDc := hD.sub (ws' := [(o, .inr (11, [.ref aw, .ref (ab 0), .ref ai, .ref ak, .ref sc, .ref rd, .ref fo, .ref tx, .int ty, .ref ar, .ref at_, .ref ao])), (ar, .inl (cr, 3, .inl fr))]) [0, 1] (by decide) rfl
  have hKc := hK.sub (tys' := [(cr, .int)]) [0] rfl
  have hFc := va_free (wc := [(o, .inr (11, [.ref aw, .ref (ab 0), .ref ai, .ref ak, .ref sc, .ref rd, .ref fo, .ref tx, .int ty, .ref ar, .ref at_, .ref ao])), (ar, .inl (cr, 3, .inl fr))]) hD hS hA [0, 1] rfl
  refine va_calli (va_runV (As := [.int na, .int na]) (rest := []) ⟨hx, hb, hml, hown, hts⟩ (x_refuseAs l dC dI o aw ab ai ak sc rd fo tx ty ar at_ ao cr fr na na s.heap.size) (cwV 2 hts gX11_refuse_X11_refuseAs rfl rfl rfl (by decide +kernel) ⟨Nat.le_of_ble_eq_true rfl, Nat.le_of_ble_eq_true rfl⟩) ⟨fun a U g mk q => by obtain ⟨q0, q1, qP, qK, qD⟩ := q; exact ⟨q0, q1, qP, va_K.moved (u := U) (U := U.calling g mk a) (Vm.Alike.refl U.vm) qK, qD⟩, va_recv hK hP (ci := 11) (q0 := 0) rfl rfl, fun U hU hW => ⟨rfl, by rw [hU], by rw [hU]; exact hPc, va_K.moved hW.alike hKc, hDc.weaken (fun _ _ _ _ => trivial)⟩⟩ rfl rfl hl.1 rfl (lv_room (Nat.le_of_ble_eq_true rfl)) dX11_refuse_3 ⟨Nat.le_of_ble_eq_true rfl, Nat.le_of_ble_eq_true rfl⟩) hS (fun q _ h => hFc q h) hFc (fun r_1 u_ t H1 locs ht hvm hw_2 hB hz1 hk1 hS => ?_)
  obtain ⟨gr_3, hP1, hK1, hD1⟩ := hB
  rw [ht] at hP1
  have hK1 := va_K.moved hvm.symm hK1
  obtain ⟨hP, hD⟩ := va_join (wr := []) (w1 := [(o, .inr (11, [.ref aw, .ref (ab 0), .ref ai, .ref ak, .ref sc, .ref rd, .ref fo, .ref tx, .int ty, .ref ar, .ref at_, .ref ao])), (ar, .inl (cr, 3, .inl gr_3))]) hP hD [0, 1] [] rfl rfl (by decide) (by decide) hk1 hFc hP1 hD1
  generalize H1 = H at hP hS ⊢
  have hP : va_P (dC, dI) vwCl [(o, .inr (11, [.ref aw, .ref (ab 0), .ref ai, .ref ak, .ref sc, .ref rd, .ref fo, .ref tx, .int ty, .ref ar, .ref at_, .ref ao])), (ar, .inl (cr, 3, .inl gr_3))] H := hP
  have hD : va_D A [(o, .inr (11, [.ref aw, .ref (ab 0), .ref ai, .ref ak, .ref sc, .ref rd, .ref fo, .ref tx, .int ty, .ref ar, .ref at_, .ref ao])), (ar, .inl (cr, 3, .inl gr_3))] := hD
  obtain rfl : na = r_1 := hw_2.symm
  have hP9 := hP.sub (ws' := [(o, .inr (11, [.ref aw, .ref (ab 0), .ref ai, .ref ak, .ref sc, .ref rd, .ref fo, .ref tx, .int ty, .ref ar, .ref at_, .ref ao])), (ar, .inl (cr, 3, .inl gr_3))]) [0, 1] rfl
  have hD9 := hD.sub (ws' := [(o, .inr (11, [.ref aw, .ref (ab 0), .ref ai, .ref ak, .ref sc, .ref rd, .ref fo, .ref tx, .int ty, .ref ar, .ref at_, .ref ao])), (ar, .inl (cr, 3, .inl gr_3))]) [0, 1] (by decide) rfl
  have hK9 := hK.sub (tys' := [(cr, .int)]) [0] rfl
  exact W.iret (v := na) hx hb hr (fun t ht hW => ⟨⟨na, (), rfl, rfl, gr_3, by rw [ht]; exact hP9, va_K.moved hW.alike hK9, hD9⟩, hS.F ht⟩) hS.2.2 dX11_refuse_6
theorem dX11_isWay_0 : decode cX11_isWay 0 = .ok (.iload_n 1, 1) := by decide +kernel
theorem dX11_isWay_1 : decode cX11_isWay 1 = .ok (.ifCond .lt 16, 3) := by decide +kernel
theorem dX11_isWay_17 : decode cX11_isWay 17 = .ok (.iconst 0, 1) := by decide +kernel
theorem dX11_isWay_18 : decode cX11_isWay 18 = .ok (.ireturn, 1) := by decide +kernel
theorem dX11_isWay_4 : decode cX11_isWay 4 = .ok (.iload_n 1, 1) := by decide +kernel
theorem dX11_isWay_5 : decode cX11_isWay 5 = .ok (.aload_n 0, 1) := by decide +kernel
theorem dX11_isWay_6 : decode cX11_isWay 6 = .ok (.getfield 25, 3) := by decide +kernel
theorem dX11_isWay_9 : decode cX11_isWay 9 = .ok (.arraylength, 1) := by decide +kernel
theorem dX11_isWay_10 : decode cX11_isWay 10 = .ok (.if_icmp .ge 7, 3) := by decide +kernel
theorem dX11_isWay_13 : decode cX11_isWay 13 = .ok (.iconst 1, 1) := by decide +kernel
theorem dX11_isWay_14 : decode cX11_isWay 14 = .ok (.goto 4, 3) := by decide +kernel
set_option maxRecDepth 20000 in
theorem iw_x_isWay_X11 : ∀ w ∈ wsX110, w ∈ wsX11_isWay := by decide +kernel
set_option maxHeartbeats 4000000 in
set_option maxRecDepth 100000 in
theorem x_isWay (l : Launch) (dC : Nat → ClassId) (dI : Nat → Nat → Nat) (o : Nat) (aw : Nat) (ab : Nat → Nat) (ai : Nat) (ak : Nat) (sc : Nat) (rd : Nat) (fo : Nat) (tx : Nat) (ty : Int32) (ar : Nat) (at_ : Nat) (ao : Nat) (cw : ClassId) (w0 : Nat) (w1 : Nat) (w2 : Nat) (w3 : Nat) (w4 : Nat) (w5 : Nat) (na : Int32) : Met l yX11_isWay wsX11_isWay ({ frames := 0, cells := 0, slots := 0, locals := 0 }) (va_Pc [.ref o, .int na] (fun U => va_P (dC, dI) vwCl [(o, .inr (11, [.ref aw, .ref (ab 0), .ref ai, .ref ak, .ref sc, .ref rd, .ref fo, .ref tx, .int ty, .ref ar, .ref at_, .ref ao])), (aw, .inl (cw, 6, .inr (.inr (.inr (.inr (tz_w w0 w1 w2 w3 w4 w5)))))), (w0, .inr (4, [])), (w1, .inr (1, [])), (w2, .inr (10, [])), (w3, .inr (3, [])), (w4, .inr (9, [])), (w5, .inr (8, []))] U.heap ∧ va_K (dC, dI) vwCl [(cw, (.object "ThriceCounted$Ones"))] U)) (vp_Si (fun r => r = if 0 ≤ na ∧ na ≤ 5 then 1 else 0)) 0 0 (fun _ => False) := by
  refine Met.ofW (cc := cX11_isWay) (maxL := 2) (ret := (some .boolean)) (by decide) rfl ?_
  intro p e s m args below meth c s₁ B hml hv
  obtain ⟨rfl, hP, hK⟩ := hv
  have hx := B.exec
  have hb := B.bytes
  have hr := B.returns
  have hts := atoms_spec (ws := wsX11_isWay) B.pre
  have hown : s.vm.findClass RX11 = some m.cls := findClass_of_methodNamed B.named
  have hlocks := B.notSynchronized
  have hl := lv_entry ([.ref o, .int na]) (n := 2) (Nat.le_of_ble_eq_true rfl)
  rw [lg_entry_eq]
  generalize (lg_sl ([.ref o, .int na]) ++ List.replicate (2 - (lg_sl ([.ref o, .int na])).length) Slot.unset).toArray = ls at hl ⊢
  have hl : lv_has ls 2 [(0, .ref o), (1, .int na)] := hl
  refine lv_iload_n hx hb dX11_isWay_0 rfl (lv_at hl 1 rfl) ?_
  refine lv_if_lt (tgt := 17) hx hb dX11_isWay_1 (by decide) (fun c_1 => ?_) (fun c_1 => ?_)
  · refine lv_iconst (v := 0) hx hb dX11_isWay_17 (by decide) ?_
    exact W.zret (v := 0) hx hb hr (by decide) (fun t ht hW => ⟨0, rfl, (if_neg (fun z => tz_ltn c_1 z.1)).symm, ht⟩) (fun _ h => absurd h List.not_mem_nil) dX11_isWay_18
  · refine lv_iload_n hx hb dX11_isWay_4 rfl (lv_at hl 1 rfl) ?_
    refine lv_aload_n hx hb dX11_isWay_5 rfl (lv_at hl 0 rfl) ?_
    refine va_get (D := (dC, dI)) (ci := 11) (v := .ref aw) (C := RX11) (T := TX11) (N := 12) hx hb hts iw_x_isWay_X11 hown hK hP 0 rfl rfl 0 (by decide) (hts (.fieldLink RX11 25 "ThriceCounted" "ways" "[LThriceCounted$Ones;") (by decide +kernel)) (fun _ h9 => h9) rfl dX11_isWay_6 ?_
    refine va_alen (v := 6) hx hb hK hP 1 0 rfl rfl rfl dX11_isWay_9 ?_
    refine lv_icmp_ge (tgt := 17) hx hb dX11_isWay_10 (by decide) (fun c_2 => ?_) (fun c_2 => ?_)
    · refine lv_iconst (v := 0) hx hb dX11_isWay_17 (by decide) ?_
      exact W.zret (v := 0) hx hb hr (by decide) (fun t ht hW => ⟨0, rfl, (if_neg (fun z => tz_gele c_2 (by decide) z.2)).symm, ht⟩) (fun _ h => absurd h List.not_mem_nil) dX11_isWay_18
    · refine lv_iconst (v := 1) hx hb dX11_isWay_13 (by decide) ?_
      refine lv_goto (tgt := 18) hx hb dX11_isWay_14 (by decide) ?_
      exact W.zret (v := 1) hx hb hr (by decide) (fun t ht hW => ⟨1, rfl, (if_pos ⟨tz_nlt c_1, tz_ltle c_2 (by decide)⟩).symm, ht⟩) (fun _ h => absurd h List.not_mem_nil) dX11_isWay_18
theorem dX11_isImage_0 : decode cX11_isImage 0 = .ok (.iload_n 1, 1) := by decide +kernel
theorem dX11_isImage_1 : decode cX11_isImage 1 = .ok (.ifCond .lt 25, 3) := by decide +kernel
theorem dX11_isImage_26 : decode cX11_isImage 26 = .ok (.iconst 0, 1) := by decide +kernel
theorem dX11_isImage_27 : decode cX11_isImage 27 = .ok (.ireturn, 1) := by decide +kernel
theorem dX11_isImage_4 : decode cX11_isImage 4 = .ok (.iload_n 1, 1) := by decide +kernel
theorem dX11_isImage_5 : decode cX11_isImage 5 = .ok (.aload_n 0, 1) := by decide +kernel
theorem dX11_isImage_6 : decode cX11_isImage 6 = .ok (.getfield 38, 3) := by decide +kernel
theorem dX11_isImage_9 : decode cX11_isImage 9 = .ok (.arraylength, 1) := by decide +kernel
theorem dX11_isImage_10 : decode cX11_isImage 10 = .ok (.if_icmp .ge 16, 3) := by decide +kernel
theorem dX11_isImage_13 : decode cX11_isImage 13 = .ok (.iload_n 1, 1) := by decide +kernel
theorem dX11_isImage_14 : decode cX11_isImage 14 = .ok (.aload_n 0, 1) := by decide +kernel
theorem dX11_isImage_15 : decode cX11_isImage 15 = .ok (.getfield 42, 3) := by decide +kernel
theorem dX11_isImage_18 : decode cX11_isImage 18 = .ok (.arraylength, 1) := by decide +kernel
theorem dX11_isImage_19 : decode cX11_isImage 19 = .ok (.if_icmp .ge 7, 3) := by decide +kernel
theorem dX11_isImage_22 : decode cX11_isImage 22 = .ok (.iconst 1, 1) := by decide +kernel
theorem dX11_isImage_23 : decode cX11_isImage 23 = .ok (.goto 4, 3) := by decide +kernel
set_option maxRecDepth 20000 in
theorem iw_x_isImage_X11 : ∀ w ∈ wsX110, w ∈ wsX11_isImage := by decide +kernel
set_option maxHeartbeats 4000000 in
set_option maxRecDepth 100000 in
theorem x_isImage (l : Launch) (dC : Nat → ClassId) (dI : Nat → Nat → Nat) (o : Nat) (aw : Nat) (ab : Nat → Nat) (ai : Nat) (ak : Nat) (sc : Nat) (rd : Nat) (fo : Nat) (tx : Nat) (ty : Int32) (ar : Nat) (at_ : Nat) (ao : Nat) (cai : ClassId) (ai0 : Nat → Nat) (ai1 : Nat → Nat) (ck : ClassId) (fk : Nat → Int32) (na : Int32) : Met l yX11_isImage wsX11_isImage ({ frames := 0, cells := 0, slots := 0, locals := 0 }) (va_Pc [.ref o, .int na] (fun U => va_P (dC, dI) vwCl [(o, .inr (11, [.ref aw, .ref (ab 0), .ref ai, .ref ak, .ref sc, .ref rd, .ref fo, .ref tx, .int ty, .ref ar, .ref at_, .ref ao])), (ai, .inl (cai, 2, .inr (.inr (.inr (.inr (tz_w2 (ai0 0) (ai1 0))))))), (ak, .inl (ck, 2, .inl fk))] U.heap ∧ va_K (dC, dI) vwCl [(cai, (.object "ThriceCounted$Bank")), (ck, .boolean)] U)) (vp_Si (fun r => r = if 0 ≤ na ∧ na ≤ 1 then 1 else 0)) 0 0 (fun _ => False) := by
  refine Met.ofW (cc := cX11_isImage) (maxL := 2) (ret := (some .boolean)) (by decide) rfl ?_
  intro p e s m args below meth c s₁ B hml hv
  obtain ⟨rfl, hP, hK⟩ := hv
  have hx := B.exec
  have hb := B.bytes
  have hr := B.returns
  have hts := atoms_spec (ws := wsX11_isImage) B.pre
  have hown : s.vm.findClass RX11 = some m.cls := findClass_of_methodNamed B.named
  have hlocks := B.notSynchronized
  have hl := lv_entry ([.ref o, .int na]) (n := 2) (Nat.le_of_ble_eq_true rfl)
  rw [lg_entry_eq]
  generalize (lg_sl ([.ref o, .int na]) ++ List.replicate (2 - (lg_sl ([.ref o, .int na])).length) Slot.unset).toArray = ls at hl ⊢
  have hl : lv_has ls 2 [(0, .ref o), (1, .int na)] := hl
  refine lv_iload_n hx hb dX11_isImage_0 rfl (lv_at hl 1 rfl) ?_
  refine lv_if_lt (tgt := 26) hx hb dX11_isImage_1 (by decide) (fun c_1 => ?_) (fun c_1 => ?_)
  · refine lv_iconst (v := 0) hx hb dX11_isImage_26 (by decide) ?_
    exact W.zret (v := 0) hx hb hr (by decide) (fun t ht hW => ⟨0, rfl, (if_neg (fun z => tz_ltn c_1 z.1)).symm, ht⟩) (fun _ h => absurd h List.not_mem_nil) dX11_isImage_27
  · refine lv_iload_n hx hb dX11_isImage_4 rfl (lv_at hl 1 rfl) ?_
    refine lv_aload_n hx hb dX11_isImage_5 rfl (lv_at hl 0 rfl) ?_
    refine va_get (D := (dC, dI)) (ci := 11) (v := .ref ai) (C := RX11) (T := TX11) (N := 12) hx hb hts iw_x_isImage_X11 hown hK hP 0 rfl rfl 2 (by decide) (hts (.fieldLink RX11 38 "ThriceCounted" "images" "[LThriceCounted$Bank;") (by decide +kernel)) (fun _ h9 => h9) rfl dX11_isImage_6 ?_
    refine va_alen (v := 2) hx hb hK hP 1 0 rfl rfl rfl dX11_isImage_9 ?_
    refine lv_icmp_ge (tgt := 26) hx hb dX11_isImage_10 (by decide) (fun c_2 => ?_) (fun c_2 => ?_)
    · refine lv_iconst (v := 0) hx hb dX11_isImage_26 (by decide) ?_
      exact W.zret (v := 0) hx hb hr (by decide) (fun t ht hW => ⟨0, rfl, (if_neg (fun z => tz_gele c_2 (by decide) z.2)).symm, ht⟩) (fun _ h => absurd h List.not_mem_nil) dX11_isImage_27
    · refine lv_iload_n hx hb dX11_isImage_13 rfl (lv_at hl 1 rfl) ?_
      refine lv_aload_n hx hb dX11_isImage_14 rfl (lv_at hl 0 rfl) ?_
      refine va_get (D := (dC, dI)) (ci := 11) (v := .ref ak) (C := RX11) (T := TX11) (N := 12) hx hb hts iw_x_isImage_X11 hown hK hP 0 rfl rfl 3 (by decide) (hts (.fieldLink RX11 42 "ThriceCounted" "kept" "[Z") (by decide +kernel)) (fun _ h9 => h9) rfl dX11_isImage_15 ?_
      refine va_alen (v := 2) hx hb hK hP 2 1 rfl rfl rfl dX11_isImage_18 ?_
      refine lv_icmp_ge (tgt := 26) hx hb dX11_isImage_19 (by decide) (fun c_3 => ?_) (fun c_3 => ?_)
      · refine lv_iconst (v := 0) hx hb dX11_isImage_26 (by decide) ?_
        exact W.zret (v := 0) hx hb hr (by decide) (fun t ht hW => ⟨0, rfl, (if_neg (fun z => tz_gele c_3 (by decide) z.2)).symm, ht⟩) (fun _ h => absurd h List.not_mem_nil) dX11_isImage_27
      · refine lv_iconst (v := 1) hx hb dX11_isImage_22 (by decide) ?_
        refine lv_goto (tgt := 27) hx hb dX11_isImage_23 (by decide) ?_
        exact W.zret (v := 1) hx hb hr (by decide) (fun t ht hW => ⟨1, rfl, (if_pos ⟨tz_nlt c_1, tz_ltle c_2 (by decide)⟩).symm, ht⟩) (fun _ h => absurd h List.not_mem_nil) dX11_isImage_27
set_option maxRecDepth 20000 in
theorem ggX11_howMany_X6_size : GoodIn wsX11_howMany wsX6_size := goodIn_r _ [11, 12, 37, 38, 39, 40] (by decide +kernel) (by decide +kernel)
set_option maxRecDepth 20000 in
theorem gX11_howMany_X6_size : GoodIn wsX11_howMany (wsV RX11 89 RX6 yX6_size wsX6_size) := goodIn_app (goodIn_of _ (by decide +kernel)) ggX11_howMany_X6_size
set_option maxRecDepth 20000 in
theorem ggX11_howMany_X0_undos : GoodIn wsX11_howMany wsX0_undos := goodIn_r _ [17, 18, 31, 32, 33, 34, 35, 36] (by decide +kernel) (by decide +kernel)
set_option maxRecDepth 20000 in
theorem gX11_howMany_X0_undos : GoodIn wsX11_howMany (wsV RX11 291 RX0 yX0_undos wsX0_undos) := goodIn_app (goodIn_of _ (by decide +kernel)) ggX11_howMany_X0_undos
theorem dX11_howMany_0 : decode cX11_howMany 0 = .ok (.iload_n 1, 1) := by decide +kernel
theorem dX11_howMany_1 : decode cX11_howMany 1 = .ok (.tableswitch 87 0 4 #[35, 46, 57, 68, 79], 35) := by decide +kernel
theorem dX11_howMany_36 : decode cX11_howMany 36 = .ok (.aload_n 0, 1) := by decide +kernel
theorem dX11_howMany_37 : decode cX11_howMany 37 = .ok (.getfield 34, 3) := by decide +kernel
theorem dX11_howMany_40 : decode cX11_howMany 40 = .ok (.getfield 110, 3) := by decide +kernel
theorem dX11_howMany_43 : decode cX11_howMany 43 = .ok (.invokevirtual 89, 3) := by decide +kernel
theorem dX11_howMany_46 : decode cX11_howMany 46 = .ok (.ireturn, 1) := by decide +kernel
theorem dX11_howMany_47 : decode cX11_howMany 47 = .ok (.aload_n 0, 1) := by decide +kernel
theorem dX11_howMany_48 : decode cX11_howMany 48 = .ok (.getfield 34, 3) := by decide +kernel
theorem dX11_howMany_51 : decode cX11_howMany 51 = .ok (.getfield 85, 3) := by decide +kernel
theorem dX11_howMany_54 : decode cX11_howMany 54 = .ok (.invokevirtual 89, 3) := by decide +kernel
theorem dX11_howMany_57 : decode cX11_howMany 57 = .ok (.ireturn, 1) := by decide +kernel
theorem dX11_howMany_58 : decode cX11_howMany 58 = .ok (.aload_n 0, 1) := by decide +kernel
theorem dX11_howMany_59 : decode cX11_howMany 59 = .ok (.getfield 34, 3) := by decide +kernel
theorem dX11_howMany_62 : decode cX11_howMany 62 = .ok (.getfield 138, 3) := by decide +kernel
theorem dX11_howMany_65 : decode cX11_howMany 65 = .ok (.invokevirtual 89, 3) := by decide +kernel
theorem dX11_howMany_68 : decode cX11_howMany 68 = .ok (.ireturn, 1) := by decide +kernel
theorem dX11_howMany_69 : decode cX11_howMany 69 = .ok (.aload_n 0, 1) := by decide +kernel
theorem dX11_howMany_70 : decode cX11_howMany 70 = .ok (.getfield 34, 3) := by decide +kernel
theorem dX11_howMany_73 : decode cX11_howMany 73 = .ok (.getfield 227, 3) := by decide +kernel
theorem dX11_howMany_76 : decode cX11_howMany 76 = .ok (.invokevirtual 89, 3) := by decide +kernel
theorem dX11_howMany_79 : decode cX11_howMany 79 = .ok (.ireturn, 1) := by decide +kernel
theorem dX11_howMany_80 : decode cX11_howMany 80 = .ok (.aload_n 0, 1) := by decide +kernel
theorem dX11_howMany_81 : decode cX11_howMany 81 = .ok (.getfield 34, 3) := by decide +kernel
theorem dX11_howMany_84 : decode cX11_howMany 84 = .ok (.invokevirtual 291, 3) := by decide +kernel
theorem dX11_howMany_87 : decode cX11_howMany 87 = .ok (.ireturn, 1) := by decide +kernel
theorem dX11_howMany_88 : decode cX11_howMany 88 = .ok (.aload_n 0, 1) := by decide +kernel
theorem dX11_howMany_89 : decode cX11_howMany 89 = .ok (.getfield 71, 3) := by decide +kernel
theorem dX11_howMany_92 : decode cX11_howMany 92 = .ok (.ireturn, 1) := by decide +kernel
set_option maxRecDepth 20000 in
theorem iw_x_howMany_X11 : ∀ w ∈ wsX110, w ∈ wsX11_howMany := by decide +kernel
set_option maxRecDepth 20000 in
theorem iw_x_howMany_X0 : ∀ w ∈ wsX00, w ∈ wsX11_howMany := by decide +kernel
set_option maxHeartbeats 4000000 in
set_option maxRecDepth 100000 in
theorem x_howMany (l : Launch) (dC : Nat → ClassId) (dI : Nat → Nat → Nat) (o : Nat) (aw : Nat) (ab : Nat → Nat) (ai : Nat) (ak : Nat) (sc : Nat) (rd : Nat) (fo : Nat) (tx : Nat) (ty : Int32) (ar : Nat) (at_ : Nat) (ao : Nat) (ub : Nat) (zb : Nat → Nat) (cb : Nat → ClassId) (fb : Nat → Nat → Int32) (na : Int32) (hB : (∀ i, zb i ≤ tz_lim i) ∧ ub ≤ 8) (hna : 0 ≤ na ∧ na ≤ 5) : Met l yX11_howMany wsX11_howMany ({ frames := 1, cells := 0, slots := 0, locals := 20 }) (va_Pc [.ref o, .int na] (fun U => va_P (dC, dI) vwCl [(o, .inr (11, [.ref aw, .ref (ab 0), .ref ai, .ref ak, .ref sc, .ref rd, .ref fo, .ref tx, .int ty, .ref ar, .ref at_, .ref ao])), ((ab 0), .inr (0, [.ref (ab 1), .ref (ab 3), .ref (ab 5), .ref (ab 7), .ref (ab 9), .int (nI ub)])), ((ab 1), .inr (6, [.int 1, .int 5, .ref (ab 2), .int (nI (zb 0))])), ((ab 2), .inl ((cb 0), 5, .inl (fb 0))), ((ab 3), .inr (6, [.int 4, .int 5, .ref (ab 4), .int (nI (zb 1))])), ((ab 4), .inl ((cb 1), 20, .inl (fb 1))), ((ab 5), .inr (6, [.int 4, .int 8, .ref (ab 6), .int (nI (zb 2))])), ((ab 6), .inl ((cb 2), 32, .inl (fb 2))), ((ab 7), .inr (6, [.int 4, .int 6, .ref (ab 8), .int (nI (zb 3))])), ((ab 8), .inl ((cb 3), 24, .inl (fb 3)))] U.heap ∧ va_K (dC, dI) vwCl [((cb 0), .int), ((cb 1), .int), ((cb 2), .int), ((cb 3), .int)] U)) (vp_Si (fun r => True)) 0 0 (fun _ => False) := by
  refine Met.ofW (cc := cX11_howMany) (maxL := 2) (ret := (some .int)) (by decide) rfl ?_
  intro p e s m args below meth c s₁ B hml hv
  obtain ⟨rfl, hP, hK⟩ := hv
  have hx := B.exec
  have hb := B.bytes
  have hr := B.returns
  have hts := atoms_spec (ws := wsX11_howMany) B.pre
  have hown : s.vm.findClass RX11 = some m.cls := findClass_of_methodNamed B.named
  have hlocks := B.notSynchronized
  have hl := lv_entry ([.ref o, .int na]) (n := 2) (Nat.le_of_ble_eq_true rfl)
  rw [lg_entry_eq]
  generalize (lg_sl ([.ref o, .int na]) ++ List.replicate (2 - (lg_sl ([.ref o, .int na])).length) Slot.unset).toArray = ls at hl ⊢
  have hl : lv_has ls 2 [(0, .ref o), (1, .int na)] := hl
  have hz_zb_0 : zb 0 ≤ 5 := hB.1 0
  have hz_zb_1 : zb 1 ≤ 5 := hB.1 1
  have hz_zb_2 : zb 2 ≤ 8 := hB.1 2
  have hz_zb_3 : zb 3 ≤ 6 := hB.1 3
  have hz_zb_4 : zb 4 ≤ 8 := hB.1 4
  have hz_zb_5 : zb 5 ≤ 8 := hB.1 5
  have hz_zb_6 : zb 6 ≤ 8 := hB.1 6
  have hz_zb_7 : zb 7 ≤ 8 := hB.1 7
  have hz_zb_8 : zb 8 ≤ 8 := hB.1 8
  have hz_zb_9 : zb 9 ≤ 8 := hB.1 9
  have hz_zb_10 : zb 10 ≤ 8 := hB.1 10
  have hz_zb_11 : zb 11 ≤ 8 := hB.1 11
  have hu_zb := hB.2
  refine lv_iload_n hx hb dX11_howMany_0 rfl (lv_at hl 1 rfl) ?_
  rcases (tz_six hna) with rfl | rfl | rfl | rfl | rfl | rfl
  · refine lv_tableIn (off := 35) (tgt := 36) hx hb dX11_howMany_1 (by decide) (by decide) (by decide) (by decide) ?_
    refine lv_aload_n hx hb dX11_howMany_36 rfl (lv_at hl 0 rfl) ?_
    refine va_get (D := (dC, dI)) (ci := 11) (v := .ref (ab 0)) (C := RX11) (T := TX11) (N := 12) hx hb hts iw_x_howMany_X11 hown hK hP 0 rfl rfl 1 (by decide) (hts (.fieldLink RX11 34 "ThriceCounted" "bank" "LThriceCounted$Bank;") (by decide +kernel)) (fun _ h9 => h9) rfl dX11_howMany_37 ?_
    refine va_get (D := (dC, dI)) (ci := 0) (v := .ref (ab 1)) (C := RX0) (T := TX0) (N := 6) hx hb hts iw_x_howMany_X0 hown hK hP 1 rfl rfl 0 (by decide) (hts (.fieldLink RX11 110 "ThriceCounted$Bank" "clerks" "LThriceCounted$Rows;") (by decide +kernel)) (fun _ h9 => h9) rfl dX11_howMany_40 ?_
    have hPc_1 := hP.sub (ws' := [((ab 1), .inr (6, [.int 1, .int 5, .ref (ab 2), .int (nI (zb 0))]))]) [2] rfl
    have hKc_2 := hK.sub (tys' := []) [] rfl
    refine vp_callSi (va_Run.run (va_runV (As := []) (rest := []) ⟨hx, hb, hml, hown, hts⟩ (r_size_5 l dC dI (ab 1) (ab 2) (zb 0)) (cwV 0 hts gX11_howMany_X6_size rfl rfl rfl (by decide +kernel) ⟨Nat.le_of_ble_eq_true rfl, Nat.le_of_ble_eq_true rfl⟩) ⟨fun a U g mk q => by obtain ⟨q0, qP, qK⟩ := q; exact ⟨q0, qP, va_K.moved (u := U) (U := U.calling g mk a) (Vm.Alike.refl U.vm) qK⟩, va_recv hK hP (ci := 6) (q0 := 2) rfl rfl, fun U hU hW => ⟨rfl, by rw [hU]; exact hPc_1, va_K.moved hW.alike hKc_2⟩⟩ rfl rfl hl.1 rfl (lv_room (Nat.le_of_ble_eq_true rfl)) dX11_howMany_43 ⟨Nat.le_of_ble_eq_true rfl, Nat.le_of_ble_eq_true rfl⟩)) (fun r_3 hw_4 => ?_)
    obtain rfl : (nI (zb 0)) = r_3 := hw_4.symm
    exact W.iret (v := (nI (zb 0))) hx hb hr (fun t ht hW => ⟨(nI (zb 0)), rfl, trivial, ht⟩) (fun _ h => absurd h List.not_mem_nil) dX11_howMany_46
  · refine lv_tableIn (off := 46) (tgt := 47) hx hb dX11_howMany_1 (by decide) (by decide) (by decide) (by decide) ?_
    refine lv_aload_n hx hb dX11_howMany_47 rfl (lv_at hl 0 rfl) ?_
    refine va_get (D := (dC, dI)) (ci := 11) (v := .ref (ab 0)) (C := RX11) (T := TX11) (N := 12) hx hb hts iw_x_howMany_X11 hown hK hP 0 rfl rfl 1 (by decide) (hts (.fieldLink RX11 34 "ThriceCounted" "bank" "LThriceCounted$Bank;") (by decide +kernel)) (fun _ h9 => h9) rfl dX11_howMany_48 ?_
    refine va_get (D := (dC, dI)) (ci := 0) (v := .ref (ab 3)) (C := RX0) (T := TX0) (N := 6) hx hb hts iw_x_howMany_X0 hown hK hP 1 rfl rfl 1 (by decide) (hts (.fieldLink RX11 85 "ThriceCounted$Bank" "bundles" "LThriceCounted$Rows;") (by decide +kernel)) (fun _ h9 => h9) rfl dX11_howMany_51 ?_
    have hPc_5 := hP.sub (ws' := [((ab 3), .inr (6, [.int 4, .int 5, .ref (ab 4), .int (nI (zb 1))]))]) [4] rfl
    have hKc_6 := hK.sub (tys' := []) [] rfl
    refine vp_callSi (va_Run.run (va_runV (As := []) (rest := []) ⟨hx, hb, hml, hown, hts⟩ (r_size_20 l dC dI (ab 3) (ab 4) (zb 1)) (cwV 0 hts gX11_howMany_X6_size rfl rfl rfl (by decide +kernel) ⟨Nat.le_of_ble_eq_true rfl, Nat.le_of_ble_eq_true rfl⟩) ⟨fun a U g mk q => by obtain ⟨q0, qP, qK⟩ := q; exact ⟨q0, qP, va_K.moved (u := U) (U := U.calling g mk a) (Vm.Alike.refl U.vm) qK⟩, va_recv hK hP (ci := 6) (q0 := 4) rfl rfl, fun U hU hW => ⟨rfl, by rw [hU]; exact hPc_5, va_K.moved hW.alike hKc_6⟩⟩ rfl rfl hl.1 rfl (lv_room (Nat.le_of_ble_eq_true rfl)) dX11_howMany_54 ⟨Nat.le_of_ble_eq_true rfl, Nat.le_of_ble_eq_true rfl⟩)) (fun r_7 hw_8 => ?_)
    obtain rfl : (nI (zb 1)) = r_7 := hw_8.symm
    exact W.iret (v := (nI (zb 1))) hx hb hr (fun t ht hW => ⟨(nI (zb 1)), rfl, trivial, ht⟩) (fun _ h => absurd h List.not_mem_nil) dX11_howMany_57
  · refine lv_tableIn (off := 57) (tgt := 58) hx hb dX11_howMany_1 (by decide) (by decide) (by decide) (by decide) ?_
    refine lv_aload_n hx hb dX11_howMany_58 rfl (lv_at hl 0 rfl) ?_
    refine va_get (D := (dC, dI)) (ci := 11) (v := .ref (ab 0)) (C := RX11) (T := TX11) (N := 12) hx hb hts iw_x_howMany_X11 hown hK hP 0 rfl rfl 1 (by decide) (hts (.fieldLink RX11 34 "ThriceCounted" "bank" "LThriceCounted$Bank;") (by decide +kernel)) (fun _ h9 => h9) rfl dX11_howMany_59 ?_
    refine va_get (D := (dC, dI)) (ci := 0) (v := .ref (ab 5)) (C := RX0) (T := TX0) (N := 6) hx hb hts iw_x_howMany_X0 hown hK hP 1 rfl rfl 2 (by decide) (hts (.fieldLink RX11 138 "ThriceCounted$Bank" "counts" "LThriceCounted$Rows;") (by decide +kernel)) (fun _ h9 => h9) rfl dX11_howMany_62 ?_
    have hPc_9 := hP.sub (ws' := [((ab 5), .inr (6, [.int 4, .int 8, .ref (ab 6), .int (nI (zb 2))]))]) [6] rfl
    have hKc_10 := hK.sub (tys' := []) [] rfl
    refine vp_callSi (va_Run.run (va_runV (As := []) (rest := []) ⟨hx, hb, hml, hown, hts⟩ (r_size_32 l dC dI (ab 5) (ab 6) (zb 2)) (cwV 0 hts gX11_howMany_X6_size rfl rfl rfl (by decide +kernel) ⟨Nat.le_of_ble_eq_true rfl, Nat.le_of_ble_eq_true rfl⟩) ⟨fun a U g mk q => by obtain ⟨q0, qP, qK⟩ := q; exact ⟨q0, qP, va_K.moved (u := U) (U := U.calling g mk a) (Vm.Alike.refl U.vm) qK⟩, va_recv hK hP (ci := 6) (q0 := 6) rfl rfl, fun U hU hW => ⟨rfl, by rw [hU]; exact hPc_9, va_K.moved hW.alike hKc_10⟩⟩ rfl rfl hl.1 rfl (lv_room (Nat.le_of_ble_eq_true rfl)) dX11_howMany_65 ⟨Nat.le_of_ble_eq_true rfl, Nat.le_of_ble_eq_true rfl⟩)) (fun r_11 hw_12 => ?_)
    obtain rfl : (nI (zb 2)) = r_11 := hw_12.symm
    exact W.iret (v := (nI (zb 2))) hx hb hr (fun t ht hW => ⟨(nI (zb 2)), rfl, trivial, ht⟩) (fun _ h => absurd h List.not_mem_nil) dX11_howMany_68
  · refine lv_tableIn (off := 68) (tgt := 69) hx hb dX11_howMany_1 (by decide) (by decide) (by decide) (by decide) ?_
    refine lv_aload_n hx hb dX11_howMany_69 rfl (lv_at hl 0 rfl) ?_
    refine va_get (D := (dC, dI)) (ci := 11) (v := .ref (ab 0)) (C := RX11) (T := TX11) (N := 12) hx hb hts iw_x_howMany_X11 hown hK hP 0 rfl rfl 1 (by decide) (hts (.fieldLink RX11 34 "ThriceCounted" "bank" "LThriceCounted$Bank;") (by decide +kernel)) (fun _ h9 => h9) rfl dX11_howMany_70 ?_
    refine va_get (D := (dC, dI)) (ci := 0) (v := .ref (ab 7)) (C := RX0) (T := TX0) (N := 6) hx hb hts iw_x_howMany_X0 hown hK hP 1 rfl rfl 3 (by decide) (hts (.fieldLink RX11 227 "ThriceCounted$Bank" "causes" "LThriceCounted$Rows;") (by decide +kernel)) (fun _ h9 => h9) rfl dX11_howMany_73 ?_
    have hPc_13 := hP.sub (ws' := [((ab 7), .inr (6, [.int 4, .int 6, .ref (ab 8), .int (nI (zb 3))]))]) [8] rfl
    have hKc_14 := hK.sub (tys' := []) [] rfl
    refine vp_callSi (va_Run.run (va_runV (As := []) (rest := []) ⟨hx, hb, hml, hown, hts⟩ (r_size_24 l dC dI (ab 7) (ab 8) (zb 3)) (cwV 0 hts gX11_howMany_X6_size rfl rfl rfl (by decide +kernel) ⟨Nat.le_of_ble_eq_true rfl, Nat.le_of_ble_eq_true rfl⟩) ⟨fun a U g mk q => by obtain ⟨q0, qP, qK⟩ := q; exact ⟨q0, qP, va_K.moved (u := U) (U := U.calling g mk a) (Vm.Alike.refl U.vm) qK⟩, va_recv hK hP (ci := 6) (q0 := 8) rfl rfl, fun U hU hW => ⟨rfl, by rw [hU]; exact hPc_13, va_K.moved hW.alike hKc_14⟩⟩ rfl rfl hl.1 rfl (lv_room (Nat.le_of_ble_eq_true rfl)) dX11_howMany_76 ⟨Nat.le_of_ble_eq_true rfl, Nat.le_of_ble_eq_true rfl⟩)) (fun r_15 hw_16 => ?_)
    obtain rfl : (nI (zb 3)) = r_15 := hw_16.symm
    exact W.iret (v := (nI (zb 3))) hx hb hr (fun t ht hW => ⟨(nI (zb 3)), rfl, trivial, ht⟩) (fun _ h => absurd h List.not_mem_nil) dX11_howMany_79
  · refine lv_tableIn (off := 79) (tgt := 80) hx hb dX11_howMany_1 (by decide) (by decide) (by decide) (by decide) ?_
    refine lv_aload_n hx hb dX11_howMany_80 rfl (lv_at hl 0 rfl) ?_
    refine va_get (D := (dC, dI)) (ci := 11) (v := .ref (ab 0)) (C := RX11) (T := TX11) (N := 12) hx hb hts iw_x_howMany_X11 hown hK hP 0 rfl rfl 1 (by decide) (hts (.fieldLink RX11 34 "ThriceCounted" "bank" "LThriceCounted$Bank;") (by decide +kernel)) (fun _ h9 => h9) rfl dX11_howMany_81 ?_
    have hPc_17 := hP.sub (ws' := [((ab 0), .inr (0, [.ref (ab 1), .ref (ab 3), .ref (ab 5), .ref (ab 7), .ref (ab 9), .int (nI ub)]))]) [1] rfl
    have hKc_18 := hK.sub (tys' := []) [] rfl
    refine vp_callSi (va_Run.run (va_runV (As := []) (rest := []) ⟨hx, hb, hml, hown, hts⟩ (b_undos l dC dI ab ub) (cwV 0 hts gX11_howMany_X0_undos rfl rfl rfl (by decide +kernel) ⟨Nat.le_of_ble_eq_true rfl, Nat.le_of_ble_eq_true rfl⟩) ⟨fun a U g mk q => by obtain ⟨q0, qP, qK⟩ := q; exact ⟨q0, qP, va_K.moved (u := U) (U := U.calling g mk a) (Vm.Alike.refl U.vm) qK⟩, va_recv hK hP (ci := 0) (q0 := 1) rfl rfl, fun U hU hW => ⟨rfl, by rw [hU]; exact hPc_17, va_K.moved hW.alike hKc_18⟩⟩ rfl rfl hl.1 rfl (lv_room (Nat.le_of_ble_eq_true rfl)) dX11_howMany_84 ⟨Nat.le_of_ble_eq_true rfl, Nat.le_of_ble_eq_true rfl⟩)) (fun r_19 hw_20 => ?_)
    obtain rfl : (nI ub) = r_19 := hw_20.symm
    exact W.iret (v := (nI ub)) hx hb hr (fun t ht hW => ⟨(nI ub), rfl, trivial, ht⟩) (fun _ h => absurd h List.not_mem_nil) dX11_howMany_87
  · refine lv_tableOut (tgt := 88) hx hb dX11_howMany_1 (by decide) (by decide) ?_
    refine lv_aload_n hx hb dX11_howMany_88 rfl (lv_at hl 0 rfl) ?_
    refine va_get (D := (dC, dI)) (ci := 11) (v := .int ty) (C := RX11) (T := TX11) (N := 12) hx hb hts iw_x_howMany_X11 hown hK hP 0 rfl rfl 8 (by decide) (hts (.fieldLink RX11 71 "ThriceCounted" "typed" "I") (by decide +kernel)) (fun _ h9 => h9) rfl dX11_howMany_89 ?_
    exact W.iret (v := ty) hx hb hr (fun t ht hW => ⟨ty, rfl, trivial, ht⟩) (fun _ h => absurd h List.not_mem_nil) dX11_howMany_92
set_option maxRecDepth 20000 in
theorem ggX11_minutesOf_X11_isWay : GoodIn wsX11_minutesOf wsX11_isWay := goodIn_r _ [6, 1, 33, 34, 35, 36, 37, 38, 39, 40, 41, 42, 43, 44] (by decide +kernel) (by decide +kernel)
set_option maxRecDepth 20000 in
theorem gX11_minutesOf_X11_isWay : GoodIn wsX11_minutesOf (wsV RX11 135 RX11 yX11_isWay wsX11_isWay) := goodIn_app (goodIn_of _ (by decide +kernel)) ggX11_minutesOf_X11_isWay
set_option maxRecDepth 20000 in
theorem ggX11_minutesOf_X4_minutes : GoodIn wsX11_minutesOf wsX4_minutes := goodIn_r _ [18] (by decide +kernel) (by decide +kernel)
set_option maxRecDepth 20000 in
theorem gX11_minutesOf_X4_minutes : GoodIn wsX11_minutesOf (wsV RX11 178 RX4 yX4_minutes wsX4_minutes) := goodIn_app (goodIn_of _ (by decide +kernel)) ggX11_minutesOf_X4_minutes
set_option maxRecDepth 20000 in
theorem ggX11_minutesOf_X1_minutes : GoodIn wsX11_minutesOf wsX1_minutes := goodIn_r _ [13, 14, 8, 15, 16, 17, 18] (by decide +kernel) (by decide +kernel)
set_option maxRecDepth 20000 in
theorem gX11_minutesOf_X1_minutes_u178X1 : GoodIn wsX11_minutesOf (va_wsO RX11 178 RX1 "ThriceCounted$Ones" ⟨"ThriceCounted$Ones", "minutes", "()I"⟩ yX1_minutes wsX1_minutes) := goodIn_app (goodIn_of _ (by decide +kernel)) ggX11_minutesOf_X1_minutes
set_option maxRecDepth 20000 in
theorem ggX11_minutesOf_X10_minutes : GoodIn wsX11_minutesOf wsX10_minutes := goodIn_r _ [22] (by decide +kernel) (by decide +kernel)
set_option maxRecDepth 20000 in
theorem gX11_minutesOf_X10_minutes_u178X10 : GoodIn wsX11_minutesOf (va_wsO RX11 178 RX10 "ThriceCounted$Ones" ⟨"ThriceCounted$Ones", "minutes", "()I"⟩ yX10_minutes wsX10_minutes) := goodIn_app (goodIn_of _ (by decide +kernel)) ggX11_minutesOf_X10_minutes
set_option maxRecDepth 20000 in
theorem gX11_minutesOf_X10_minutes_u178X3 : GoodIn wsX11_minutesOf (va_wsO RX11 178 RX3 "ThriceCounted$Ones" ⟨"ThriceCounted$Ones", "minutes", "()I"⟩ yX10_minutes wsX10_minutes) := goodIn_app (goodIn_of _ (by decide +kernel)) ggX11_minutesOf_X10_minutes
set_option maxRecDepth 20000 in
theorem ggX11_minutesOf_X9_minutes : GoodIn wsX11_minutesOf wsX9_minutes := goodIn_r _ [28, 29, 8, 30, 16, 17, 18] (by decide +kernel) (by decide +kernel)
set_option maxRecDepth 20000 in
theorem gX11_minutesOf_X9_minutes_u178X9 : GoodIn wsX11_minutesOf (va_wsO RX11 178 RX9 "ThriceCounted$Ones" ⟨"ThriceCounted$Ones", "minutes", "()I"⟩ yX9_minutes wsX9_minutes) := goodIn_app (goodIn_of _ (by decide +kernel)) ggX11_minutesOf_X9_minutes
set_option maxRecDepth 20000 in
theorem gX11_minutesOf_X9_minutes_u178X8 : GoodIn wsX11_minutesOf (va_wsO RX11 178 RX8 "ThriceCounted$Ones" ⟨"ThriceCounted$Ones", "minutes", "()I"⟩ yX9_minutes wsX9_minutes) := goodIn_app (goodIn_of _ (by decide +kernel)) ggX11_minutesOf_X9_minutes
theorem dX11_minutesOf_0 : decode cX11_minutesOf 0 = .ok (.aload_n 0, 1) := by decide +kernel
theorem dX11_minutesOf_1 : decode cX11_minutesOf 1 = .ok (.iload_n 1, 1) := by decide +kernel
theorem dX11_minutesOf_2 : decode cX11_minutesOf 2 = .ok (.invokevirtual 135, 3) := by decide +kernel
theorem dX11_minutesOf_5 : decode cX11_minutesOf 5 = .ok (.ifCond .eq 15, 3) := by decide +kernel
theorem dX11_minutesOf_8 : decode cX11_minutesOf 8 = .ok (.aload_n 0, 1) := by decide +kernel
theorem dX11_minutesOf_9 : decode cX11_minutesOf 9 = .ok (.getfield 25, 3) := by decide +kernel
theorem dX11_minutesOf_12 : decode cX11_minutesOf 12 = .ok (.iload_n 1, 1) := by decide +kernel
theorem dX11_minutesOf_13 : decode cX11_minutesOf 13 = .ok (.aaload, 1) := by decide +kernel
theorem dX11_minutesOf_14 : decode cX11_minutesOf 14 = .ok (.invokevirtual 178, 3) := by decide +kernel
theorem dX11_minutesOf_17 : decode cX11_minutesOf 17 = .ok (.goto 4, 3) := by decide +kernel
theorem dX11_minutesOf_21 : decode cX11_minutesOf 21 = .ok (.ireturn, 1) := by decide +kernel
theorem dX11_minutesOf_20 : decode cX11_minutesOf 20 = .ok (.iconst 0, 1) := by decide +kernel
set_option maxRecDepth 20000 in
theorem iw_x_minutesOf_X11 : ∀ w ∈ wsX110, w ∈ wsX11_minutesOf := by decide +kernel
set_option maxHeartbeats 4000000 in
set_option maxRecDepth 100000 in
theorem x_minutesOf (l : Launch) (dC : Nat → ClassId) (dI : Nat → Nat → Nat) (o : Nat) (aw : Nat) (ab : Nat → Nat) (ai : Nat) (ak : Nat) (sc : Nat) (rd : Nat) (fo : Nat) (tx : Nat) (ty : Int32) (ar : Nat) (at_ : Nat) (ao : Nat) (cw : ClassId) (w0 : Nat) (w1 : Nat) (w2 : Nat) (w3 : Nat) (w4 : Nat) (w5 : Nat) (na : Int32) : Met l yX11_minutesOf wsX11_minutesOf ({ frames := 2, cells := 0, slots := 0, locals := 40 }) (va_Pc [.ref o, .int na] (fun U => va_P (dC, dI) vwCl [(o, .inr (11, [.ref aw, .ref (ab 0), .ref ai, .ref ak, .ref sc, .ref rd, .ref fo, .ref tx, .int ty, .ref ar, .ref at_, .ref ao])), (aw, .inl (cw, 6, .inr (.inr (.inr (.inr (tz_w w0 w1 w2 w3 w4 w5)))))), (w0, .inr (4, [])), (w1, .inr (1, [])), (w2, .inr (10, [])), (w3, .inr (3, [])), (w4, .inr (9, [])), (w5, .inr (8, []))] U.heap ∧ va_K (dC, dI) vwCl [(cw, (.object "ThriceCounted$Ones"))] U)) (vp_Si (fun r => True)) 0 0 (fun _ => False) := by
  refine Met.ofW (cc := cX11_minutesOf) (maxL := 2) (ret := (some .int)) (by decide) rfl ?_
  intro p e s m args below meth c s₁ B hml hv
  obtain ⟨rfl, hP, hK⟩ := hv
  have hx := B.exec
  have hb := B.bytes
  have hr := B.returns
  have hts := atoms_spec (ws := wsX11_minutesOf) B.pre
  have hown : s.vm.findClass RX11 = some m.cls := findClass_of_methodNamed B.named
  have hlocks := B.notSynchronized
  have hl := lv_entry ([.ref o, .int na]) (n := 2) (Nat.le_of_ble_eq_true rfl)
  rw [lg_entry_eq]
  generalize (lg_sl ([.ref o, .int na]) ++ List.replicate (2 - (lg_sl ([.ref o, .int na])).length) Slot.unset).toArray = ls at hl ⊢
  have hl : lv_has ls 2 [(0, .ref o), (1, .int na)] := hl
  refine lv_aload_n hx hb dX11_minutesOf_0 rfl (lv_at hl 0 rfl) ?_
  refine lv_iload_n hx hb dX11_minutesOf_1 rfl (lv_at hl 1 rfl) ?_
  have hPc_1 := hP.sub (ws' := [(o, .inr (11, [.ref aw, .ref (ab 0), .ref ai, .ref ak, .ref sc, .ref rd, .ref fo, .ref tx, .int ty, .ref ar, .ref at_, .ref ao])), (aw, .inl (cw, 6, .inr (.inr (.inr (.inr (tz_w w0 w1 w2 w3 w4 w5)))))), (w0, .inr (4, [])), (w1, .inr (1, [])), (w2, .inr (10, [])), (w3, .inr (3, [])), (w4, .inr (9, [])), (w5, .inr (8, []))]) [0, 1, 2, 3, 4, 5, 6, 7] rfl
  have hKc_2 := hK.sub (tys' := [(cw, (.object "ThriceCounted$Ones"))]) [0] rfl
  refine vp_callSi (va_Run.run (va_runV (As := [.int na]) (rest := []) ⟨hx, hb, hml, hown, hts⟩ (x_isWay l dC dI o aw ab ai ak sc rd fo tx ty ar at_ ao cw w0 w1 w2 w3 w4 w5 na) (cwV 1 hts gX11_minutesOf_X11_isWay rfl rfl rfl (by decide +kernel) ⟨Nat.le_of_ble_eq_true rfl, Nat.le_of_ble_eq_true rfl⟩) ⟨fun a U g mk q => by obtain ⟨q0, qP, qK⟩ := q; exact ⟨q0, qP, va_K.moved (u := U) (U := U.calling g mk a) (Vm.Alike.refl U.vm) qK⟩, va_recv hK hP (ci := 11) (q0 := 0) rfl rfl, fun U hU hW => ⟨rfl, by rw [hU]; exact hPc_1, va_K.moved hW.alike hKc_2⟩⟩ rfl rfl hl.1 rfl (lv_room (Nat.le_of_ble_eq_true rfl)) dX11_minutesOf_2 ⟨Nat.le_of_ble_eq_true rfl, Nat.le_of_ble_eq_true rfl⟩)) (fun r_3 hw_4 => ?_)
  by_cases hc_5 : 0 ≤ na ∧ na ≤ 5
  · obtain rfl : 1 = r_3 := (hw_4.trans (if_pos hc_5)).symm
    refine lv_if_eq (tgt := 20) hx hb dX11_minutesOf_5 (by decide) (fun c_6 => ?_) (fun c_6 => ?_)
    · exact absurd c_6 (by decide)
    · refine lv_aload_n hx hb dX11_minutesOf_8 rfl (lv_at hl 0 rfl) ?_
      refine va_get (D := (dC, dI)) (ci := 11) (v := .ref aw) (C := RX11) (T := TX11) (N := 12) hx hb hts iw_x_minutesOf_X11 hown hK hP 0 rfl rfl 0 (by decide) (hts (.fieldLink RX11 25 "ThriceCounted" "ways" "[LThriceCounted$Ones;") (by decide +kernel)) (fun _ h9 => h9) rfl dX11_minutesOf_9 ?_
      refine lv_iload_n hx hb dX11_minutesOf_12 rfl (lv_at hl 1 rfl) ?_
      rcases (tz_six hc_5) with rfl | rfl | rfl | rfl | rfl | rfl
      · refine va_aldq hx hb hK hP 1 0 rfl rfl (show ¬ ((0 : Int32) < 0 ∨ 6 ≤ (0 : Int32).toNatClampNeg) by decide) dX11_minutesOf_13 ?_
        refine tz_v (.ref w0) rfl ?_
        refine vp_callSi (va_Run.run (va_runV (As := []) (rest := []) ⟨hx, hb, hml, hown, hts⟩ (k_min_X4 l dC dI w0) (cwV 0 hts gX11_minutesOf_X4_minutes rfl rfl rfl (by decide +kernel) ⟨Nat.le_of_ble_eq_true rfl, Nat.le_of_ble_eq_true rfl⟩) ⟨fun a U g mk q => ⟨q.1, trivial⟩, va_recv hK hP (ci := 4) (q0 := 2) rfl rfl, fun U hU hW => ⟨rfl, trivial⟩⟩ rfl rfl hl.1 rfl (lv_room (Nat.le_of_ble_eq_true rfl)) dX11_minutesOf_14 ⟨Nat.le_of_ble_eq_true rfl, Nat.le_of_ble_eq_true rfl⟩)) (fun r_7 hw_8 => ?_)
        obtain rfl : 5 = r_7 := hw_8.symm
        refine lv_goto (tgt := 21) hx hb dX11_minutesOf_17 (by decide) ?_
        exact W.iret (v := 5) hx hb hr (fun t ht hW => ⟨5, rfl, trivial, ht⟩) (fun _ h => absurd h List.not_mem_nil) dX11_minutesOf_21
      · refine va_aldq hx hb hK hP 1 0 rfl rfl (show ¬ ((1 : Int32) < 0 ∨ 6 ≤ (1 : Int32).toNatClampNeg) by decide) dX11_minutesOf_13 ?_
        refine tz_v (.ref w1) rfl ?_
        have hPc_9 := hP.sub (ws' := [(w1, .inr (1, []))]) [3] rfl
        have hKc_10 := hK.sub (tys' := []) [] rfl
        refine vp_callSi (va_Run.run (va_runU (C := RX1) (As := []) (rest := []) ⟨hx, hb, hml, hown, hts⟩ (k_min_X1 l dC dI w1) (va_cwO 0 hts gX11_minutesOf_X1_minutes_u178X1 rfl rfl rfl (b0 := cX4_minutes) (m0 := 1) (r0 := (some .int)) (by decide +kernel) (by decide +kernel) ⟨Nat.le_of_ble_eq_true rfl, Nat.le_of_ble_eq_true rfl⟩) ⟨fun a U g mk q => by obtain ⟨q0, qP, qK⟩ := q; exact ⟨q0, qP, va_K.moved (u := U) (U := U.calling g mk a) (Vm.Alike.refl U.vm) qK⟩, va_recv hK hP (ci := 1) (q0 := 3) rfl rfl, fun U hU hW => ⟨rfl, by rw [hU]; exact hPc_9, va_K.moved hW.alike hKc_10⟩⟩ rfl rfl hl.1 rfl (lv_room (Nat.le_of_ble_eq_true rfl)) dX11_minutesOf_14 ⟨Nat.le_of_ble_eq_true rfl, Nat.le_of_ble_eq_true rfl⟩)) (fun r_11 hw_12 => ?_)
        obtain rfl : 3 = r_11 := hw_12.symm
        refine lv_goto (tgt := 21) hx hb dX11_minutesOf_17 (by decide) ?_
        exact W.iret (v := 3) hx hb hr (fun t ht hW => ⟨3, rfl, trivial, ht⟩) (fun _ h => absurd h List.not_mem_nil) dX11_minutesOf_21
      · refine va_aldq hx hb hK hP 1 0 rfl rfl (show ¬ ((2 : Int32) < 0 ∨ 6 ≤ (2 : Int32).toNatClampNeg) by decide) dX11_minutesOf_13 ?_
        refine tz_v (.ref w2) rfl ?_
        refine vp_callSi (va_Run.run (va_runU (C := RX10) (As := []) (rest := []) ⟨hx, hb, hml, hown, hts⟩ (k_min_X10 l dC dI w2) (va_cwO 0 hts gX11_minutesOf_X10_minutes_u178X10 rfl rfl rfl (b0 := cX4_minutes) (m0 := 1) (r0 := (some .int)) (by decide +kernel) (by decide +kernel) ⟨Nat.le_of_ble_eq_true rfl, Nat.le_of_ble_eq_true rfl⟩) ⟨fun a U g mk q => ⟨q.1, trivial⟩, va_recv hK hP (ci := 10) (q0 := 4) rfl rfl, fun U hU hW => ⟨rfl, trivial⟩⟩ rfl rfl hl.1 rfl (lv_room (Nat.le_of_ble_eq_true rfl)) dX11_minutesOf_14 ⟨Nat.le_of_ble_eq_true rfl, Nat.le_of_ble_eq_true rfl⟩)) (fun r_13 hw_14 => ?_)
        obtain rfl : 1 = r_13 := hw_14.symm
        refine lv_goto (tgt := 21) hx hb dX11_minutesOf_17 (by decide) ?_
        exact W.iret (v := 1) hx hb hr (fun t ht hW => ⟨1, rfl, trivial, ht⟩) (fun _ h => absurd h List.not_mem_nil) dX11_minutesOf_21
      · refine va_aldq hx hb hK hP 1 0 rfl rfl (show ¬ ((3 : Int32) < 0 ∨ 6 ≤ (3 : Int32).toNatClampNeg) by decide) dX11_minutesOf_13 ?_
        refine tz_v (.ref w3) rfl ?_
        refine vp_callSi (va_Run.run (va_runU (C := RX3) (As := []) (rest := []) ⟨hx, hb, hml, hown, hts⟩ (k_min_X10 l dC dI w3) (va_cwO 0 hts gX11_minutesOf_X10_minutes_u178X3 rfl rfl rfl (b0 := cX4_minutes) (m0 := 1) (r0 := (some .int)) (by decide +kernel) (by decide +kernel) ⟨Nat.le_of_ble_eq_true rfl, Nat.le_of_ble_eq_true rfl⟩) ⟨fun a U g mk q => ⟨q.1, trivial⟩, va_recv hK hP (ci := 3) (q0 := 5) rfl rfl, fun U hU hW => ⟨rfl, trivial⟩⟩ rfl rfl hl.1 rfl (lv_room (Nat.le_of_ble_eq_true rfl)) dX11_minutesOf_14 ⟨Nat.le_of_ble_eq_true rfl, Nat.le_of_ble_eq_true rfl⟩)) (fun r_15 hw_16 => ?_)
        obtain rfl : 1 = r_15 := hw_16.symm
        refine lv_goto (tgt := 21) hx hb dX11_minutesOf_17 (by decide) ?_
        exact W.iret (v := 1) hx hb hr (fun t ht hW => ⟨1, rfl, trivial, ht⟩) (fun _ h => absurd h List.not_mem_nil) dX11_minutesOf_21
      · refine va_aldq hx hb hK hP 1 0 rfl rfl (show ¬ ((4 : Int32) < 0 ∨ 6 ≤ (4 : Int32).toNatClampNeg) by decide) dX11_minutesOf_13 ?_
        refine tz_v (.ref w4) rfl ?_
        have hPc_17 := hP.sub (ws' := [(w4, .inr (9, []))]) [6] rfl
        have hKc_18 := hK.sub (tys' := []) [] rfl
        refine vp_callSi (va_Run.run (va_runU (C := RX9) (As := []) (rest := []) ⟨hx, hb, hml, hown, hts⟩ (k_min_X9 l dC dI w4) (va_cwO 0 hts gX11_minutesOf_X9_minutes_u178X9 rfl rfl rfl (b0 := cX4_minutes) (m0 := 1) (r0 := (some .int)) (by decide +kernel) (by decide +kernel) ⟨Nat.le_of_ble_eq_true rfl, Nat.le_of_ble_eq_true rfl⟩) ⟨fun a U g mk q => by obtain ⟨q0, qP, qK⟩ := q; exact ⟨q0, qP, va_K.moved (u := U) (U := U.calling g mk a) (Vm.Alike.refl U.vm) qK⟩, va_recv hK hP (ci := 9) (q0 := 6) rfl rfl, fun U hU hW => ⟨rfl, by rw [hU]; exact hPc_17, va_K.moved hW.alike hKc_18⟩⟩ rfl rfl hl.1 rfl (lv_room (Nat.le_of_ble_eq_true rfl)) dX11_minutesOf_14 ⟨Nat.le_of_ble_eq_true rfl, Nat.le_of_ble_eq_true rfl⟩)) (fun r_19 hw_20 => ?_)
        obtain rfl : 7 = r_19 := hw_20.symm
        refine lv_goto (tgt := 21) hx hb dX11_minutesOf_17 (by decide) ?_
        exact W.iret (v := 7) hx hb hr (fun t ht hW => ⟨7, rfl, trivial, ht⟩) (fun _ h => absurd h List.not_mem_nil) dX11_minutesOf_21
      · refine va_aldq hx hb hK hP 1 0 rfl rfl (show ¬ ((5 : Int32) < 0 ∨ 6 ≤ (5 : Int32).toNatClampNeg) by decide) dX11_minutesOf_13 ?_
        refine tz_v (.ref w5) rfl ?_
        have hPc_21 := hP.sub (ws' := [(w5, .inr (8, []))]) [7] rfl
        have hKc_22 := hK.sub (tys' := []) [] rfl
        refine vp_callSi (va_Run.run (va_runU (C := RX8) (As := []) (rest := []) ⟨hx, hb, hml, hown, hts⟩ (k_min_X8 l dC dI w5) (va_cwO 0 hts gX11_minutesOf_X9_minutes_u178X8 rfl rfl rfl (b0 := cX4_minutes) (m0 := 1) (r0 := (some .int)) (by decide +kernel) (by decide +kernel) ⟨Nat.le_of_ble_eq_true rfl, Nat.le_of_ble_eq_true rfl⟩) ⟨fun a U g mk q => by obtain ⟨q0, qP, qK⟩ := q; exact ⟨q0, qP, va_K.moved (u := U) (U := U.calling g mk a) (Vm.Alike.refl U.vm) qK⟩, va_recv hK hP (ci := 8) (q0 := 7) rfl rfl, fun U hU hW => ⟨rfl, by rw [hU]; exact hPc_21, va_K.moved hW.alike hKc_22⟩⟩ rfl rfl hl.1 rfl (lv_room (Nat.le_of_ble_eq_true rfl)) dX11_minutesOf_14 ⟨Nat.le_of_ble_eq_true rfl, Nat.le_of_ble_eq_true rfl⟩)) (fun r_23 hw_24 => ?_)
        obtain rfl : 7 = r_23 := hw_24.symm
        refine lv_goto (tgt := 21) hx hb dX11_minutesOf_17 (by decide) ?_
        exact W.iret (v := 7) hx hb hr (fun t ht hW => ⟨7, rfl, trivial, ht⟩) (fun _ h => absurd h List.not_mem_nil) dX11_minutesOf_21
  · obtain rfl : 0 = r_3 := (hw_4.trans (if_neg hc_5)).symm
    refine lv_if_eq (tgt := 20) hx hb dX11_minutesOf_5 (by decide) (fun c_25 => ?_) (fun c_25 => ?_)
    · refine lv_iconst (v := 0) hx hb dX11_minutesOf_20 (by decide) ?_
      exact W.iret (v := 0) hx hb hr (fun t ht hW => ⟨0, rfl, trivial, ht⟩) (fun _ h => absurd h List.not_mem_nil) dX11_minutesOf_21
    · exact absurd c_25 (by decide)
set_option maxRecDepth 20000 in
theorem ggX11_canDo_X11_minutesOf : GoodIn wsX11_canDo wsX11_minutesOf := goodIn_r _ [5, 6, 7, 8, 9, 4, 10, 11, 12, 13, 14, 15, 16, 17, 18, 19, 20, 21, 22, 23, 24, 25, 26, 27, 28, 29, 30, 31, 32, 33, 34, 35, 36, 37, 38, 39, 40, 41, 42, 43, 44, 45, 46, 47, 48] (by decide +kernel) (by decide +kernel)
set_option maxRecDepth 20000 in
theorem gX11_canDo_X11_minutesOf : GoodIn wsX11_canDo (wsV RX11 294 RX11 yX11_minutesOf wsX11_minutesOf) := goodIn_app (goodIn_of _ (by decide +kernel)) ggX11_canDo_X11_minutesOf
theorem dX11_canDo_0 : decode cX11_canDo 0 = .ok (.iload_n 1, 1) := by decide +kernel
theorem dX11_canDo_1 : decode cX11_canDo 1 = .ok (.bipush 100, 2) := by decide +kernel
theorem dX11_canDo_3 : decode cX11_canDo 3 = .ok (.idiv, 1) := by decide +kernel
theorem dX11_canDo_4 : decode cX11_canDo 4 = .ok (.istore_n 3, 1) := by decide +kernel
theorem dX11_canDo_5 : decode cX11_canDo 5 = .ok (.iload_n 1, 1) := by decide +kernel
theorem dX11_canDo_6 : decode cX11_canDo 6 = .ok (.bipush 10, 2) := by decide +kernel
theorem dX11_canDo_8 : decode cX11_canDo 8 = .ok (.idiv, 1) := by decide +kernel
theorem dX11_canDo_9 : decode cX11_canDo 9 = .ok (.bipush 10, 2) := by decide +kernel
theorem dX11_canDo_11 : decode cX11_canDo 11 = .ok (.irem, 1) := by decide +kernel
theorem dX11_canDo_12 : decode cX11_canDo 12 = .ok (.istore 4, 2) := by decide +kernel
theorem dX11_canDo_14 : decode cX11_canDo 14 = .ok (.iload_n 1, 1) := by decide +kernel
theorem dX11_canDo_15 : decode cX11_canDo 15 = .ok (.bipush 10, 2) := by decide +kernel
theorem dX11_canDo_17 : decode cX11_canDo 17 = .ok (.irem, 1) := by decide +kernel
theorem dX11_canDo_18 : decode cX11_canDo 18 = .ok (.istore 5, 2) := by decide +kernel
theorem dX11_canDo_20 : decode cX11_canDo 20 = .ok (.iload_n 3, 1) := by decide +kernel
theorem dX11_canDo_21 : decode cX11_canDo 21 = .ok (.aload_n 0, 1) := by decide +kernel
theorem dX11_canDo_22 : decode cX11_canDo 22 = .ok (.iconst 0, 1) := by decide +kernel
theorem dX11_canDo_23 : decode cX11_canDo 23 = .ok (.invokevirtual 294, 3) := by decide +kernel
theorem dX11_canDo_26 : decode cX11_canDo 26 = .ok (.imul, 1) := by decide +kernel
theorem dX11_canDo_27 : decode cX11_canDo 27 = .ok (.iload 4, 2) := by decide +kernel
theorem dX11_canDo_29 : decode cX11_canDo 29 = .ok (.aload_n 0, 1) := by decide +kernel
theorem dX11_canDo_30 : decode cX11_canDo 30 = .ok (.iconst 1, 1) := by decide +kernel
theorem dX11_canDo_31 : decode cX11_canDo 31 = .ok (.invokevirtual 294, 3) := by decide +kernel
theorem dX11_canDo_34 : decode cX11_canDo 34 = .ok (.imul, 1) := by decide +kernel
theorem dX11_canDo_35 : decode cX11_canDo 35 = .ok (.iadd, 1) := by decide +kernel
theorem dX11_canDo_36 : decode cX11_canDo 36 = .ok (.iload 5, 2) := by decide +kernel
theorem dX11_canDo_38 : decode cX11_canDo 38 = .ok (.aload_n 0, 1) := by decide +kernel
theorem dX11_canDo_39 : decode cX11_canDo 39 = .ok (.iconst 2, 1) := by decide +kernel
theorem dX11_canDo_40 : decode cX11_canDo 40 = .ok (.invokevirtual 294, 3) := by decide +kernel
theorem dX11_canDo_43 : decode cX11_canDo 43 = .ok (.imul, 1) := by decide +kernel
theorem dX11_canDo_44 : decode cX11_canDo 44 = .ok (.iadd, 1) := by decide +kernel
theorem dX11_canDo_45 : decode cX11_canDo 45 = .ok (.istore 6, 2) := by decide +kernel
theorem dX11_canDo_47 : decode cX11_canDo 47 = .ok (.iload_n 3, 1) := by decide +kernel
theorem dX11_canDo_48 : decode cX11_canDo 48 = .ok (.iload 4, 2) := by decide +kernel
theorem dX11_canDo_50 : decode cX11_canDo 50 = .ok (.iadd, 1) := by decide +kernel
theorem dX11_canDo_51 : decode cX11_canDo 51 = .ok (.iload 5, 2) := by decide +kernel
theorem dX11_canDo_53 : decode cX11_canDo 53 = .ok (.iadd, 1) := by decide +kernel
theorem dX11_canDo_54 : decode cX11_canDo 54 = .ok (.iconst 3, 1) := by decide +kernel
theorem dX11_canDo_55 : decode cX11_canDo 55 = .ok (.if_icmp .gt 13, 3) := by decide +kernel
theorem dX11_canDo_68 : decode cX11_canDo 68 = .ok (.iconst 0, 1) := by decide +kernel
theorem dX11_canDo_69 : decode cX11_canDo 69 = .ok (.ireturn, 1) := by decide +kernel
theorem dX11_canDo_58 : decode cX11_canDo 58 = .ok (.iload 6, 2) := by decide +kernel
theorem dX11_canDo_60 : decode cX11_canDo 60 = .ok (.iload_n 2, 1) := by decide +kernel
theorem dX11_canDo_61 : decode cX11_canDo 61 = .ok (.if_icmp .gt 7, 3) := by decide +kernel
theorem dX11_canDo_64 : decode cX11_canDo 64 = .ok (.iconst 1, 1) := by decide +kernel
theorem dX11_canDo_65 : decode cX11_canDo 65 = .ok (.goto 4, 3) := by decide +kernel
set_option maxHeartbeats 4000000 in
set_option maxRecDepth 100000 in
theorem x_canDo (l : Launch) (dC : Nat → ClassId) (dI : Nat → Nat → Nat) (o : Nat) (aw : Nat) (ab : Nat → Nat) (ai : Nat) (ak : Nat) (sc : Nat) (rd : Nat) (fo : Nat) (tx : Nat) (ty : Int32) (ar : Nat) (at_ : Nat) (ao : Nat) (cw : ClassId) (w0 : Nat) (w1 : Nat) (w2 : Nat) (w3 : Nat) (w4 : Nat) (w5 : Nat) (na : Int32) (nb : Int32) : Met l yX11_canDo wsX11_canDo ({ frames := 3, cells := 0, slots := 0, locals := 61 }) (va_Pc [.ref o, .int na, .int nb] (fun U => va_P (dC, dI) vwCl [(o, .inr (11, [.ref aw, .ref (ab 0), .ref ai, .ref ak, .ref sc, .ref rd, .ref fo, .ref tx, .int ty, .ref ar, .ref at_, .ref ao])), (aw, .inl (cw, 6, .inr (.inr (.inr (.inr (tz_w w0 w1 w2 w3 w4 w5)))))), (w0, .inr (4, [])), (w1, .inr (1, [])), (w2, .inr (10, [])), (w3, .inr (3, [])), (w4, .inr (9, [])), (w5, .inr (8, []))] U.heap ∧ va_K (dC, dI) vwCl [(cw, (.object "ThriceCounted$Ones"))] U)) (vp_Si (fun r => r = 0 ∨ r = 1)) 0 0 (fun _ => False) := by
  refine Met.ofW (cc := cX11_canDo) (maxL := 7) (ret := (some .boolean)) (by decide) rfl ?_
  intro p e s m args below meth c s₁ B hml hv
  obtain ⟨rfl, hP, hK⟩ := hv
  have hx := B.exec
  have hb := B.bytes
  have hr := B.returns
  have hts := atoms_spec (ws := wsX11_canDo) B.pre
  have hown : s.vm.findClass RX11 = some m.cls := findClass_of_methodNamed B.named
  have hlocks := B.notSynchronized
  have hl := lv_entry ([.ref o, .int na, .int nb]) (n := 7) (Nat.le_of_ble_eq_true rfl)
  rw [lg_entry_eq]
  generalize (lg_sl ([.ref o, .int na, .int nb]) ++ List.replicate (7 - (lg_sl ([.ref o, .int na, .int nb])).length) Slot.unset).toArray = ls at hl ⊢
  have hl : lv_has ls 7 [(0, .ref o), (1, .int na), (2, .int nb)] := hl
  refine lv_iload_n hx hb dX11_canDo_0 rfl (lv_at hl 1 rfl) ?_
  refine lv_bipush (v := 100) hx hb dX11_canDo_1 (by decide) ?_
  refine lv_idiv hx hb dX11_canDo_3 (by decide) ?_
  refine lv_topi (fun x_1 _ => ?_)
  refine lv_istore_n (lv' := [(3, .int x_1), (0, .ref o), (1, .int na), (2, .int nb)]) hx hb dX11_canDo_4 rfl hl (by decide) rfl (fun ls hl => ?_)
  refine lv_iload_n hx hb dX11_canDo_5 rfl (lv_at hl 2 rfl) ?_
  refine lv_bipush (v := 10) hx hb dX11_canDo_6 (by decide) ?_
  refine lv_idiv hx hb dX11_canDo_8 (by decide) ?_
  refine lv_topi (fun x_2 _ => ?_)
  refine lv_bipush (v := 10) hx hb dX11_canDo_9 (by decide) ?_
  refine lv_irem hx hb dX11_canDo_11 (by decide) ?_
  refine lv_topi (fun x_3 _ => ?_)
  refine lv_istore (lv' := [(4, .int x_3), (3, .int x_1), (0, .ref o), (1, .int na), (2, .int nb)]) hx hb dX11_canDo_12 hl (by decide) rfl (fun ls hl => ?_)
  refine lv_iload_n hx hb dX11_canDo_14 rfl (lv_at hl 3 rfl) ?_
  refine lv_bipush (v := 10) hx hb dX11_canDo_15 (by decide) ?_
  refine lv_irem hx hb dX11_canDo_17 (by decide) ?_
  refine lv_topi (fun x_4 _ => ?_)
  refine lv_istore (lv' := [(5, .int x_4), (4, .int x_3), (3, .int x_1), (0, .ref o), (1, .int na), (2, .int nb)]) hx hb dX11_canDo_18 hl (by decide) rfl (fun ls hl => ?_)
  refine lv_iload_n hx hb dX11_canDo_20 rfl (lv_at hl 2 rfl) ?_
  refine lv_aload_n hx hb dX11_canDo_21 rfl (lv_at hl 3 rfl) ?_
  refine lv_iconst (v := 0) hx hb dX11_canDo_22 (by decide) ?_
  have hPc_5 := hP.sub (ws' := [(o, .inr (11, [.ref aw, .ref (ab 0), .ref ai, .ref ak, .ref sc, .ref rd, .ref fo, .ref tx, .int ty, .ref ar, .ref at_, .ref ao])), (aw, .inl (cw, 6, .inr (.inr (.inr (.inr (tz_w w0 w1 w2 w3 w4 w5)))))), (w0, .inr (4, [])), (w1, .inr (1, [])), (w2, .inr (10, [])), (w3, .inr (3, [])), (w4, .inr (9, [])), (w5, .inr (8, []))]) [0, 1, 2, 3, 4, 5, 6, 7] rfl
  have hKc_6 := hK.sub (tys' := [(cw, (.object "ThriceCounted$Ones"))]) [0] rfl
  refine vp_callSi (va_Run.run (va_runV (As := [.int 0]) (rest := [.int x_1]) ⟨hx, hb, hml, hown, hts⟩ (x_minutesOf l dC dI o aw ab ai ak sc rd fo tx ty ar at_ ao cw w0 w1 w2 w3 w4 w5 0) (cwV 1 hts gX11_canDo_X11_minutesOf rfl rfl rfl (by decide +kernel) ⟨Nat.le_of_ble_eq_true rfl, Nat.le_of_ble_eq_true rfl⟩) ⟨fun a U g mk q => by obtain ⟨q0, qP, qK⟩ := q; exact ⟨q0, qP, va_K.moved (u := U) (U := U.calling g mk a) (Vm.Alike.refl U.vm) qK⟩, va_recv hK hP (ci := 11) (q0 := 0) rfl rfl, fun U hU hW => ⟨rfl, by rw [hU]; exact hPc_5, va_K.moved hW.alike hKc_6⟩⟩ rfl rfl hl.1 rfl (lv_room (Nat.le_of_ble_eq_true rfl)) dX11_canDo_23 ⟨Nat.le_of_ble_eq_true rfl, Nat.le_of_ble_eq_true rfl⟩)) (fun r_7 hw_8 => ?_)
  refine lv_imul hx hb dX11_canDo_26 ?_
  refine lv_topi (fun x_9 _ => ?_)
  refine lv_iload hx hb dX11_canDo_27 (lv_at hl 1 rfl) ?_
  refine lv_aload_n hx hb dX11_canDo_29 rfl (lv_at hl 3 rfl) ?_
  refine lv_iconst (v := 1) hx hb dX11_canDo_30 (by decide) ?_
  have hPc_10 := hP.sub (ws' := [(o, .inr (11, [.ref aw, .ref (ab 0), .ref ai, .ref ak, .ref sc, .ref rd, .ref fo, .ref tx, .int ty, .ref ar, .ref at_, .ref ao])), (aw, .inl (cw, 6, .inr (.inr (.inr (.inr (tz_w w0 w1 w2 w3 w4 w5)))))), (w0, .inr (4, [])), (w1, .inr (1, [])), (w2, .inr (10, [])), (w3, .inr (3, [])), (w4, .inr (9, [])), (w5, .inr (8, []))]) [0, 1, 2, 3, 4, 5, 6, 7] rfl
  have hKc_11 := hK.sub (tys' := [(cw, (.object "ThriceCounted$Ones"))]) [0] rfl
  refine vp_callSi (va_Run.run (va_runV (As := [.int 1]) (rest := [.int x_3, .int x_9]) ⟨hx, hb, hml, hown, hts⟩ (x_minutesOf l dC dI o aw ab ai ak sc rd fo tx ty ar at_ ao cw w0 w1 w2 w3 w4 w5 1) (cwV 1 hts gX11_canDo_X11_minutesOf rfl rfl rfl (by decide +kernel) ⟨Nat.le_of_ble_eq_true rfl, Nat.le_of_ble_eq_true rfl⟩) ⟨fun a U g mk q => by obtain ⟨q0, qP, qK⟩ := q; exact ⟨q0, qP, va_K.moved (u := U) (U := U.calling g mk a) (Vm.Alike.refl U.vm) qK⟩, va_recv hK hP (ci := 11) (q0 := 0) rfl rfl, fun U hU hW => ⟨rfl, by rw [hU]; exact hPc_10, va_K.moved hW.alike hKc_11⟩⟩ rfl rfl hl.1 rfl (lv_room (Nat.le_of_ble_eq_true rfl)) dX11_canDo_31 ⟨Nat.le_of_ble_eq_true rfl, Nat.le_of_ble_eq_true rfl⟩)) (fun r_12 hw_13 => ?_)
  refine lv_imul hx hb dX11_canDo_34 ?_
  refine lv_topi (fun x_14 _ => ?_)
  refine lv_iadd hx hb dX11_canDo_35 ?_
  refine lv_topi (fun x_15 _ => ?_)
  refine lv_iload hx hb dX11_canDo_36 (lv_at hl 0 rfl) ?_
  refine lv_aload_n hx hb dX11_canDo_38 rfl (lv_at hl 3 rfl) ?_
  refine lv_iconst (v := 2) hx hb dX11_canDo_39 (by decide) ?_
  have hPc_16 := hP.sub (ws' := [(o, .inr (11, [.ref aw, .ref (ab 0), .ref ai, .ref ak, .ref sc, .ref rd, .ref fo, .ref tx, .int ty, .ref ar, .ref at_, .ref ao])), (aw, .inl (cw, 6, .inr (.inr (.inr (.inr (tz_w w0 w1 w2 w3 w4 w5)))))), (w0, .inr (4, [])), (w1, .inr (1, [])), (w2, .inr (10, [])), (w3, .inr (3, [])), (w4, .inr (9, [])), (w5, .inr (8, []))]) [0, 1, 2, 3, 4, 5, 6, 7] rfl
  have hKc_17 := hK.sub (tys' := [(cw, (.object "ThriceCounted$Ones"))]) [0] rfl
  refine vp_callSi (va_Run.run (va_runV (As := [.int 2]) (rest := [.int x_4, .int x_15]) ⟨hx, hb, hml, hown, hts⟩ (x_minutesOf l dC dI o aw ab ai ak sc rd fo tx ty ar at_ ao cw w0 w1 w2 w3 w4 w5 2) (cwV 1 hts gX11_canDo_X11_minutesOf rfl rfl rfl (by decide +kernel) ⟨Nat.le_of_ble_eq_true rfl, Nat.le_of_ble_eq_true rfl⟩) ⟨fun a U g mk q => by obtain ⟨q0, qP, qK⟩ := q; exact ⟨q0, qP, va_K.moved (u := U) (U := U.calling g mk a) (Vm.Alike.refl U.vm) qK⟩, va_recv hK hP (ci := 11) (q0 := 0) rfl rfl, fun U hU hW => ⟨rfl, by rw [hU]; exact hPc_16, va_K.moved hW.alike hKc_17⟩⟩ rfl rfl hl.1 rfl (lv_room (Nat.le_of_ble_eq_true rfl)) dX11_canDo_40 ⟨Nat.le_of_ble_eq_true rfl, Nat.le_of_ble_eq_true rfl⟩)) (fun r_18 hw_19 => ?_)
  refine lv_imul hx hb dX11_canDo_43 ?_
  refine lv_topi (fun x_20 _ => ?_)
  refine lv_iadd hx hb dX11_canDo_44 ?_
  refine lv_topi (fun x_21 _ => ?_)
  refine lv_istore (lv' := [(6, .int x_21), (5, .int x_4), (4, .int x_3), (3, .int x_1), (0, .ref o), (1, .int na), (2, .int nb)]) hx hb dX11_canDo_45 hl (by decide) rfl (fun ls hl => ?_)
  refine lv_iload_n hx hb dX11_canDo_47 rfl (lv_at hl 3 rfl) ?_
  refine lv_iload hx hb dX11_canDo_48 (lv_at hl 2 rfl) ?_
  refine lv_iadd hx hb dX11_canDo_50 ?_
  refine lv_topi (fun x_22 _ => ?_)
  refine lv_iload hx hb dX11_canDo_51 (lv_at hl 1 rfl) ?_
  refine lv_iadd hx hb dX11_canDo_53 ?_
  refine lv_topi (fun x_23 _ => ?_)
  refine lv_iconst (v := 3) hx hb dX11_canDo_54 (by decide) ?_
  refine lv_icmp_gt (tgt := 68) hx hb dX11_canDo_55 (by decide) (fun c_24 => ?_) (fun c_24 => ?_)
  · refine lv_iconst (v := 0) hx hb dX11_canDo_68 (by decide) ?_
    exact W.zret (v := 0) hx hb hr (by decide) (fun t ht hW => ⟨0, rfl, Or.inl rfl, ht⟩) (fun _ h => absurd h List.not_mem_nil) dX11_canDo_69
  · refine lv_iload hx hb dX11_canDo_58 (lv_at hl 0 rfl) ?_
    refine lv_iload_n hx hb dX11_canDo_60 rfl (lv_at hl 6 rfl) ?_
    refine lv_icmp_gt (tgt := 68) hx hb dX11_canDo_61 (by decide) (fun c_25 => ?_) (fun c_25 => ?_)
    · refine lv_iconst (v := 0) hx hb dX11_canDo_68 (by decide) ?_
      exact W.zret (v := 0) hx hb hr (by decide) (fun t ht hW => ⟨0, rfl, Or.inl rfl, ht⟩) (fun _ h => absurd h List.not_mem_nil) dX11_canDo_69
    · refine lv_iconst (v := 1) hx hb dX11_canDo_64 (by decide) ?_
      refine lv_goto (tgt := 69) hx hb dX11_canDo_65 (by decide) ?_
      exact W.zret (v := 1) hx hb hr (by decide) (fun t ht hW => ⟨1, rfl, Or.inr rfl, ht⟩) (fun _ h => absurd h List.not_mem_nil) dX11_canDo_69
set_option maxRecDepth 20000 in
theorem ggX11_weighMore_X11_isWay : GoodIn wsX11_weighMore wsX11_isWay := goodIn_r _ [7, 2, 53, 54, 55, 56, 57, 58, 59, 60, 61, 62, 63, 64] (by decide +kernel) (by decide +kernel)
set_option maxRecDepth 20000 in
theorem gX11_weighMore_X11_isWay : GoodIn wsX11_weighMore (wsV RX11 135 RX11 yX11_isWay wsX11_isWay) := goodIn_app (goodIn_of _ (by decide +kernel)) ggX11_weighMore_X11_isWay
set_option maxRecDepth 20000 in
theorem ggX11_weighMore_X7_addCounts : GoodIn wsX11_weighMore wsX7_addCounts := goodIn_r _ [12, 13, 14, 15, 16, 17, 18, 19, 20, 21, 22, 23, 24, 25, 26, 27, 28, 29, 30, 31, 32, 33, 34, 35, 36, 37, 38, 39, 40, 41, 42, 43, 44, 45, 46, 47, 48, 49, 50, 51, 52, 65, 66] (by decide +kernel) (by decide +kernel)
set_option maxRecDepth 20000 in
theorem gX11_weighMore_X7_addCounts : GoodIn wsX11_weighMore (wsV RX11 297 RX7 yX7_addCounts wsX7_addCounts) := goodIn_app (goodIn_of _ (by decide +kernel)) ggX11_weighMore_X7_addCounts
theorem dX11_weighMore_0 : decode cX11_weighMore 0 = .ok (.aload_n 0, 1) := by decide +kernel
theorem dX11_weighMore_1 : decode cX11_weighMore 1 = .ok (.iload_n 1, 1) := by decide +kernel
theorem dX11_weighMore_2 : decode cX11_weighMore 2 = .ok (.invokevirtual 135, 3) := by decide +kernel
theorem dX11_weighMore_5 : decode cX11_weighMore 5 = .ok (.ifCond .eq 18, 3) := by decide +kernel
theorem dX11_weighMore_8 : decode cX11_weighMore 8 = .ok (.aload_n 0, 1) := by decide +kernel
theorem dX11_weighMore_9 : decode cX11_weighMore 9 = .ok (.getfield 49, 3) := by decide +kernel
theorem dX11_weighMore_12 : decode cX11_weighMore 12 = .ok (.aload_n 0, 1) := by decide +kernel
theorem dX11_weighMore_13 : decode cX11_weighMore 13 = .ok (.getfield 25, 3) := by decide +kernel
theorem dX11_weighMore_16 : decode cX11_weighMore 16 = .ok (.iload_n 1, 1) := by decide +kernel
theorem dX11_weighMore_17 : decode cX11_weighMore 17 = .ok (.aaload, 1) := by decide +kernel
theorem dX11_weighMore_18 : decode cX11_weighMore 18 = .ok (.iload_n 2, 1) := by decide +kernel
theorem dX11_weighMore_19 : decode cX11_weighMore 19 = .ok (.iload_n 3, 1) := by decide +kernel
theorem dX11_weighMore_20 : decode cX11_weighMore 20 = .ok (.invokevirtual 297, 3) := by decide +kernel
theorem dX11_weighMore_23 : decode cX11_weighMore 23 = .ok (.return_, 1) := by decide +kernel
set_option maxRecDepth 20000 in
theorem iw_x_weighMore_X11 : ∀ w ∈ wsX110, w ∈ wsX11_weighMore := by decide +kernel
set_option maxHeartbeats 4000000 in
set_option maxRecDepth 100000 in
theorem x_weighMore (l : Launch) (dC : Nat → ClassId) (dI : Nat → Nat → Nat) (o : Nat) (aw : Nat) (ab : Nat → Nat) (ai : Nat) (ak : Nat) (sc : Nat) (rd : Nat) (fo : Nat) (tx : Nat) (ty : Int32) (ar : Nat) (at_ : Nat) (ao : Nat) (cw : ClassId) (w0 : Nat) (w1 : Nat) (w2 : Nat) (w3 : Nat) (w4 : Nat) (w5 : Nat) (sw : Nat) (sh : Nat) (csw : ClassId) (fw : Nat → Int64) (csh : ClassId) (fh : Nat → Int32) (na : Int32) (nb : Int32) (nc : Int32) (sz : Nat) : Met l yX11_weighMore wsX11_weighMore ({ frames := 4, cells := 0, slots := 0, locals := 88 }) (va_Pc [.ref o, .int na, .int nb, .int nc] (fun U => U.heap.size = sz ∧ va_P (dC, dI) vwCl [(o, .inr (11, [.ref aw, .ref (ab 0), .ref ai, .ref ak, .ref sc, .ref rd, .ref fo, .ref tx, .int ty, .ref ar, .ref at_, .ref ao])), (aw, .inl (cw, 6, .inr (.inr (.inr (.inr (tz_w w0 w1 w2 w3 w4 w5)))))), (w0, .inr (4, [])), (w1, .inr (1, [])), (w2, .inr (10, [])), (w3, .inr (3, [])), (w4, .inr (9, [])), (w5, .inr (8, [])), (sc, .inr (7, [.ref sw, .ref sh])), (sw, .inl (csw, 21, .inr (.inl fw))), (sh, .inl (csh, 21, .inl fh))] U.heap ∧ va_K (dC, dI) vwCl [(cw, (.object "ThriceCounted$Ones")), (csw, .long), (csh, .int)] U ∧ va_D (fun _ => True) [(o, .inr (11, [.ref aw, .ref (ab 0), .ref ai, .ref ak, .ref sc, .ref rd, .ref fo, .ref tx, .int ty, .ref ar, .ref at_, .ref ao])), (aw, .inl (cw, 6, .inr (.inr (.inr (.inr (tz_w w0 w1 w2 w3 w4 w5)))))), (w0, .inr (4, [])), (w1, .inr (1, [])), (w2, .inr (10, [])), (w3, .inr (3, [])), (w4, .inr (9, [])), (w5, .inr (8, [])), (sc, .inr (7, [.ref sw, .ref sh])), (sw, .inl (csw, 21, .inr (.inl fw))), (sh, .inl (csh, 21, .inl fh))])) (va_Qv (fun (_ : Unit) => True) (fun _ t => ∃ (gw : Nat → Int64) (gh : Nat → Int32), va_P (dC, dI) vwCl [(o, .inr (11, [.ref aw, .ref (ab 0), .ref ai, .ref ak, .ref sc, .ref rd, .ref fo, .ref tx, .int ty, .ref ar, .ref at_, .ref ao])), (aw, .inl (cw, 6, .inr (.inr (.inr (.inr (tz_w w0 w1 w2 w3 w4 w5)))))), (w0, .inr (4, [])), (w1, .inr (1, [])), (w2, .inr (10, [])), (w3, .inr (3, [])), (w4, .inr (9, [])), (w5, .inr (8, [])), (sc, .inr (7, [.ref sw, .ref sh])), (sw, .inl (csw, 21, .inr (.inl gw))), (sh, .inl (csh, 21, .inl gh))] t.heap ∧ va_K (dC, dI) vwCl [(cw, (.object "ThriceCounted$Ones")), (csw, .long), (csh, .int)] t ∧ va_D (va_A [(o, .inr (11, [.ref aw, .ref (ab 0), .ref ai, .ref ak, .ref sc, .ref rd, .ref fo, .ref tx, .int ty, .ref ar, .ref at_, .ref ao])), (aw, .inl (cw, 6, .inr (.inr (.inr (.inr (tz_w w0 w1 w2 w3 w4 w5)))))), (w0, .inr (4, [])), (w1, .inr (1, [])), (w2, .inr (10, [])), (w3, .inr (3, [])), (w4, .inr (9, [])), (w5, .inr (8, [])), (sc, .inr (7, [.ref sw, .ref sh])), (sw, .inl (csw, 21, .inr (.inl fw))), (sh, .inl (csh, 21, .inl fh))] sz) [(o, .inr (11, [.ref aw, .ref (ab 0), .ref ai, .ref ak, .ref sc, .ref rd, .ref fo, .ref tx, .int ty, .ref ar, .ref at_, .ref ao])), (aw, .inl (cw, 6, .inr (.inr (.inr (.inr (tz_w w0 w1 w2 w3 w4 w5)))))), (w0, .inr (4, [])), (w1, .inr (1, [])), (w2, .inr (10, [])), (w3, .inr (3, [])), (w4, .inr (9, [])), (w5, .inr (8, [])), (sc, .inr (7, [.ref sw, .ref sh])), (sw, .inl (csw, 21, .inr (.inl gw))), (sh, .inl (csh, 21, .inl gh))]) (va_A [(o, .inr (11, [.ref aw, .ref (ab 0), .ref ai, .ref ak, .ref sc, .ref rd, .ref fo, .ref tx, .int ty, .ref ar, .ref at_, .ref ao])), (aw, .inl (cw, 6, .inr (.inr (.inr (.inr (tz_w w0 w1 w2 w3 w4 w5)))))), (w0, .inr (4, [])), (w1, .inr (1, [])), (w2, .inr (10, [])), (w3, .inr (3, [])), (w4, .inr (9, [])), (w5, .inr (8, [])), (sc, .inr (7, [.ref sw, .ref sh])), (sw, .inl (csw, 21, .inr (.inl fw))), (sh, .inl (csh, 21, .inl fh))] sz)) 0 0 (va_A [(o, .inr (11, [.ref aw, .ref (ab 0), .ref ai, .ref ak, .ref sc, .ref rd, .ref fo, .ref tx, .int ty, .ref ar, .ref at_, .ref ao])), (aw, .inl (cw, 6, .inr (.inr (.inr (.inr (tz_w w0 w1 w2 w3 w4 w5)))))), (w0, .inr (4, [])), (w1, .inr (1, [])), (w2, .inr (10, [])), (w3, .inr (3, [])), (w4, .inr (9, [])), (w5, .inr (8, [])), (sc, .inr (7, [.ref sw, .ref sh])), (sw, .inl (csw, 21, .inr (.inl fw))), (sh, .inl (csh, 21, .inl fh))] sz) := by
  refine Met.ofW (cc := cX11_weighMore) (maxL := 4) (ret := none) (by decide) rfl ?_
  intro p e s m args below meth c s₁ B hml hv
  obtain ⟨rfl, hsz, hP, hK, hD0⟩ := hv
  have hx := B.exec
  have hb := B.bytes
  have hr := B.returns
  have hts := atoms_spec (ws := wsX11_weighMore) B.pre
  have hown : s.vm.findClass RX11 = some m.cls := findClass_of_methodNamed B.named
  have hlocks := B.notSynchronized
  subst hsz
  have hD := hD0.self (sz := s.heap.size)
  generalize hAe : va_A [(o, .inr (11, [.ref aw, .ref (ab 0), .ref ai, .ref ak, .ref sc, .ref rd, .ref fo, .ref tx, .int ty, .ref ar, .ref at_, .ref ao])), (aw, .inl (cw, 6, .inr (.inr (.inr (.inr (tz_w w0 w1 w2 w3 w4 w5)))))), (w0, .inr (4, [])), (w1, .inr (1, [])), (w2, .inr (10, [])), (w3, .inr (3, [])), (w4, .inr (9, [])), (w5, .inr (8, [])), (sc, .inr (7, [.ref sw, .ref sh])), (sw, .inl (csw, 21, .inr (.inl fw))), (sh, .inl (csh, 21, .inl fh))] s.heap.size = A at hD ⊢
  have hA : ∀ q : Nat, s.heap.size ≤ q → A q := fun q h => by rw [← hAe]; exact Or.inr h
  have hS : va_S A s.heap s.heap [] := va_S.rf
  have hP : va_P (dC, dI) vwCl [(o, .inr (11, [.ref aw, .ref (ab 0), .ref ai, .ref ak, .ref sc, .ref rd, .ref fo, .ref tx, .int ty, .ref ar, .ref at_, .ref ao])), (aw, .inl (cw, 6, .inr (.inr (.inr (.inr (tz_w w0 w1 w2 w3 w4 w5)))))), (w0, .inr (4, [])), (w1, .inr (1, [])), (w2, .inr (10, [])), (w3, .inr (3, [])), (w4, .inr (9, [])), (w5, .inr (8, [])), (sc, .inr (7, [.ref sw, .ref sh])), (sw, .inl (csw, 21, .inr (.inl fw))), (sh, .inl (csh, 21, .inl fh))] s.heap := hP
  have hl := lv_entry ([.ref o, .int na, .int nb, .int nc]) (n := 4) (Nat.le_of_ble_eq_true rfl)
  rw [lg_entry_eq]
  generalize (lg_sl ([.ref o, .int na, .int nb, .int nc]) ++ List.replicate (4 - (lg_sl ([.ref o, .int na, .int nb, .int nc])).length) Slot.unset).toArray = ls at hl ⊢
  have hl : lv_has ls 4 [(0, .ref o), (1, .int na), (2, .int nb), (3, .int nc)] := hl
  refine lv_aload_n hx hb dX11_weighMore_0 rfl (lv_at hl 0 rfl) ?_
  refine lv_iload_n hx hb dX11_weighMore_1 rfl (lv_at hl 1 rfl) ?_
  have hPc_1 := hP.sub (ws' := [(o, .inr (11, [.ref aw, .ref (ab 0), .ref ai, .ref ak, .ref sc, .ref rd, .ref fo, .ref tx, .int ty, .ref ar, .ref at_, .ref ao])), (aw, .inl (cw, 6, .inr (.inr (.inr (.inr (tz_w w0 w1 w2 w3 w4 w5)))))), (w0, .inr (4, [])), (w1, .inr (1, [])), (w2, .inr (10, [])), (w3, .inr (3, [])), (w4, .inr (9, [])), (w5, .inr (8, []))]) [0, 1, 2, 3, 4, 5, 6, 7] rfl
  have hKc_2 := hK.sub (tys' := [(cw, (.object "ThriceCounted$Ones"))]) [0] rfl
  refine vp_callSi (va_Run.run (va_runV (As := [.int na]) (rest := []) ⟨hx, hb, hml, hown, hts⟩ (x_isWay l dC dI o aw ab ai ak sc rd fo tx ty ar at_ ao cw w0 w1 w2 w3 w4 w5 na) (cwV 1 hts gX11_weighMore_X11_isWay rfl rfl rfl (by decide +kernel) ⟨Nat.le_of_ble_eq_true rfl, Nat.le_of_ble_eq_true rfl⟩) ⟨fun a U g mk q => by obtain ⟨q0, qP, qK⟩ := q; exact ⟨q0, qP, va_K.moved (u := U) (U := U.calling g mk a) (Vm.Alike.refl U.vm) qK⟩, va_recv hK hP (ci := 11) (q0 := 0) rfl rfl, fun U hU hW => ⟨rfl, by rw [hU]; exact hPc_1, va_K.moved hW.alike hKc_2⟩⟩ rfl rfl hl.1 rfl (lv_room (Nat.le_of_ble_eq_true rfl)) dX11_weighMore_2 ⟨Nat.le_of_ble_eq_true rfl, Nat.le_of_ble_eq_true rfl⟩)) (fun r_3 hw_4 => ?_)
  by_cases hc_5 : 0 ≤ na ∧ na ≤ 5
  · obtain rfl : 1 = r_3 := (hw_4.trans (if_pos hc_5)).symm
    refine lv_if_eq (tgt := 23) hx hb dX11_weighMore_5 (by decide) (fun c_6 => ?_) (fun c_6 => ?_)
    · exact absurd c_6 (by decide)
    · refine lv_aload_n hx hb dX11_weighMore_8 rfl (lv_at hl 0 rfl) ?_
      refine va_get (D := (dC, dI)) (ci := 11) (v := .ref sc) (C := RX11) (T := TX11) (N := 12) hx hb hts iw_x_weighMore_X11 hown hK hP 0 rfl rfl 4 (by decide) (hts (.fieldLink RX11 49 "ThriceCounted" "scale" "LThriceCounted$Scale;") (by decide +kernel)) (fun _ h9 => h9) rfl dX11_weighMore_9 ?_
      refine lv_aload_n hx hb dX11_weighMore_12 rfl (lv_at hl 0 rfl) ?_
      refine va_get (D := (dC, dI)) (ci := 11) (v := .ref aw) (C := RX11) (T := TX11) (N := 12) hx hb hts iw_x_weighMore_X11 hown hK hP 0 rfl rfl 0 (by decide) (hts (.fieldLink RX11 25 "ThriceCounted" "ways" "[LThriceCounted$Ones;") (by decide +kernel)) (fun _ h9 => h9) rfl dX11_weighMore_13 ?_
      refine lv_iload_n hx hb dX11_weighMore_16 rfl (lv_at hl 1 rfl) ?_
      rcases (tz_six hc_5) with rfl | rfl | rfl | rfl | rfl | rfl
      · refine va_aldq hx hb hK hP 1 0 rfl rfl (show ¬ ((0 : Int32) < 0 ∨ 6 ≤ (0 : Int32).toNatClampNeg) by decide) dX11_weighMore_17 ?_
        refine tz_v (.ref w0) rfl ?_
        refine lv_iload_n hx hb dX11_weighMore_18 rfl (lv_at hl 2 rfl) ?_
        refine lv_iload_n hx hb dX11_weighMore_19 rfl (lv_at hl 3 rfl) ?_
        have hPc := hP.sub (ws' := [(sc, .inr (7, [.ref sw, .ref sh])), (sw, .inl (csw, 21, .inr (.inl fw))), (sh, .inl (csh, 21, .inl fh)), (w0, .inr (4, []))]) [8, 9, 10, 2] rfl
        have hDc := hD.sub (ws' := [(sc, .inr (7, [.ref sw, .ref sh])), (sw, .inl (csw, 21, .inr (.inl fw))), (sh, .inl (csh, 21, .inl fh)), (w0, .inr (4, []))]) [8, 9, 10, 2] (by decide) rfl
        have hKc := hK.sub (tys' := [(csw, .long), (csh, .int)]) [1, 2] rfl
        have hFc := va_free (wc := [(sc, .inr (7, [.ref sw, .ref sh])), (sw, .inl (csw, 21, .inr (.inl fw))), (sh, .inl (csh, 21, .inl fh)), (w0, .inr (4, []))]) hD hS hA [8, 9, 10, 2] rfl
        refine va_callv (va_runV (As := [.ref w0, .int nb, .int nc]) (rest := []) ⟨hx, hb, hml, hown, hts⟩ (s_add_X4 l dC dI sc sw sh csw fw csh fh w0 nb nc s.heap.size) (cwV 3 hts gX11_weighMore_X7_addCounts rfl rfl rfl (by decide +kernel) ⟨Nat.le_of_ble_eq_true rfl, Nat.le_of_ble_eq_true rfl⟩) ⟨fun a U g mk q => by obtain ⟨q0, q1, qP, qK, qD⟩ := q; exact ⟨q0, q1, qP, va_K.moved (u := U) (U := U.calling g mk a) (Vm.Alike.refl U.vm) qK, qD⟩, va_recv hK hP (ci := 7) (q0 := 8) rfl rfl, fun U hU hW => ⟨rfl, by rw [hU], by rw [hU]; exact hPc, va_K.moved hW.alike hKc, hDc.weaken (fun _ _ _ _ => trivial)⟩⟩ rfl rfl hl.1 rfl (lv_room (Nat.le_of_ble_eq_true rfl)) dX11_weighMore_20 ⟨Nat.le_of_ble_eq_true rfl, Nat.le_of_ble_eq_true rfl⟩) hS (fun q _ h => hFc q h) hFc (fun u_ t H1 locs ht hvm hw_8 hB hz1 hk1 hS => ?_)
        obtain ⟨gw_9, gh_10, hP1, hK1, hD1⟩ := hB
        rw [ht] at hP1
        have hK1 := va_K.moved hvm.symm hK1
        obtain ⟨hP, hD⟩ := va_join (wr := [(o, .inr (11, [.ref aw, .ref (ab 0), .ref ai, .ref ak, .ref sc, .ref rd, .ref fo, .ref tx, .int ty, .ref ar, .ref at_, .ref ao])), (aw, .inl (cw, 6, .inr (.inr (.inr (.inr (tz_w w0 w1 w2 w3 w4 w5)))))), (w1, .inr (1, [])), (w2, .inr (10, [])), (w3, .inr (3, [])), (w4, .inr (9, [])), (w5, .inr (8, []))]) (w1 := [(sc, .inr (7, [.ref sw, .ref sh])), (sw, .inl (csw, 21, .inr (.inl gw_9))), (sh, .inl (csh, 21, .inl gh_10)), (w0, .inr (4, []))]) hP hD [8, 9, 10, 2] [0, 1, 3, 4, 5, 6, 7] rfl rfl (by decide) (by decide) hk1 hFc hP1 hD1
        generalize H1 = H at hP hS ⊢
        have hP : va_P (dC, dI) vwCl [(o, .inr (11, [.ref aw, .ref (ab 0), .ref ai, .ref ak, .ref sc, .ref rd, .ref fo, .ref tx, .int ty, .ref ar, .ref at_, .ref ao])), (aw, .inl (cw, 6, .inr (.inr (.inr (.inr (tz_w w0 w1 w2 w3 w4 w5)))))), (w1, .inr (1, [])), (w2, .inr (10, [])), (w3, .inr (3, [])), (w4, .inr (9, [])), (w5, .inr (8, [])), (sc, .inr (7, [.ref sw, .ref sh])), (sw, .inl (csw, 21, .inr (.inl gw_9))), (sh, .inl (csh, 21, .inl gh_10)), (w0, .inr (4, []))] H := hP
        have hD : va_D A [(o, .inr (11, [.ref aw, .ref (ab 0), .ref ai, .ref ak, .ref sc, .ref rd, .ref fo, .ref tx, .int ty, .ref ar, .ref at_, .ref ao])), (aw, .inl (cw, 6, .inr (.inr (.inr (.inr (tz_w w0 w1 w2 w3 w4 w5)))))), (w1, .inr (1, [])), (w2, .inr (10, [])), (w3, .inr (3, [])), (w4, .inr (9, [])), (w5, .inr (8, [])), (sc, .inr (7, [.ref sw, .ref sh])), (sw, .inl (csw, 21, .inr (.inl gw_9))), (sh, .inl (csh, 21, .inl gh_10)), (w0, .inr (4, []))] := hD
        have hP9 := hP.sub (ws' := [(o, .inr (11, [.ref aw, .ref (ab 0), .ref ai, .ref ak, .ref sc, .ref rd, .ref fo, .ref tx, .int ty, .ref ar, .ref at_, .ref ao])), (aw, .inl (cw, 6, .inr (.inr (.inr (.inr (tz_w w0 w1 w2 w3 w4 w5)))))), (w0, .inr (4, [])), (w1, .inr (1, [])), (w2, .inr (10, [])), (w3, .inr (3, [])), (w4, .inr (9, [])), (w5, .inr (8, [])), (sc, .inr (7, [.ref sw, .ref sh])), (sw, .inl (csw, 21, .inr (.inl gw_9))), (sh, .inl (csh, 21, .inl gh_10))]) [0, 1, 10, 2, 3, 4, 5, 6, 7, 8, 9] rfl
        have hD9 := hD.sub (ws' := [(o, .inr (11, [.ref aw, .ref (ab 0), .ref ai, .ref ak, .ref sc, .ref rd, .ref fo, .ref tx, .int ty, .ref ar, .ref at_, .ref ao])), (aw, .inl (cw, 6, .inr (.inr (.inr (.inr (tz_w w0 w1 w2 w3 w4 w5)))))), (w0, .inr (4, [])), (w1, .inr (1, [])), (w2, .inr (10, [])), (w3, .inr (3, [])), (w4, .inr (9, [])), (w5, .inr (8, [])), (sc, .inr (7, [.ref sw, .ref sh])), (sw, .inl (csw, 21, .inr (.inl gw_9))), (sh, .inl (csh, 21, .inl gh_10))]) [0, 1, 10, 2, 3, 4, 5, 6, 7, 8, 9] (by decide) rfl
        have hK9 := hK.sub (tys' := [(cw, (.object "ThriceCounted$Ones")), (csw, .long), (csh, .int)]) [0, 1, 2] rfl
        exact W.vret hx hb hr (fun t ht hW => ⟨⟨(), rfl, trivial, gw_9, gh_10, by rw [ht]; exact hP9, va_K.moved hW.alike hK9, hD9⟩, hS.F ht⟩) hS.2.2 dX11_weighMore_23
      · refine va_aldq hx hb hK hP 1 0 rfl rfl (show ¬ ((1 : Int32) < 0 ∨ 6 ≤ (1 : Int32).toNatClampNeg) by decide) dX11_weighMore_17 ?_
        refine tz_v (.ref w1) rfl ?_
        refine lv_iload_n hx hb dX11_weighMore_18 rfl (lv_at hl 2 rfl) ?_
        refine lv_iload_n hx hb dX11_weighMore_19 rfl (lv_at hl 3 rfl) ?_
        have hPc := hP.sub (ws' := [(sc, .inr (7, [.ref sw, .ref sh])), (sw, .inl (csw, 21, .inr (.inl fw))), (sh, .inl (csh, 21, .inl fh)), (w1, .inr (1, []))]) [8, 9, 10, 3] rfl
        have hDc := hD.sub (ws' := [(sc, .inr (7, [.ref sw, .ref sh])), (sw, .inl (csw, 21, .inr (.inl fw))), (sh, .inl (csh, 21, .inl fh)), (w1, .inr (1, []))]) [8, 9, 10, 3] (by decide) rfl
        have hKc := hK.sub (tys' := [(csw, .long), (csh, .int)]) [1, 2] rfl
        have hFc := va_free (wc := [(sc, .inr (7, [.ref sw, .ref sh])), (sw, .inl (csw, 21, .inr (.inl fw))), (sh, .inl (csh, 21, .inl fh)), (w1, .inr (1, []))]) hD hS hA [8, 9, 10, 3] rfl
        refine va_callv (va_runV (As := [.ref w1, .int nb, .int nc]) (rest := []) ⟨hx, hb, hml, hown, hts⟩ (s_add_X1 l dC dI sc sw sh csw fw csh fh w1 nb nc s.heap.size) (cwV 3 hts gX11_weighMore_X7_addCounts rfl rfl rfl (by decide +kernel) ⟨Nat.le_of_ble_eq_true rfl, Nat.le_of_ble_eq_true rfl⟩) ⟨fun a U g mk q => by obtain ⟨q0, q1, qP, qK, qD⟩ := q; exact ⟨q0, q1, qP, va_K.moved (u := U) (U := U.calling g mk a) (Vm.Alike.refl U.vm) qK, qD⟩, va_recv hK hP (ci := 7) (q0 := 8) rfl rfl, fun U hU hW => ⟨rfl, by rw [hU], by rw [hU]; exact hPc, va_K.moved hW.alike hKc, hDc.weaken (fun _ _ _ _ => trivial)⟩⟩ rfl rfl hl.1 rfl (lv_room (Nat.le_of_ble_eq_true rfl)) dX11_weighMore_20 ⟨Nat.le_of_ble_eq_true rfl, Nat.le_of_ble_eq_true rfl⟩) hS (fun q _ h => hFc q h) hFc (fun u_ t H1 locs ht hvm hw_12 hB hz1 hk1 hS => ?_)
        obtain ⟨gw_13, gh_14, hP1, hK1, hD1⟩ := hB
        rw [ht] at hP1
        have hK1 := va_K.moved hvm.symm hK1
        obtain ⟨hP, hD⟩ := va_join (wr := [(o, .inr (11, [.ref aw, .ref (ab 0), .ref ai, .ref ak, .ref sc, .ref rd, .ref fo, .ref tx, .int ty, .ref ar, .ref at_, .ref ao])), (aw, .inl (cw, 6, .inr (.inr (.inr (.inr (tz_w w0 w1 w2 w3 w4 w5)))))), (w0, .inr (4, [])), (w2, .inr (10, [])), (w3, .inr (3, [])), (w4, .inr (9, [])), (w5, .inr (8, []))]) (w1 := [(sc, .inr (7, [.ref sw, .ref sh])), (sw, .inl (csw, 21, .inr (.inl gw_13))), (sh, .inl (csh, 21, .inl gh_14)), (w1, .inr (1, []))]) hP hD [8, 9, 10, 3] [0, 1, 2, 4, 5, 6, 7] rfl rfl (by decide) (by decide) hk1 hFc hP1 hD1
        generalize H1 = H at hP hS ⊢
        have hP : va_P (dC, dI) vwCl [(o, .inr (11, [.ref aw, .ref (ab 0), .ref ai, .ref ak, .ref sc, .ref rd, .ref fo, .ref tx, .int ty, .ref ar, .ref at_, .ref ao])), (aw, .inl (cw, 6, .inr (.inr (.inr (.inr (tz_w w0 w1 w2 w3 w4 w5)))))), (w0, .inr (4, [])), (w2, .inr (10, [])), (w3, .inr (3, [])), (w4, .inr (9, [])), (w5, .inr (8, [])), (sc, .inr (7, [.ref sw, .ref sh])), (sw, .inl (csw, 21, .inr (.inl gw_13))), (sh, .inl (csh, 21, .inl gh_14)), (w1, .inr (1, []))] H := hP
        have hD : va_D A [(o, .inr (11, [.ref aw, .ref (ab 0), .ref ai, .ref ak, .ref sc, .ref rd, .ref fo, .ref tx, .int ty, .ref ar, .ref at_, .ref ao])), (aw, .inl (cw, 6, .inr (.inr (.inr (.inr (tz_w w0 w1 w2 w3 w4 w5)))))), (w0, .inr (4, [])), (w2, .inr (10, [])), (w3, .inr (3, [])), (w4, .inr (9, [])), (w5, .inr (8, [])), (sc, .inr (7, [.ref sw, .ref sh])), (sw, .inl (csw, 21, .inr (.inl gw_13))), (sh, .inl (csh, 21, .inl gh_14)), (w1, .inr (1, []))] := hD
        have hP9 := hP.sub (ws' := [(o, .inr (11, [.ref aw, .ref (ab 0), .ref ai, .ref ak, .ref sc, .ref rd, .ref fo, .ref tx, .int ty, .ref ar, .ref at_, .ref ao])), (aw, .inl (cw, 6, .inr (.inr (.inr (.inr (tz_w w0 w1 w2 w3 w4 w5)))))), (w0, .inr (4, [])), (w1, .inr (1, [])), (w2, .inr (10, [])), (w3, .inr (3, [])), (w4, .inr (9, [])), (w5, .inr (8, [])), (sc, .inr (7, [.ref sw, .ref sh])), (sw, .inl (csw, 21, .inr (.inl gw_13))), (sh, .inl (csh, 21, .inl gh_14))]) [0, 1, 2, 10, 3, 4, 5, 6, 7, 8, 9] rfl
        have hD9 := hD.sub (ws' := [(o, .inr (11, [.ref aw, .ref (ab 0), .ref ai, .ref ak, .ref sc, .ref rd, .ref fo, .ref tx, .int ty, .ref ar, .ref at_, .ref ao])), (aw, .inl (cw, 6, .inr (.inr (.inr (.inr (tz_w w0 w1 w2 w3 w4 w5)))))), (w0, .inr (4, [])), (w1, .inr (1, [])), (w2, .inr (10, [])), (w3, .inr (3, [])), (w4, .inr (9, [])), (w5, .inr (8, [])), (sc, .inr (7, [.ref sw, .ref sh])), (sw, .inl (csw, 21, .inr (.inl gw_13))), (sh, .inl (csh, 21, .inl gh_14))]) [0, 1, 2, 10, 3, 4, 5, 6, 7, 8, 9] (by decide) rfl
        have hK9 := hK.sub (tys' := [(cw, (.object "ThriceCounted$Ones")), (csw, .long), (csh, .int)]) [0, 1, 2] rfl
        exact W.vret hx hb hr (fun t ht hW => ⟨⟨(), rfl, trivial, gw_13, gh_14, by rw [ht]; exact hP9, va_K.moved hW.alike hK9, hD9⟩, hS.F ht⟩) hS.2.2 dX11_weighMore_23
      · refine va_aldq hx hb hK hP 1 0 rfl rfl (show ¬ ((2 : Int32) < 0 ∨ 6 ≤ (2 : Int32).toNatClampNeg) by decide) dX11_weighMore_17 ?_
        refine tz_v (.ref w2) rfl ?_
        refine lv_iload_n hx hb dX11_weighMore_18 rfl (lv_at hl 2 rfl) ?_
        refine lv_iload_n hx hb dX11_weighMore_19 rfl (lv_at hl 3 rfl) ?_
        have hPc := hP.sub (ws' := [(sc, .inr (7, [.ref sw, .ref sh])), (sw, .inl (csw, 21, .inr (.inl fw))), (sh, .inl (csh, 21, .inl fh)), (w2, .inr (10, []))]) [8, 9, 10, 4] rfl
        have hDc := hD.sub (ws' := [(sc, .inr (7, [.ref sw, .ref sh])), (sw, .inl (csw, 21, .inr (.inl fw))), (sh, .inl (csh, 21, .inl fh)), (w2, .inr (10, []))]) [8, 9, 10, 4] (by decide) rfl
        have hKc := hK.sub (tys' := [(csw, .long), (csh, .int)]) [1, 2] rfl
        have hFc := va_free (wc := [(sc, .inr (7, [.ref sw, .ref sh])), (sw, .inl (csw, 21, .inr (.inl fw))), (sh, .inl (csh, 21, .inl fh)), (w2, .inr (10, []))]) hD hS hA [8, 9, 10, 4] rfl
        refine va_callv (va_runV (As := [.ref w2, .int nb, .int nc]) (rest := []) ⟨hx, hb, hml, hown, hts⟩ (s_add_X10 l dC dI sc sw sh csw fw csh fh w2 nb nc s.heap.size) (cwV 3 hts gX11_weighMore_X7_addCounts rfl rfl rfl (by decide +kernel) ⟨Nat.le_of_ble_eq_true rfl, Nat.le_of_ble_eq_true rfl⟩) ⟨fun a U g mk q => by obtain ⟨q0, q1, qP, qK, qD⟩ := q; exact ⟨q0, q1, qP, va_K.moved (u := U) (U := U.calling g mk a) (Vm.Alike.refl U.vm) qK, qD⟩, va_recv hK hP (ci := 7) (q0 := 8) rfl rfl, fun U hU hW => ⟨rfl, by rw [hU], by rw [hU]; exact hPc, va_K.moved hW.alike hKc, hDc.weaken (fun _ _ _ _ => trivial)⟩⟩ rfl rfl hl.1 rfl (lv_room (Nat.le_of_ble_eq_true rfl)) dX11_weighMore_20 ⟨Nat.le_of_ble_eq_true rfl, Nat.le_of_ble_eq_true rfl⟩) hS (fun q _ h => hFc q h) hFc (fun u_ t H1 locs ht hvm hw_16 hB hz1 hk1 hS => ?_)
        obtain ⟨gw_17, gh_18, hP1, hK1, hD1⟩ := hB
        rw [ht] at hP1
        have hK1 := va_K.moved hvm.symm hK1
        obtain ⟨hP, hD⟩ := va_join (wr := [(o, .inr (11, [.ref aw, .ref (ab 0), .ref ai, .ref ak, .ref sc, .ref rd, .ref fo, .ref tx, .int ty, .ref ar, .ref at_, .ref ao])), (aw, .inl (cw, 6, .inr (.inr (.inr (.inr (tz_w w0 w1 w2 w3 w4 w5)))))), (w0, .inr (4, [])), (w1, .inr (1, [])), (w3, .inr (3, [])), (w4, .inr (9, [])), (w5, .inr (8, []))]) (w1 := [(sc, .inr (7, [.ref sw, .ref sh])), (sw, .inl (csw, 21, .inr (.inl gw_17))), (sh, .inl (csh, 21, .inl gh_18)), (w2, .inr (10, []))]) hP hD [8, 9, 10, 4] [0, 1, 2, 3, 5, 6, 7] rfl rfl (by decide) (by decide) hk1 hFc hP1 hD1
        generalize H1 = H at hP hS ⊢
        have hP : va_P (dC, dI) vwCl [(o, .inr (11, [.ref aw, .ref (ab 0), .ref ai, .ref ak, .ref sc, .ref rd, .ref fo, .ref tx, .int ty, .ref ar, .ref at_, .ref ao])), (aw, .inl (cw, 6, .inr (.inr (.inr (.inr (tz_w w0 w1 w2 w3 w4 w5)))))), (w0, .inr (4, [])), (w1, .inr (1, [])), (w3, .inr (3, [])), (w4, .inr (9, [])), (w5, .inr (8, [])), (sc, .inr (7, [.ref sw, .ref sh])), (sw, .inl (csw, 21, .inr (.inl gw_17))), (sh, .inl (csh, 21, .inl gh_18)), (w2, .inr (10, []))] H := hP
        have hD : va_D A [(o, .inr (11, [.ref aw, .ref (ab 0), .ref ai, .ref ak, .ref sc, .ref rd, .ref fo, .ref tx, .int ty, .ref ar, .ref at_, .ref ao])), (aw, .inl (cw, 6, .inr (.inr (.inr (.inr (tz_w w0 w1 w2 w3 w4 w5)))))), (w0, .inr (4, [])), (w1, .inr (1, [])), (w3, .inr (3, [])), (w4, .inr (9, [])), (w5, .inr (8, [])), (sc, .inr (7, [.ref sw, .ref sh])), (sw, .inl (csw, 21, .inr (.inl gw_17))), (sh, .inl (csh, 21, .inl gh_18)), (w2, .inr (10, []))] := hD
        have hP9 := hP.sub (ws' := [(o, .inr (11, [.ref aw, .ref (ab 0), .ref ai, .ref ak, .ref sc, .ref rd, .ref fo, .ref tx, .int ty, .ref ar, .ref at_, .ref ao])), (aw, .inl (cw, 6, .inr (.inr (.inr (.inr (tz_w w0 w1 w2 w3 w4 w5)))))), (w0, .inr (4, [])), (w1, .inr (1, [])), (w2, .inr (10, [])), (w3, .inr (3, [])), (w4, .inr (9, [])), (w5, .inr (8, [])), (sc, .inr (7, [.ref sw, .ref sh])), (sw, .inl (csw, 21, .inr (.inl gw_17))), (sh, .inl (csh, 21, .inl gh_18))]) [0, 1, 2, 3, 10, 4, 5, 6, 7, 8, 9] rfl
        have hD9 := hD.sub (ws' := [(o, .inr (11, [.ref aw, .ref (ab 0), .ref ai, .ref ak, .ref sc, .ref rd, .ref fo, .ref tx, .int ty, .ref ar, .ref at_, .ref ao])), (aw, .inl (cw, 6, .inr (.inr (.inr (.inr (tz_w w0 w1 w2 w3 w4 w5)))))), (w0, .inr (4, [])), (w1, .inr (1, [])), (w2, .inr (10, [])), (w3, .inr (3, [])), (w4, .inr (9, [])), (w5, .inr (8, [])), (sc, .inr (7, [.ref sw, .ref sh])), (sw, .inl (csw, 21, .inr (.inl gw_17))), (sh, .inl (csh, 21, .inl gh_18))]) [0, 1, 2, 3, 10, 4, 5, 6, 7, 8, 9] (by decide) rfl
        have hK9 := hK.sub (tys' := [(cw, (.object "ThriceCounted$Ones")), (csw, .long), (csh, .int)]) [0, 1, 2] rfl
        exact W.vret hx hb hr (fun t ht hW => ⟨⟨(), rfl, trivial, gw_17, gh_18, by rw [ht]; exact hP9, va_K.moved hW.alike hK9, hD9⟩, hS.F ht⟩) hS.2.2 dX11_weighMore_23
      · refine va_aldq hx hb hK hP 1 0 rfl rfl (show ¬ ((3 : Int32) < 0 ∨ 6 ≤ (3 : Int32).toNatClampNeg) by decide) dX11_weighMore_17 ?_
        refine tz_v (.ref w3) rfl ?_
        refine lv_iload_n hx hb dX11_weighMore_18 rfl (lv_at hl 2 rfl) ?_
        refine lv_iload_n hx hb dX11_weighMore_19 rfl (lv_at hl 3 rfl) ?_
        have hPc := hP.sub (ws' := [(sc, .inr (7, [.ref sw, .ref sh])), (sw, .inl (csw, 21, .inr (.inl fw))), (sh, .inl (csh, 21, .inl fh)), (w3, .inr (3, []))]) [8, 9, 10, 5] rfl
        have hDc := hD.sub (ws' := [(sc, .inr (7, [.ref sw, .ref sh])), (sw, .inl (csw, 21, .inr (.inl fw))), (sh, .inl (csh, 21, .inl fh)), (w3, .inr (3, []))]) [8, 9, 10, 5] (by decide) rfl
        have hKc := hK.sub (tys' := [(csw, .long), (csh, .int)]) [1, 2] rfl
        have hFc := va_free (wc := [(sc, .inr (7, [.ref sw, .ref sh])), (sw, .inl (csw, 21, .inr (.inl fw))), (sh, .inl (csh, 21, .inl fh)), (w3, .inr (3, []))]) hD hS hA [8, 9, 10, 5] rfl
        refine va_callv (va_runV (As := [.ref w3, .int nb, .int nc]) (rest := []) ⟨hx, hb, hml, hown, hts⟩ (s_add_X3 l dC dI sc sw sh csw fw csh fh w3 nb nc s.heap.size) (cwV 3 hts gX11_weighMore_X7_addCounts rfl rfl rfl (by decide +kernel) ⟨Nat.le_of_ble_eq_true rfl, Nat.le_of_ble_eq_true rfl⟩) ⟨fun a U g mk q => by obtain ⟨q0, q1, qP, qK, qD⟩ := q; exact ⟨q0, q1, qP, va_K.moved (u := U) (U := U.calling g mk a) (Vm.Alike.refl U.vm) qK, qD⟩, va_recv hK hP (ci := 7) (q0 := 8) rfl rfl, fun U hU hW => ⟨rfl, by rw [hU], by rw [hU]; exact hPc, va_K.moved hW.alike hKc, hDc.weaken (fun _ _ _ _ => trivial)⟩⟩ rfl rfl hl.1 rfl (lv_room (Nat.le_of_ble_eq_true rfl)) dX11_weighMore_20 ⟨Nat.le_of_ble_eq_true rfl, Nat.le_of_ble_eq_true rfl⟩) hS (fun q _ h => hFc q h) hFc (fun u_ t H1 locs ht hvm hw_20 hB hz1 hk1 hS => ?_)
        obtain ⟨gw_21, gh_22, hP1, hK1, hD1⟩ := hB
        rw [ht] at hP1
        have hK1 := va_K.moved hvm.symm hK1
        obtain ⟨hP, hD⟩ := va_join (wr := [(o, .inr (11, [.ref aw, .ref (ab 0), .ref ai, .ref ak, .ref sc, .ref rd, .ref fo, .ref tx, .int ty, .ref ar, .ref at_, .ref ao])), (aw, .inl (cw, 6, .inr (.inr (.inr (.inr (tz_w w0 w1 w2 w3 w4 w5)))))), (w0, .inr (4, [])), (w1, .inr (1, [])), (w2, .inr (10, [])), (w4, .inr (9, [])), (w5, .inr (8, []))]) (w1 := [(sc, .inr (7, [.ref sw, .ref sh])), (sw, .inl (csw, 21, .inr (.inl gw_21))), (sh, .inl (csh, 21, .inl gh_22)), (w3, .inr (3, []))]) hP hD [8, 9, 10, 5] [0, 1, 2, 3, 4, 6, 7] rfl rfl (by decide) (by decide) hk1 hFc hP1 hD1
        generalize H1 = H at hP hS ⊢
        have hP : va_P (dC, dI) vwCl [(o, .inr (11, [.ref aw, .ref (ab 0), .ref ai, .ref ak, .ref sc, .ref rd, .ref fo, .ref tx, .int ty, .ref ar, .ref at_, .ref ao])), (aw, .inl (cw, 6, .inr (.inr (.inr (.inr (tz_w w0 w1 w2 w3 w4 w5)))))), (w0, .inr (4, [])), (w1, .inr (1, [])), (w2, .inr (10, [])), (w4, .inr (9, [])), (w5, .inr (8, [])), (sc, .inr (7, [.ref sw, .ref sh])), (sw, .inl (csw, 21, .inr (.inl gw_21))), (sh, .inl (csh, 21, .inl gh_22)), (w3, .inr (3, []))] H := hP
        have hD : va_D A [(o, .inr (11, [.ref aw, .ref (ab 0), .ref ai, .ref ak, .ref sc, .ref rd, .ref fo, .ref tx, .int ty, .ref ar, .ref at_, .ref ao])), (aw, .inl (cw, 6, .inr (.inr (.inr (.inr (tz_w w0 w1 w2 w3 w4 w5)))))), (w0, .inr (4, [])), (w1, .inr (1, [])), (w2, .inr (10, [])), (w4, .inr (9, [])), (w5, .inr (8, [])), (sc, .inr (7, [.ref sw, .ref sh])), (sw, .inl (csw, 21, .inr (.inl gw_21))), (sh, .inl (csh, 21, .inl gh_22)), (w3, .inr (3, []))] := hD
        have hP9 := hP.sub (ws' := [(o, .inr (11, [.ref aw, .ref (ab 0), .ref ai, .ref ak, .ref sc, .ref rd, .ref fo, .ref tx, .int ty, .ref ar, .ref at_, .ref ao])), (aw, .inl (cw, 6, .inr (.inr (.inr (.inr (tz_w w0 w1 w2 w3 w4 w5)))))), (w0, .inr (4, [])), (w1, .inr (1, [])), (w2, .inr (10, [])), (w3, .inr (3, [])), (w4, .inr (9, [])), (w5, .inr (8, [])), (sc, .inr (7, [.ref sw, .ref sh])), (sw, .inl (csw, 21, .inr (.inl gw_21))), (sh, .inl (csh, 21, .inl gh_22))]) [0, 1, 2, 3, 4, 10, 5, 6, 7, 8, 9] rfl
        have hD9 := hD.sub (ws' := [(o, .inr (11, [.ref aw, .ref (ab 0), .ref ai, .ref ak, .ref sc, .ref rd, .ref fo, .ref tx, .int ty, .ref ar, .ref at_, .ref ao])), (aw, .inl (cw, 6, .inr (.inr (.inr (.inr (tz_w w0 w1 w2 w3 w4 w5)))))), (w0, .inr (4, [])), (w1, .inr (1, [])), (w2, .inr (10, [])), (w3, .inr (3, [])), (w4, .inr (9, [])), (w5, .inr (8, [])), (sc, .inr (7, [.ref sw, .ref sh])), (sw, .inl (csw, 21, .inr (.inl gw_21))), (sh, .inl (csh, 21, .inl gh_22))]) [0, 1, 2, 3, 4, 10, 5, 6, 7, 8, 9] (by decide) rfl
        have hK9 := hK.sub (tys' := [(cw, (.object "ThriceCounted$Ones")), (csw, .long), (csh, .int)]) [0, 1, 2] rfl
        exact W.vret hx hb hr (fun t ht hW => ⟨⟨(), rfl, trivial, gw_21, gh_22, by rw [ht]; exact hP9, va_K.moved hW.alike hK9, hD9⟩, hS.F ht⟩) hS.2.2 dX11_weighMore_23
      · refine va_aldq hx hb hK hP 1 0 rfl rfl (show ¬ ((4 : Int32) < 0 ∨ 6 ≤ (4 : Int32).toNatClampNeg) by decide) dX11_weighMore_17 ?_
        refine tz_v (.ref w4) rfl ?_
        refine lv_iload_n hx hb dX11_weighMore_18 rfl (lv_at hl 2 rfl) ?_
        refine lv_iload_n hx hb dX11_weighMore_19 rfl (lv_at hl 3 rfl) ?_
        have hPc := hP.sub (ws' := [(sc, .inr (7, [.ref sw, .ref sh])), (sw, .inl (csw, 21, .inr (.inl fw))), (sh, .inl (csh, 21, .inl fh)), (w4, .inr (9, []))]) [8, 9, 10, 6] rfl
        have hDc := hD.sub (ws' := [(sc, .inr (7, [.ref sw, .ref sh])), (sw, .inl (csw, 21, .inr (.inl fw))), (sh, .inl (csh, 21, .inl fh)), (w4, .inr (9, []))]) [8, 9, 10, 6] (by decide) rfl
        have hKc := hK.sub (tys' := [(csw, .long), (csh, .int)]) [1, 2] rfl
        have hFc := va_free (wc := [(sc, .inr (7, [.ref sw, .ref sh])), (sw, .inl (csw, 21, .inr (.inl fw))), (sh, .inl (csh, 21, .inl fh)), (w4, .inr (9, []))]) hD hS hA [8, 9, 10, 6] rfl
        refine va_callv (va_runV (As := [.ref w4, .int nb, .int nc]) (rest := []) ⟨hx, hb, hml, hown, hts⟩ (s_add_X9 l dC dI sc sw sh csw fw csh fh w4 nb nc s.heap.size) (cwV 3 hts gX11_weighMore_X7_addCounts rfl rfl rfl (by decide +kernel) ⟨Nat.le_of_ble_eq_true rfl, Nat.le_of_ble_eq_true rfl⟩) ⟨fun a U g mk q => by obtain ⟨q0, q1, qP, qK, qD⟩ := q; exact ⟨q0, q1, qP, va_K.moved (u := U) (U := U.calling g mk a) (Vm.Alike.refl U.vm) qK, qD⟩, va_recv hK hP (ci := 7) (q0 := 8) rfl rfl, fun U hU hW => ⟨rfl, by rw [hU], by rw [hU]; exact hPc, va_K.moved hW.alike hKc, hDc.weaken (fun _ _ _ _ => trivial)⟩⟩ rfl rfl hl.1 rfl (lv_room (Nat.le_of_ble_eq_true rfl)) dX11_weighMore_20 ⟨Nat.le_of_ble_eq_true rfl, Nat.le_of_ble_eq_true rfl⟩) hS (fun q _ h => hFc q h) hFc (fun u_ t H1 locs ht hvm hw_24 hB hz1 hk1 hS => ?_)
        obtain ⟨gw_25, gh_26, hP1, hK1, hD1⟩ := hB
        rw [ht] at hP1
        have hK1 := va_K.moved hvm.symm hK1
        obtain ⟨hP, hD⟩ := va_join (wr := [(o, .inr (11, [.ref aw, .ref (ab 0), .ref ai, .ref ak, .ref sc, .ref rd, .ref fo, .ref tx, .int ty, .ref ar, .ref at_, .ref ao])), (aw, .inl (cw, 6, .inr (.inr (.inr (.inr (tz_w w0 w1 w2 w3 w4 w5)))))), (w0, .inr (4, [])), (w1, .inr (1, [])), (w2, .inr (10, [])), (w3, .inr (3, [])), (w5, .inr (8, []))]) (w1 := [(sc, .inr (7, [.ref sw, .ref sh])), (sw, .inl (csw, 21, .inr (.inl gw_25))), (sh, .inl (csh, 21, .inl gh_26)), (w4, .inr (9, []))]) hP hD [8, 9, 10, 6] [0, 1, 2, 3, 4, 5, 7] rfl rfl (by decide) (by decide) hk1 hFc hP1 hD1
        generalize H1 = H at hP hS ⊢
        have hP : va_P (dC, dI) vwCl [(o, .inr (11, [.ref aw, .ref (ab 0), .ref ai, .ref ak, .ref sc, .ref rd, .ref fo, .ref tx, .int ty, .ref ar, .ref at_, .ref ao])), (aw, .inl (cw, 6, .inr (.inr (.inr (.inr (tz_w w0 w1 w2 w3 w4 w5)))))), (w0, .inr (4, [])), (w1, .inr (1, [])), (w2, .inr (10, [])), (w3, .inr (3, [])), (w5, .inr (8, [])), (sc, .inr (7, [.ref sw, .ref sh])), (sw, .inl (csw, 21, .inr (.inl gw_25))), (sh, .inl (csh, 21, .inl gh_26)), (w4, .inr (9, []))] H := hP
        have hD : va_D A [(o, .inr (11, [.ref aw, .ref (ab 0), .ref ai, .ref ak, .ref sc, .ref rd, .ref fo, .ref tx, .int ty, .ref ar, .ref at_, .ref ao])), (aw, .inl (cw, 6, .inr (.inr (.inr (.inr (tz_w w0 w1 w2 w3 w4 w5)))))), (w0, .inr (4, [])), (w1, .inr (1, [])), (w2, .inr (10, [])), (w3, .inr (3, [])), (w5, .inr (8, [])), (sc, .inr (7, [.ref sw, .ref sh])), (sw, .inl (csw, 21, .inr (.inl gw_25))), (sh, .inl (csh, 21, .inl gh_26)), (w4, .inr (9, []))] := hD
        have hP9 := hP.sub (ws' := [(o, .inr (11, [.ref aw, .ref (ab 0), .ref ai, .ref ak, .ref sc, .ref rd, .ref fo, .ref tx, .int ty, .ref ar, .ref at_, .ref ao])), (aw, .inl (cw, 6, .inr (.inr (.inr (.inr (tz_w w0 w1 w2 w3 w4 w5)))))), (w0, .inr (4, [])), (w1, .inr (1, [])), (w2, .inr (10, [])), (w3, .inr (3, [])), (w4, .inr (9, [])), (w5, .inr (8, [])), (sc, .inr (7, [.ref sw, .ref sh])), (sw, .inl (csw, 21, .inr (.inl gw_25))), (sh, .inl (csh, 21, .inl gh_26))]) [0, 1, 2, 3, 4, 5, 10, 6, 7, 8, 9] rfl
        have hD9 := hD.sub (ws' := [(o, .inr (11, [.ref aw, .ref (ab 0), .ref ai, .ref ak, .ref sc, .ref rd, .ref fo, .ref tx, .int ty, .ref ar, .ref at_, .ref ao])), (aw, .inl (cw, 6, .inr (.inr (.inr (.inr (tz_w w0 w1 w2 w3 w4 w5)))))), (w0, .inr (4, [])), (w1, .inr (1, [])), (w2, .inr (10, [])), (w3, .inr (3, [])), (w4, .inr (9, [])), (w5, .inr (8, [])), (sc, .inr (7, [.ref sw, .ref sh])), (sw, .inl (csw, 21, .inr (.inl gw_25))), (sh, .inl (csh, 21, .inl gh_26))]) [0, 1, 2, 3, 4, 5, 10, 6, 7, 8, 9] (by decide) rfl
        have hK9 := hK.sub (tys' := [(cw, (.object "ThriceCounted$Ones")), (csw, .long), (csh, .int)]) [0, 1, 2] rfl
        exact W.vret hx hb hr (fun t ht hW => ⟨⟨(), rfl, trivial, gw_25, gh_26, by rw [ht]; exact hP9, va_K.moved hW.alike hK9, hD9⟩, hS.F ht⟩) hS.2.2 dX11_weighMore_23
      · refine va_aldq hx hb hK hP 1 0 rfl rfl (show ¬ ((5 : Int32) < 0 ∨ 6 ≤ (5 : Int32).toNatClampNeg) by decide) dX11_weighMore_17 ?_
        refine tz_v (.ref w5) rfl ?_
        refine lv_iload_n hx hb dX11_weighMore_18 rfl (lv_at hl 2 rfl) ?_
        refine lv_iload_n hx hb dX11_weighMore_19 rfl (lv_at hl 3 rfl) ?_
        have hPc := hP.sub (ws' := [(sc, .inr (7, [.ref sw, .ref sh])), (sw, .inl (csw, 21, .inr (.inl fw))), (sh, .inl (csh, 21, .inl fh)), (w5, .inr (8, []))]) [8, 9, 10, 7] rfl
        have hDc := hD.sub (ws' := [(sc, .inr (7, [.ref sw, .ref sh])), (sw, .inl (csw, 21, .inr (.inl fw))), (sh, .inl (csh, 21, .inl fh)), (w5, .inr (8, []))]) [8, 9, 10, 7] (by decide) rfl
        have hKc := hK.sub (tys' := [(csw, .long), (csh, .int)]) [1, 2] rfl
        have hFc := va_free (wc := [(sc, .inr (7, [.ref sw, .ref sh])), (sw, .inl (csw, 21, .inr (.inl fw))), (sh, .inl (csh, 21, .inl fh)), (w5, .inr (8, []))]) hD hS hA [8, 9, 10, 7] rfl
        refine va_callv (va_runV (As := [.ref w5, .int nb, .int nc]) (rest := []) ⟨hx, hb, hml, hown, hts⟩ (s_add_X8 l dC dI sc sw sh csw fw csh fh w5 nb nc s.heap.size) (cwV 3 hts gX11_weighMore_X7_addCounts rfl rfl rfl (by decide +kernel) ⟨Nat.le_of_ble_eq_true rfl, Nat.le_of_ble_eq_true rfl⟩) ⟨fun a U g mk q => by obtain ⟨q0, q1, qP, qK, qD⟩ := q; exact ⟨q0, q1, qP, va_K.moved (u := U) (U := U.calling g mk a) (Vm.Alike.refl U.vm) qK, qD⟩, va_recv hK hP (ci := 7) (q0 := 8) rfl rfl, fun U hU hW => ⟨rfl, by rw [hU], by rw [hU]; exact hPc, va_K.moved hW.alike hKc, hDc.weaken (fun _ _ _ _ => trivial)⟩⟩ rfl rfl hl.1 rfl (lv_room (Nat.le_of_ble_eq_true rfl)) dX11_weighMore_20 ⟨Nat.le_of_ble_eq_true rfl, Nat.le_of_ble_eq_true rfl⟩) hS (fun q _ h => hFc q h) hFc (fun u_ t H1 locs ht hvm hw_28 hB hz1 hk1 hS => ?_)
        obtain ⟨gw_29, gh_30, hP1, hK1, hD1⟩ := hB
        rw [ht] at hP1
        have hK1 := va_K.moved hvm.symm hK1
        obtain ⟨hP, hD⟩ := va_join (wr := [(o, .inr (11, [.ref aw, .ref (ab 0), .ref ai, .ref ak, .ref sc, .ref rd, .ref fo, .ref tx, .int ty, .ref ar, .ref at_, .ref ao])), (aw, .inl (cw, 6, .inr (.inr (.inr (.inr (tz_w w0 w1 w2 w3 w4 w5)))))), (w0, .inr (4, [])), (w1, .inr (1, [])), (w2, .inr (10, [])), (w3, .inr (3, [])), (w4, .inr (9, []))]) (w1 := [(sc, .inr (7, [.ref sw, .ref sh])), (sw, .inl (csw, 21, .inr (.inl gw_29))), (sh, .inl (csh, 21, .inl gh_30)), (w5, .inr (8, []))]) hP hD [8, 9, 10, 7] [0, 1, 2, 3, 4, 5, 6] rfl rfl (by decide) (by decide) hk1 hFc hP1 hD1
        generalize H1 = H at hP hS ⊢
        have hP : va_P (dC, dI) vwCl [(o, .inr (11, [.ref aw, .ref (ab 0), .ref ai, .ref ak, .ref sc, .ref rd, .ref fo, .ref tx, .int ty, .ref ar, .ref at_, .ref ao])), (aw, .inl (cw, 6, .inr (.inr (.inr (.inr (tz_w w0 w1 w2 w3 w4 w5)))))), (w0, .inr (4, [])), (w1, .inr (1, [])), (w2, .inr (10, [])), (w3, .inr (3, [])), (w4, .inr (9, [])), (sc, .inr (7, [.ref sw, .ref sh])), (sw, .inl (csw, 21, .inr (.inl gw_29))), (sh, .inl (csh, 21, .inl gh_30)), (w5, .inr (8, []))] H := hP
        have hD : va_D A [(o, .inr (11, [.ref aw, .ref (ab 0), .ref ai, .ref ak, .ref sc, .ref rd, .ref fo, .ref tx, .int ty, .ref ar, .ref at_, .ref ao])), (aw, .inl (cw, 6, .inr (.inr (.inr (.inr (tz_w w0 w1 w2 w3 w4 w5)))))), (w0, .inr (4, [])), (w1, .inr (1, [])), (w2, .inr (10, [])), (w3, .inr (3, [])), (w4, .inr (9, [])), (sc, .inr (7, [.ref sw, .ref sh])), (sw, .inl (csw, 21, .inr (.inl gw_29))), (sh, .inl (csh, 21, .inl gh_30)), (w5, .inr (8, []))] := hD
        have hP9 := hP.sub (ws' := [(o, .inr (11, [.ref aw, .ref (ab 0), .ref ai, .ref ak, .ref sc, .ref rd, .ref fo, .ref tx, .int ty, .ref ar, .ref at_, .ref ao])), (aw, .inl (cw, 6, .inr (.inr (.inr (.inr (tz_w w0 w1 w2 w3 w4 w5)))))), (w0, .inr (4, [])), (w1, .inr (1, [])), (w2, .inr (10, [])), (w3, .inr (3, [])), (w4, .inr (9, [])), (w5, .inr (8, [])), (sc, .inr (7, [.ref sw, .ref sh])), (sw, .inl (csw, 21, .inr (.inl gw_29))), (sh, .inl (csh, 21, .inl gh_30))]) [0, 1, 2, 3, 4, 5, 6, 10, 7, 8, 9] rfl
        have hD9 := hD.sub (ws' := [(o, .inr (11, [.ref aw, .ref (ab 0), .ref ai, .ref ak, .ref sc, .ref rd, .ref fo, .ref tx, .int ty, .ref ar, .ref at_, .ref ao])), (aw, .inl (cw, 6, .inr (.inr (.inr (.inr (tz_w w0 w1 w2 w3 w4 w5)))))), (w0, .inr (4, [])), (w1, .inr (1, [])), (w2, .inr (10, [])), (w3, .inr (3, [])), (w4, .inr (9, [])), (w5, .inr (8, [])), (sc, .inr (7, [.ref sw, .ref sh])), (sw, .inl (csw, 21, .inr (.inl gw_29))), (sh, .inl (csh, 21, .inl gh_30))]) [0, 1, 2, 3, 4, 5, 6, 10, 7, 8, 9] (by decide) rfl
        have hK9 := hK.sub (tys' := [(cw, (.object "ThriceCounted$Ones")), (csw, .long), (csh, .int)]) [0, 1, 2] rfl
        exact W.vret hx hb hr (fun t ht hW => ⟨⟨(), rfl, trivial, gw_29, gh_30, by rw [ht]; exact hP9, va_K.moved hW.alike hK9, hD9⟩, hS.F ht⟩) hS.2.2 dX11_weighMore_23
  · obtain rfl : 0 = r_3 := (hw_4.trans (if_neg hc_5)).symm
    refine lv_if_eq (tgt := 23) hx hb dX11_weighMore_5 (by decide) (fun c_31 => ?_) (fun c_31 => ?_)
    · have hP9 := hP.sub (ws' := [(o, .inr (11, [.ref aw, .ref (ab 0), .ref ai, .ref ak, .ref sc, .ref rd, .ref fo, .ref tx, .int ty, .ref ar, .ref at_, .ref ao])), (aw, .inl (cw, 6, .inr (.inr (.inr (.inr (tz_w w0 w1 w2 w3 w4 w5)))))), (w0, .inr (4, [])), (w1, .inr (1, [])), (w2, .inr (10, [])), (w3, .inr (3, [])), (w4, .inr (9, [])), (w5, .inr (8, [])), (sc, .inr (7, [.ref sw, .ref sh])), (sw, .inl (csw, 21, .inr (.inl fw))), (sh, .inl (csh, 21, .inl fh))]) [0, 1, 2, 3, 4, 5, 6, 7, 8, 9, 10] rfl
      have hD9 := hD.sub (ws' := [(o, .inr (11, [.ref aw, .ref (ab 0), .ref ai, .ref ak, .ref sc, .ref rd, .ref fo, .ref tx, .int ty, .ref ar, .ref at_, .ref ao])), (aw, .inl (cw, 6, .inr (.inr (.inr (.inr (tz_w w0 w1 w2 w3 w4 w5)))))), (w0, .inr (4, [])), (w1, .inr (1, [])), (w2, .inr (10, [])), (w3, .inr (3, [])), (w4, .inr (9, [])), (w5, .inr (8, [])), (sc, .inr (7, [.ref sw, .ref sh])), (sw, .inl (csw, 21, .inr (.inl fw))), (sh, .inl (csh, 21, .inl fh))]) [0, 1, 2, 3, 4, 5, 6, 7, 8, 9, 10] (by decide) rfl
      have hK9 := hK.sub (tys' := [(cw, (.object "ThriceCounted$Ones")), (csw, .long), (csh, .int)]) [0, 1, 2] rfl
      exact W.vret hx hb hr (fun t ht hW => ⟨⟨(), rfl, trivial, fw, fh, by rw [ht]; exact hP9, va_K.moved hW.alike hK9, hD9⟩, hS.F ht⟩) hS.2.2 dX11_weighMore_23
    · exact absurd c_31 (by decide)
set_option maxRecDepth 20000 in
theorem ggX11_weighPlan_X7_weigh : GoodIn wsX11_weighPlan wsX7_weigh := goodIn_r _ [8, 9, 10, 11, 12, 7, 13, 14, 15, 16, 17, 18, 19, 20, 21, 22, 23, 24, 25, 26, 27, 28, 29, 30, 31, 32, 33, 34, 35, 36, 37, 38, 39, 40, 41, 42, 43, 44, 45, 46, 47, 48, 49, 50, 51, 52, 53, 54, 55, 56, 57, 58, 59, 60, 61, 62, 63, 64, 65, 66, 67, 68, 69, 70, 71, 72, 73, 74, 97, 98, 99, 100, 101, 102, 103, 104, 105, 106, 107, 108] (by decide +kernel) (by decide +kernel)
set_option maxRecDepth 20000 in
theorem gX11_weighPlan_X7_weigh : GoodIn wsX11_weighPlan (wsV RX11 187 RX7 yX7_weigh wsX7_weigh) := goodIn_app (goodIn_of _ (by decide +kernel)) ggX11_weighPlan_X7_weigh
set_option maxRecDepth 20000 in
theorem ggX11_weighPlan_X11_weighMore : GoodIn wsX11_weighPlan wsX11_weighMore := goodIn_r _ [79, 1, 3, 80, 81, 82, 78, 83, 84, 33, 34, 7, 35, 36, 9, 37, 38, 39, 40, 41, 42, 43, 44, 45, 46, 47, 48, 49, 50, 51, 52, 53, 54, 55, 56, 57, 58, 59, 60, 61, 62, 63, 64, 65, 66, 67, 68, 69, 70, 71, 72, 73, 74, 85, 86, 87, 88, 89, 90, 91, 92, 93, 94, 95, 96, 97, 98] (by decide +kernel) (by decide +kernel)
set_option maxRecDepth 20000 in
theorem gX11_weighPlan_X11_weighMore : GoodIn wsX11_weighPlan (wsV RX11 213 RX11 yX11_weighMore wsX11_weighMore) := goodIn_app (goodIn_of _ (by decide +kernel)) ggX11_weighPlan_X11_weighMore
theorem dX11_weighPlan_0 : decode cX11_weighPlan 0 = .ok (.aload_n 0, 1) := by decide +kernel
theorem dX11_weighPlan_1 : decode cX11_weighPlan 1 = .ok (.getfield 49, 3) := by decide +kernel
theorem dX11_weighPlan_4 : decode cX11_weighPlan 4 = .ok (.aload_n 0, 1) := by decide +kernel
theorem dX11_weighPlan_5 : decode cX11_weighPlan 5 = .ok (.getfield 34, 3) := by decide +kernel
theorem dX11_weighPlan_8 : decode cX11_weighPlan 8 = .ok (.iload_n 1, 1) := by decide +kernel
theorem dX11_weighPlan_9 : decode cX11_weighPlan 9 = .ok (.aload_n 0, 1) := by decide +kernel
theorem dX11_weighPlan_10 : decode cX11_weighPlan 10 = .ok (.getfield 25, 3) := by decide +kernel
theorem dX11_weighPlan_13 : decode cX11_weighPlan 13 = .ok (.invokevirtual 187, 3) := by decide +kernel
theorem dX11_weighPlan_16 : decode cX11_weighPlan 16 = .ok (.aload_n 0, 1) := by decide +kernel
theorem dX11_weighPlan_17 : decode cX11_weighPlan 17 = .ok (.iconst 0, 1) := by decide +kernel
theorem dX11_weighPlan_18 : decode cX11_weighPlan 18 = .ok (.iload_n 2, 1) := by decide +kernel
theorem dX11_weighPlan_19 : decode cX11_weighPlan 19 = .ok (.iload_n 3, 1) := by decide +kernel
theorem dX11_weighPlan_20 : decode cX11_weighPlan 20 = .ok (.bipush 100, 2) := by decide +kernel
theorem dX11_weighPlan_22 : decode cX11_weighPlan 22 = .ok (.idiv, 1) := by decide +kernel
theorem dX11_weighPlan_23 : decode cX11_weighPlan 23 = .ok (.invokevirtual 213, 3) := by decide +kernel
theorem dX11_weighPlan_26 : decode cX11_weighPlan 26 = .ok (.aload_n 0, 1) := by decide +kernel
theorem dX11_weighPlan_27 : decode cX11_weighPlan 27 = .ok (.iconst 1, 1) := by decide +kernel
theorem dX11_weighPlan_28 : decode cX11_weighPlan 28 = .ok (.iload_n 2, 1) := by decide +kernel
theorem dX11_weighPlan_29 : decode cX11_weighPlan 29 = .ok (.iload_n 3, 1) := by decide +kernel
theorem dX11_weighPlan_30 : decode cX11_weighPlan 30 = .ok (.bipush 10, 2) := by decide +kernel
theorem dX11_weighPlan_32 : decode cX11_weighPlan 32 = .ok (.idiv, 1) := by decide +kernel
theorem dX11_weighPlan_33 : decode cX11_weighPlan 33 = .ok (.bipush 10, 2) := by decide +kernel
theorem dX11_weighPlan_35 : decode cX11_weighPlan 35 = .ok (.irem, 1) := by decide +kernel
theorem dX11_weighPlan_36 : decode cX11_weighPlan 36 = .ok (.invokevirtual 213, 3) := by decide +kernel
theorem dX11_weighPlan_39 : decode cX11_weighPlan 39 = .ok (.aload_n 0, 1) := by decide +kernel
theorem dX11_weighPlan_40 : decode cX11_weighPlan 40 = .ok (.iconst 2, 1) := by decide +kernel
theorem dX11_weighPlan_41 : decode cX11_weighPlan 41 = .ok (.iload_n 2, 1) := by decide +kernel
theorem dX11_weighPlan_42 : decode cX11_weighPlan 42 = .ok (.iload_n 3, 1) := by decide +kernel
theorem dX11_weighPlan_43 : decode cX11_weighPlan 43 = .ok (.bipush 10, 2) := by decide +kernel
theorem dX11_weighPlan_45 : decode cX11_weighPlan 45 = .ok (.irem, 1) := by decide +kernel
theorem dX11_weighPlan_46 : decode cX11_weighPlan 46 = .ok (.invokevirtual 213, 3) := by decide +kernel
theorem dX11_weighPlan_49 : decode cX11_weighPlan 49 = .ok (.return_, 1) := by decide +kernel
set_option maxRecDepth 20000 in
theorem iw_x_weighPlan_X11 : ∀ w ∈ wsX110, w ∈ wsX11_weighPlan := by decide +kernel
set_option maxHeartbeats 4000000 in
set_option maxRecDepth 100000 in
theorem x_weighPlan (l : Launch) (dC : Nat → ClassId) (dI : Nat → Nat → Nat) (o : Nat) (aw : Nat) (ab : Nat → Nat) (ai : Nat) (ak : Nat) (sc : Nat) (rd : Nat) (fo : Nat) (tx : Nat) (ty : Int32) (ar : Nat) (at_ : Nat) (ao : Nat) (cw : ClassId) (w0 : Nat) (w1 : Nat) (w2 : Nat) (w3 : Nat) (w4 : Nat) (w5 : Nat) (sw : Nat) (sh : Nat) (csw : ClassId) (fw : Nat → Int64) (csh : ClassId) (fh : Nat → Int32) (ub : Nat) (zb : Nat → Nat) (cb : Nat → ClassId) (fb : Nat → Nat → Int32) (na : Int32) (nb : Int32) (nc : Int32) (sz : Nat) (hB : (∀ i, zb i ≤ tz_lim i) ∧ ub ≤ 8) : Met l yX11_weighPlan wsX11_weighPlan ({ frames := 5, cells := 0, slots := 0, locals := 113 }) (va_Pc [.ref o, .int na, .int nb, .int nc] (fun U => U.heap.size = sz ∧ va_P (dC, dI) vwCl [(o, .inr (11, [.ref aw, .ref (ab 0), .ref ai, .ref ak, .ref sc, .ref rd, .ref fo, .ref tx, .int ty, .ref ar, .ref at_, .ref ao])), (aw, .inl (cw, 6, .inr (.inr (.inr (.inr (tz_w w0 w1 w2 w3 w4 w5)))))), (w0, .inr (4, [])), (w1, .inr (1, [])), (w2, .inr (10, [])), (w3, .inr (3, [])), (w4, .inr (9, [])), (w5, .inr (8, [])), (sc, .inr (7, [.ref sw, .ref sh])), (sw, .inl (csw, 21, .inr (.inl fw))), (sh, .inl (csh, 21, .inl fh)), ((ab 0), .inr (0, [.ref (ab 1), .ref (ab 3), .ref (ab 5), .ref (ab 7), .ref (ab 9), .int (nI ub)])), ((ab 1), .inr (6, [.int 1, .int 5, .ref (ab 2), .int (nI (zb 0))])), ((ab 2), .inl ((cb 0), 5, .inl (fb 0))), ((ab 3), .inr (6, [.int 4, .int 5, .ref (ab 4), .int (nI (zb 1))])), ((ab 4), .inl ((cb 1), 20, .inl (fb 1))), ((ab 5), .inr (6, [.int 4, .int 8, .ref (ab 6), .int (nI (zb 2))])), ((ab 6), .inl ((cb 2), 32, .inl (fb 2)))] U.heap ∧ va_K (dC, dI) vwCl [(cw, (.object "ThriceCounted$Ones")), (csw, .long), (csh, .int), ((cb 0), .int), ((cb 1), .int), ((cb 2), .int)] U ∧ va_D (fun _ => True) [(o, .inr (11, [.ref aw, .ref (ab 0), .ref ai, .ref ak, .ref sc, .ref rd, .ref fo, .ref tx, .int ty, .ref ar, .ref at_, .ref ao])), (aw, .inl (cw, 6, .inr (.inr (.inr (.inr (tz_w w0 w1 w2 w3 w4 w5)))))), (w0, .inr (4, [])), (w1, .inr (1, [])), (w2, .inr (10, [])), (w3, .inr (3, [])), (w4, .inr (9, [])), (w5, .inr (8, [])), (sc, .inr (7, [.ref sw, .ref sh])), (sw, .inl (csw, 21, .inr (.inl fw))), (sh, .inl (csh, 21, .inl fh)), ((ab 0), .inr (0, [.ref (ab 1), .ref (ab 3), .ref (ab 5), .ref (ab 7), .ref (ab 9), .int (nI ub)])), ((ab 1), .inr (6, [.int 1, .int 5, .ref (ab 2), .int (nI (zb 0))])), ((ab 2), .inl ((cb 0), 5, .inl (fb 0))), ((ab 3), .inr (6, [.int 4, .int 5, .ref (ab 4), .int (nI (zb 1))])), ((ab 4), .inl ((cb 1), 20, .inl (fb 1))), ((ab 5), .inr (6, [.int 4, .int 8, .ref (ab 6), .int (nI (zb 2))])), ((ab 6), .inl ((cb 2), 32, .inl (fb 2)))])) (va_Qv (fun (_ : Unit) => True) (fun _ t => ∃ (gw : Nat → Int64) (gh : Nat → Int32), va_P (dC, dI) vwCl [(o, .inr (11, [.ref aw, .ref (ab 0), .ref ai, .ref ak, .ref sc, .ref rd, .ref fo, .ref tx, .int ty, .ref ar, .ref at_, .ref ao])), (aw, .inl (cw, 6, .inr (.inr (.inr (.inr (tz_w w0 w1 w2 w3 w4 w5)))))), (w0, .inr (4, [])), (w1, .inr (1, [])), (w2, .inr (10, [])), (w3, .inr (3, [])), (w4, .inr (9, [])), (w5, .inr (8, [])), (sc, .inr (7, [.ref sw, .ref sh])), (sw, .inl (csw, 21, .inr (.inl gw))), (sh, .inl (csh, 21, .inl gh)), ((ab 0), .inr (0, [.ref (ab 1), .ref (ab 3), .ref (ab 5), .ref (ab 7), .ref (ab 9), .int (nI ub)])), ((ab 1), .inr (6, [.int 1, .int 5, .ref (ab 2), .int (nI (zb 0))])), ((ab 2), .inl ((cb 0), 5, .inl (fb 0))), ((ab 3), .inr (6, [.int 4, .int 5, .ref (ab 4), .int (nI (zb 1))])), ((ab 4), .inl ((cb 1), 20, .inl (fb 1))), ((ab 5), .inr (6, [.int 4, .int 8, .ref (ab 6), .int (nI (zb 2))])), ((ab 6), .inl ((cb 2), 32, .inl (fb 2)))] t.heap ∧ va_K (dC, dI) vwCl [(cw, (.object "ThriceCounted$Ones")), (csw, .long), (csh, .int), ((cb 0), .int), ((cb 1), .int), ((cb 2), .int)] t ∧ va_D (va_A [(o, .inr (11, [.ref aw, .ref (ab 0), .ref ai, .ref ak, .ref sc, .ref rd, .ref fo, .ref tx, .int ty, .ref ar, .ref at_, .ref ao])), (aw, .inl (cw, 6, .inr (.inr (.inr (.inr (tz_w w0 w1 w2 w3 w4 w5)))))), (w0, .inr (4, [])), (w1, .inr (1, [])), (w2, .inr (10, [])), (w3, .inr (3, [])), (w4, .inr (9, [])), (w5, .inr (8, [])), (sc, .inr (7, [.ref sw, .ref sh])), (sw, .inl (csw, 21, .inr (.inl fw))), (sh, .inl (csh, 21, .inl fh)), ((ab 0), .inr (0, [.ref (ab 1), .ref (ab 3), .ref (ab 5), .ref (ab 7), .ref (ab 9), .int (nI ub)])), ((ab 1), .inr (6, [.int 1, .int 5, .ref (ab 2), .int (nI (zb 0))])), ((ab 2), .inl ((cb 0), 5, .inl (fb 0))), ((ab 3), .inr (6, [.int 4, .int 5, .ref (ab 4), .int (nI (zb 1))])), ((ab 4), .inl ((cb 1), 20, .inl (fb 1))), ((ab 5), .inr (6, [.int 4, .int 8, .ref (ab 6), .int (nI (zb 2))])), ((ab 6), .inl ((cb 2), 32, .inl (fb 2)))] sz) [(o, .inr (11, [.ref aw, .ref (ab 0), .ref ai, .ref ak, .ref sc, .ref rd, .ref fo, .ref tx, .int ty, .ref ar, .ref at_, .ref ao])), (aw, .inl (cw, 6, .inr (.inr (.inr (.inr (tz_w w0 w1 w2 w3 w4 w5)))))), (w0, .inr (4, [])), (w1, .inr (1, [])), (w2, .inr (10, [])), (w3, .inr (3, [])), (w4, .inr (9, [])), (w5, .inr (8, [])), (sc, .inr (7, [.ref sw, .ref sh])), (sw, .inl (csw, 21, .inr (.inl gw))), (sh, .inl (csh, 21, .inl gh)), ((ab 0), .inr (0, [.ref (ab 1), .ref (ab 3), .ref (ab 5), .ref (ab 7), .ref (ab 9), .int (nI ub)])), ((ab 1), .inr (6, [.int 1, .int 5, .ref (ab 2), .int (nI (zb 0))])), ((ab 2), .inl ((cb 0), 5, .inl (fb 0))), ((ab 3), .inr (6, [.int 4, .int 5, .ref (ab 4), .int (nI (zb 1))])), ((ab 4), .inl ((cb 1), 20, .inl (fb 1))), ((ab 5), .inr (6, [.int 4, .int 8, .ref (ab 6), .int (nI (zb 2))])), ((ab 6), .inl ((cb 2), 32, .inl (fb 2)))]) (va_A [(o, .inr (11, [.ref aw, .ref (ab 0), .ref ai, .ref ak, .ref sc, .ref rd, .ref fo, .ref tx, .int ty, .ref ar, .ref at_, .ref ao])), (aw, .inl (cw, 6, .inr (.inr (.inr (.inr (tz_w w0 w1 w2 w3 w4 w5)))))), (w0, .inr (4, [])), (w1, .inr (1, [])), (w2, .inr (10, [])), (w3, .inr (3, [])), (w4, .inr (9, [])), (w5, .inr (8, [])), (sc, .inr (7, [.ref sw, .ref sh])), (sw, .inl (csw, 21, .inr (.inl fw))), (sh, .inl (csh, 21, .inl fh)), ((ab 0), .inr (0, [.ref (ab 1), .ref (ab 3), .ref (ab 5), .ref (ab 7), .ref (ab 9), .int (nI ub)])), ((ab 1), .inr (6, [.int 1, .int 5, .ref (ab 2), .int (nI (zb 0))])), ((ab 2), .inl ((cb 0), 5, .inl (fb 0))), ((ab 3), .inr (6, [.int 4, .int 5, .ref (ab 4), .int (nI (zb 1))])), ((ab 4), .inl ((cb 1), 20, .inl (fb 1))), ((ab 5), .inr (6, [.int 4, .int 8, .ref (ab 6), .int (nI (zb 2))])), ((ab 6), .inl ((cb 2), 32, .inl (fb 2)))] sz)) 0 0 (va_A [(o, .inr (11, [.ref aw, .ref (ab 0), .ref ai, .ref ak, .ref sc, .ref rd, .ref fo, .ref tx, .int ty, .ref ar, .ref at_, .ref ao])), (aw, .inl (cw, 6, .inr (.inr (.inr (.inr (tz_w w0 w1 w2 w3 w4 w5)))))), (w0, .inr (4, [])), (w1, .inr (1, [])), (w2, .inr (10, [])), (w3, .inr (3, [])), (w4, .inr (9, [])), (w5, .inr (8, [])), (sc, .inr (7, [.ref sw, .ref sh])), (sw, .inl (csw, 21, .inr (.inl fw))), (sh, .inl (csh, 21, .inl fh)), ((ab 0), .inr (0, [.ref (ab 1), .ref (ab 3), .ref (ab 5), .ref (ab 7), .ref (ab 9), .int (nI ub)])), ((ab 1), .inr (6, [.int 1, .int 5, .ref (ab 2), .int (nI (zb 0))])), ((ab 2), .inl ((cb 0), 5, .inl (fb 0))), ((ab 3), .inr (6, [.int 4, .int 5, .ref (ab 4), .int (nI (zb 1))])), ((ab 4), .inl ((cb 1), 20, .inl (fb 1))), ((ab 5), .inr (6, [.int 4, .int 8, .ref (ab 6), .int (nI (zb 2))])), ((ab 6), .inl ((cb 2), 32, .inl (fb 2)))] sz) := by
  refine Met.ofW (cc := cX11_weighPlan) (maxL := 4) (ret := none) (by decide) rfl ?_
  intro p e s m args below meth c s₁ B hml hv
  obtain ⟨rfl, hsz, hP, hK, hD0⟩ := hv
  have hx := B.exec
  have hb := B.bytes
  have hr := B.returns
  have hts := atoms_spec (ws := wsX11_weighPlan) B.pre
  have hown : s.vm.findClass RX11 = some m.cls := findClass_of_methodNamed B.named
  have hlocks := B.notSynchronized
  subst hsz
  have hD := hD0.self (sz := s.heap.size)
  generalize hAe : va_A [(o, .inr (11, [.ref aw, .ref (ab 0), .ref ai, .ref ak, .ref sc, .ref rd, .ref fo, .ref tx, .int ty, .ref ar, .ref at_, .ref ao])), (aw, .inl (cw, 6, .inr (.inr (.inr (.inr (tz_w w0 w1 w2 w3 w4 w5)))))), (w0, .inr (4, [])), (w1, .inr (1, [])), (w2, .inr (10, [])), (w3, .inr (3, [])), (w4, .inr (9, [])), (w5, .inr (8, [])), (sc, .inr (7, [.ref sw, .ref sh])), (sw, .inl (csw, 21, .inr (.inl fw))), (sh, .inl (csh, 21, .inl fh)), ((ab 0), .inr (0, [.ref (ab 1), .ref (ab 3), .ref (ab 5), .ref (ab 7), .ref (ab 9), .int (nI ub)])), ((ab 1), .inr (6, [.int 1, .int 5, .ref (ab 2), .int (nI (zb 0))])), ((ab 2), .inl ((cb 0), 5, .inl (fb 0))), ((ab 3), .inr (6, [.int 4, .int 5, .ref (ab 4), .int (nI (zb 1))])), ((ab 4), .inl ((cb 1), 20, .inl (fb 1))), ((ab 5), .inr (6, [.int 4, .int 8, .ref (ab 6), .int (nI (zb 2))])), ((ab 6), .inl ((cb 2), 32, .inl (fb 2)))] s.heap.size = A at hD ⊢
  have hA : ∀ q : Nat, s.heap.size ≤ q → A q := fun q h => by rw [← hAe]; exact Or.inr h
  have hS : va_S A s.heap s.heap [] := va_S.rf
  have hP : va_P (dC, dI) vwCl [(o, .inr (11, [.ref aw, .ref (ab 0), .ref ai, .ref ak, .ref sc, .ref rd, .ref fo, .ref tx, .int ty, .ref ar, .ref at_, .ref ao])), (aw, .inl (cw, 6, .inr (.inr (.inr (.inr (tz_w w0 w1 w2 w3 w4 w5)))))), (w0, .inr (4, [])), (w1, .inr (1, [])), (w2, .inr (10, [])), (w3, .inr (3, [])), (w4, .inr (9, [])), (w5, .inr (8, [])), (sc, .inr (7, [.ref sw, .ref sh])), (sw, .inl (csw, 21, .inr (.inl fw))), (sh, .inl (csh, 21, .inl fh)), ((ab 0), .inr (0, [.ref (ab 1), .ref (ab 3), .ref (ab 5), .ref (ab 7), .ref (ab 9), .int (nI ub)])), ((ab 1), .inr (6, [.int 1, .int 5, .ref (ab 2), .int (nI (zb 0))])), ((ab 2), .inl ((cb 0), 5, .inl (fb 0))), ((ab 3), .inr (6, [.int 4, .int 5, .ref (ab 4), .int (nI (zb 1))])), ((ab 4), .inl ((cb 1), 20, .inl (fb 1))), ((ab 5), .inr (6, [.int 4, .int 8, .ref (ab 6), .int (nI (zb 2))])), ((ab 6), .inl ((cb 2), 32, .inl (fb 2)))] s.heap := hP
  have hl := lv_entry ([.ref o, .int na, .int nb, .int nc]) (n := 4) (Nat.le_of_ble_eq_true rfl)
  rw [lg_entry_eq]
  generalize (lg_sl ([.ref o, .int na, .int nb, .int nc]) ++ List.replicate (4 - (lg_sl ([.ref o, .int na, .int nb, .int nc])).length) Slot.unset).toArray = ls at hl ⊢
  have hl : lv_has ls 4 [(0, .ref o), (1, .int na), (2, .int nb), (3, .int nc)] := hl
  have hz_zb_0 : zb 0 ≤ 5 := hB.1 0
  have hz_zb_1 : zb 1 ≤ 5 := hB.1 1
  have hz_zb_2 : zb 2 ≤ 8 := hB.1 2
  have hz_zb_3 : zb 3 ≤ 6 := hB.1 3
  have hz_zb_4 : zb 4 ≤ 8 := hB.1 4
  have hz_zb_5 : zb 5 ≤ 8 := hB.1 5
  have hz_zb_6 : zb 6 ≤ 8 := hB.1 6
  have hz_zb_7 : zb 7 ≤ 8 := hB.1 7
  have hz_zb_8 : zb 8 ≤ 8 := hB.1 8
  have hz_zb_9 : zb 9 ≤ 8 := hB.1 9
  have hz_zb_10 : zb 10 ≤ 8 := hB.1 10
  have hz_zb_11 : zb 11 ≤ 8 := hB.1 11
  have hu_zb := hB.2
  refine lv_aload_n hx hb dX11_weighPlan_0 rfl (lv_at hl 0 rfl) ?_
  refine va_get (D := (dC, dI)) (ci := 11) (v := .ref sc) (C := RX11) (T := TX11) (N := 12) hx hb hts iw_x_weighPlan_X11 hown hK hP 0 rfl rfl 4 (by decide) (hts (.fieldLink RX11 49 "ThriceCounted" "scale" "LThriceCounted$Scale;") (by decide +kernel)) (fun _ h9 => h9) rfl dX11_weighPlan_1 ?_
  refine lv_aload_n hx hb dX11_weighPlan_4 rfl (lv_at hl 0 rfl) ?_
  refine va_get (D := (dC, dI)) (ci := 11) (v := .ref (ab 0)) (C := RX11) (T := TX11) (N := 12) hx hb hts iw_x_weighPlan_X11 hown hK hP 0 rfl rfl 1 (by decide) (hts (.fieldLink RX11 34 "ThriceCounted" "bank" "LThriceCounted$Bank;") (by decide +kernel)) (fun _ h9 => h9) rfl dX11_weighPlan_5 ?_
  refine lv_iload_n hx hb dX11_weighPlan_8 rfl (lv_at hl 1 rfl) ?_
  refine lv_aload_n hx hb dX11_weighPlan_9 rfl (lv_at hl 0 rfl) ?_
  refine va_get (D := (dC, dI)) (ci := 11) (v := .ref aw) (C := RX11) (T := TX11) (N := 12) hx hb hts iw_x_weighPlan_X11 hown hK hP 0 rfl rfl 0 (by decide) (hts (.fieldLink RX11 25 "ThriceCounted" "ways" "[LThriceCounted$Ones;") (by decide +kernel)) (fun _ h9 => h9) rfl dX11_weighPlan_10 ?_
  have hPc := hP.sub (ws' := [(sc, .inr (7, [.ref sw, .ref sh])), (sw, .inl (csw, 21, .inr (.inl fw))), (sh, .inl (csh, 21, .inl fh)), ((ab 0), .inr (0, [.ref (ab 1), .ref (ab 3), .ref (ab 5), .ref (ab 7), .ref (ab 9), .int (nI ub)])), ((ab 1), .inr (6, [.int 1, .int 5, .ref (ab 2), .int (nI (zb 0))])), ((ab 2), .inl ((cb 0), 5, .inl (fb 0))), ((ab 3), .inr (6, [.int 4, .int 5, .ref (ab 4), .int (nI (zb 1))])), ((ab 4), .inl ((cb 1), 20, .inl (fb 1))), ((ab 5), .inr (6, [.int 4, .int 8, .ref (ab 6), .int (nI (zb 2))])), ((ab 6), .inl ((cb 2), 32, .inl (fb 2))), (aw, .inl (cw, 6, .inr (.inr (.inr (.inr (tz_w w0 w1 w2 w3 w4 w5)))))), (w0, .inr (4, [])), (w1, .inr (1, [])), (w2, .inr (10, [])), (w3, .inr (3, [])), (w4, .inr (9, [])), (w5, .inr (8, []))]) [8, 9, 10, 11, 12, 13, 14, 15, 16, 17, 1, 2, 3, 4, 5, 6, 7] rfl
  have hDc := hD.sub (ws' := [(sc, .inr (7, [.ref sw, .ref sh])), (sw, .inl (csw, 21, .inr (.inl fw))), (sh, .inl (csh, 21, .inl fh)), ((ab 0), .inr (0, [.ref (ab 1), .ref (ab 3), .ref (ab 5), .ref (ab 7), .ref (ab 9), .int (nI ub)])), ((ab 1), .inr (6, [.int 1, .int 5, .ref (ab 2), .int (nI (zb 0))])), ((ab 2), .inl ((cb 0), 5, .inl (fb 0))), ((ab 3), .inr (6, [.int 4, .int 5, .ref (ab 4), .int (nI (zb 1))])), ((ab 4), .inl ((cb 1), 20, .inl (fb 1))), ((ab 5), .inr (6, [.int 4, .int 8, .ref (ab 6), .int (nI (zb 2))])), ((ab 6), .inl ((cb 2), 32, .inl (fb 2))), (aw, .inl (cw, 6, .inr (.inr (.inr (.inr (tz_w w0 w1 w2 w3 w4 w5)))))), (w0, .inr (4, [])), (w1, .inr (1, [])), (w2, .inr (10, [])), (w3, .inr (3, [])), (w4, .inr (9, [])), (w5, .inr (8, []))]) [8, 9, 10, 11, 12, 13, 14, 15, 16, 17, 1, 2, 3, 4, 5, 6, 7] (by decide) rfl
  have hKc := hK.sub (tys' := [(csw, .long), (csh, .int), ((cb 0), .int), ((cb 1), .int), ((cb 2), .int), (cw, (.object "ThriceCounted$Ones"))]) [1, 2, 3, 4, 5, 0] rfl
  have hFc := va_free (wc := [(sc, .inr (7, [.ref sw, .ref sh])), (sw, .inl (csw, 21, .inr (.inl fw))), (sh, .inl (csh, 21, .inl fh)), ((ab 0), .inr (0, [.ref (ab 1), .ref (ab 3), .ref (ab 5), .ref (ab 7), .ref (ab 9), .int (nI ub)])), ((ab 1), .inr (6, [.int 1, .int 5, .ref (ab 2), .int (nI (zb 0))])), ((ab 2), .inl ((cb 0), 5, .inl (fb 0))), ((ab 3), .inr (6, [.int 4, .int 5, .ref (ab 4), .int (nI (zb 1))])), ((ab 4), .inl ((cb 1), 20, .inl (fb 1))), ((ab 5), .inr (6, [.int 4, .int 8, .ref (ab 6), .int (nI (zb 2))])), ((ab 6), .inl ((cb 2), 32, .inl (fb 2))), (aw, .inl (cw, 6, .inr (.inr (.inr (.inr (tz_w w0 w1 w2 w3 w4 w5)))))), (w0, .inr (4, [])), (w1, .inr (1, [])), (w2, .inr (10, [])), (w3, .inr (3, [])), (w4, .inr (9, [])), (w5, .inr (8, []))]) hD hS hA [8, 9, 10, 11, 12, 13, 14, 15, 16, 17, 1, 2, 3, 4, 5, 6, 7] rfl
  refine va_callv (va_runV (As := [.ref (ab 0), .int na, .ref aw]) (rest := []) ⟨hx, hb, hml, hown, hts⟩ (s_weigh l dC dI sc sw sh csw fw csh fh ab ub zb cb fb aw cw w0 w1 w2 w3 w4 w5 na s.heap.size ⟨hB.1, show ub ≤ 8 by omega⟩) (cwV 3 hts gX11_weighPlan_X7_weigh rfl rfl rfl (by decide +kernel) ⟨Nat.le_of_ble_eq_true rfl, Nat.le_of_ble_eq_true rfl⟩) ⟨fun a U g mk q => by obtain ⟨q0, q1, qP, qK, qD⟩ := q; exact ⟨q0, q1, qP, va_K.moved (u := U) (U := U.calling g mk a) (Vm.Alike.refl U.vm) qK, qD⟩, va_recv hK hP (ci := 7) (q0 := 8) rfl rfl, fun U hU hW => ⟨rfl, by rw [hU], by rw [hU]; exact hPc, va_K.moved hW.alike hKc, hDc.weaken (fun _ _ _ _ => trivial)⟩⟩ rfl rfl hl.1 rfl (lv_room (Nat.le_of_ble_eq_true rfl)) dX11_weighPlan_13 ⟨Nat.le_of_ble_eq_true rfl, Nat.le_of_ble_eq_true rfl⟩) hS (fun q _ h => hFc q h) hFc (fun u_ t H1 locs ht hvm hw_2 hB hz1 hk1 hS => ?_)
  obtain ⟨gw_3, gh_4, hP1, hK1, hD1⟩ := hB
  rw [ht] at hP1
  have hK1 := va_K.moved hvm.symm hK1
  obtain ⟨hP, hD⟩ := va_join (wr := [(o, .inr (11, [.ref aw, .ref (ab 0), .ref ai, .ref ak, .ref sc, .ref rd, .ref fo, .ref tx, .int ty, .ref ar, .ref at_, .ref ao]))]) (w1 := [(sc, .inr (7, [.ref sw, .ref sh])), (sw, .inl (csw, 21, .inr (.inl gw_3))), (sh, .inl (csh, 21, .inl gh_4)), ((ab 0), .inr (0, [.ref (ab 1), .ref (ab 3), .ref (ab 5), .ref (ab 7), .ref (ab 9), .int (nI ub)])), ((ab 1), .inr (6, [.int 1, .int 5, .ref (ab 2), .int (nI (zb 0))])), ((ab 2), .inl ((cb 0), 5, .inl (fb 0))), ((ab 3), .inr (6, [.int 4, .int 5, .ref (ab 4), .int (nI (zb 1))])), ((ab 4), .inl ((cb 1), 20, .inl (fb 1))), ((ab 5), .inr (6, [.int 4, .int 8, .ref (ab 6), .int (nI (zb 2))])), ((ab 6), .inl ((cb 2), 32, .inl (fb 2))), (aw, .inl (cw, 6, .inr (.inr (.inr (.inr (tz_w w0 w1 w2 w3 w4 w5)))))), (w0, .inr (4, [])), (w1, .inr (1, [])), (w2, .inr (10, [])), (w3, .inr (3, [])), (w4, .inr (9, [])), (w5, .inr (8, []))]) hP hD [8, 9, 10, 11, 12, 13, 14, 15, 16, 17, 1, 2, 3, 4, 5, 6, 7] [0] rfl rfl (by decide) (by decide) hk1 hFc hP1 hD1
  generalize H1 = H at hP hS ⊢
  have hP : va_P (dC, dI) vwCl [(o, .inr (11, [.ref aw, .ref (ab 0), .ref ai, .ref ak, .ref sc, .ref rd, .ref fo, .ref tx, .int ty, .ref ar, .ref at_, .ref ao])), (sc, .inr (7, [.ref sw, .ref sh])), (sw, .inl (csw, 21, .inr (.inl gw_3))), (sh, .inl (csh, 21, .inl gh_4)), ((ab 0), .inr (0, [.ref (ab 1), .ref (ab 3), .ref (ab 5), .ref (ab 7), .ref (ab 9), .int (nI ub)])), ((ab 1), .inr (6, [.int 1, .int 5, .ref (ab 2), .int (nI (zb 0))])), ((ab 2), .inl ((cb 0), 5, .inl (fb 0))), ((ab 3), .inr (6, [.int 4, .int 5, .ref (ab 4), .int (nI (zb 1))])), ((ab 4), .inl ((cb 1), 20, .inl (fb 1))), ((ab 5), .inr (6, [.int 4, .int 8, .ref (ab 6), .int (nI (zb 2))])), ((ab 6), .inl ((cb 2), 32, .inl (fb 2))), (aw, .inl (cw, 6, .inr (.inr (.inr (.inr (tz_w w0 w1 w2 w3 w4 w5)))))), (w0, .inr (4, [])), (w1, .inr (1, [])), (w2, .inr (10, [])), (w3, .inr (3, [])), (w4, .inr (9, [])), (w5, .inr (8, []))] H := hP
  have hD : va_D A [(o, .inr (11, [.ref aw, .ref (ab 0), .ref ai, .ref ak, .ref sc, .ref rd, .ref fo, .ref tx, .int ty, .ref ar, .ref at_, .ref ao])), (sc, .inr (7, [.ref sw, .ref sh])), (sw, .inl (csw, 21, .inr (.inl gw_3))), (sh, .inl (csh, 21, .inl gh_4)), ((ab 0), .inr (0, [.ref (ab 1), .ref (ab 3), .ref (ab 5), .ref (ab 7), .ref (ab 9), .int (nI ub)])), ((ab 1), .inr (6, [.int 1, .int 5, .ref (ab 2), .int (nI (zb 0))])), ((ab 2), .inl ((cb 0), 5, .inl (fb 0))), ((ab 3), .inr (6, [.int 4, .int 5, .ref (ab 4), .int (nI (zb 1))])), ((ab 4), .inl ((cb 1), 20, .inl (fb 1))), ((ab 5), .inr (6, [.int 4, .int 8, .ref (ab 6), .int (nI (zb 2))])), ((ab 6), .inl ((cb 2), 32, .inl (fb 2))), (aw, .inl (cw, 6, .inr (.inr (.inr (.inr (tz_w w0 w1 w2 w3 w4 w5)))))), (w0, .inr (4, [])), (w1, .inr (1, [])), (w2, .inr (10, [])), (w3, .inr (3, [])), (w4, .inr (9, [])), (w5, .inr (8, []))] := hD
  refine lv_aload_n hx hb dX11_weighPlan_16 rfl (lv_at hl 0 rfl) ?_
  refine lv_iconst (v := 0) hx hb dX11_weighPlan_17 (by decide) ?_
  refine lv_iload_n hx hb dX11_weighPlan_18 rfl (lv_at hl 2 rfl) ?_
  refine lv_iload_n hx hb dX11_weighPlan_19 rfl (lv_at hl 3 rfl) ?_
  refine lv_bipush (v := 100) hx hb dX11_weighPlan_20 (by decide) ?_
  refine lv_idiv hx hb dX11_weighPlan_22 (by decide) ?_
  refine lv_topi (fun x_5 _ => ?_)
  have hPc := hP.sub (ws' := [(o, .inr (11, [.ref aw, .ref (ab 0), .ref ai, .ref ak, .ref sc, .ref rd, .ref fo, .ref tx, .int ty, .ref ar, .ref at_, .ref ao])), (aw, .inl (cw, 6, .inr (.inr (.inr (.inr (tz_w w0 w1 w2 w3 w4 w5)))))), (w0, .inr (4, [])), (w1, .inr (1, [])), (w2, .inr (10, [])), (w3, .inr (3, [])), (w4, .inr (9, [])), (w5, .inr (8, [])), (sc, .inr (7, [.ref sw, .ref sh])), (sw, .inl (csw, 21, .inr (.inl gw_3))), (sh, .inl (csh, 21, .inl gh_4))]) [0, 11, 12, 13, 14, 15, 16, 17, 1, 2, 3] rfl
  have hDc := hD.sub (ws' := [(o, .inr (11, [.ref aw, .ref (ab 0), .ref ai, .ref ak, .ref sc, .ref rd, .ref fo, .ref tx, .int ty, .ref ar, .ref at_, .ref ao])), (aw, .inl (cw, 6, .inr (.inr (.inr (.inr (tz_w w0 w1 w2 w3 w4 w5)))))), (w0, .inr (4, [])), (w1, .inr (1, [])), (w2, .inr (10, [])), (w3, .inr (3, [])), (w4, .inr (9, [])), (w5, .inr (8, [])), (sc, .inr (7, [.ref sw, .ref sh])), (sw, .inl (csw, 21, .inr (.inl gw_3))), (sh, .inl (csh, 21, .inl gh_4))]) [0, 11, 12, 13, 14, 15, 16, 17, 1, 2, 3] (by decide) rfl
  have hKc := hK.sub (tys' := [(cw, (.object "ThriceCounted$Ones")), (csw, .long), (csh, .int)]) [0, 1, 2] rfl
  have hFc := va_free (wc := [(o, .inr (11, [.ref aw, .ref (ab 0), .ref ai, .ref ak, .ref sc, .ref rd, .ref fo, .ref tx, .int ty, .ref ar, .ref at_, .ref ao])), (aw, .inl (cw, 6, .inr (.inr (.inr (.inr (tz_w w0 w1 w2 w3 w4 w5)))))), (w0, .inr (4, [])), (w1, .inr (1, [])), (w2, .inr (10, [])), (w3, .inr (3, [])), (w4, .inr (9, [])), (w5, .inr (8, [])), (sc, .inr (7, [.ref sw, .ref sh])), (sw, .inl (csw, 21, .inr (.inl gw_3))), (sh, .inl (csh, 21, .inl gh_4))]) hD hS hA [0, 11, 12, 13, 14, 15, 16, 17, 1, 2, 3] rfl
  refine va_callv (va_runV (As := [.int 0, .int nb, .int x_5]) (rest := []) ⟨hx, hb, hml, hown, hts⟩ (x_weighMore l dC dI o aw ab ai ak sc rd fo tx ty ar at_ ao cw w0 w1 w2 w3 w4 w5 sw sh csw gw_3 csh gh_4 0 nb x_5 H.size) (cwV 3 hts gX11_weighPlan_X11_weighMore rfl rfl rfl (by decide +kernel) ⟨Nat.le_of_ble_eq_true rfl, Nat.le_of_ble_eq_true rfl⟩) ⟨fun a U g mk q => by obtain ⟨q0, q1, qP, qK, qD⟩ := q; exact ⟨q0, q1, qP, va_K.moved (u := U) (U := U.calling g mk a) (Vm.Alike.refl U.vm) qK, qD⟩, va_recv hK hP (ci := 11) (q0 := 0) rfl rfl, fun U hU hW => ⟨rfl, by rw [hU], by rw [hU]; exact hPc, va_K.moved hW.alike hKc, hDc.weaken (fun _ _ _ _ => trivial)⟩⟩ rfl rfl hl.1 rfl (lv_room (Nat.le_of_ble_eq_true rfl)) dX11_weighPlan_23 ⟨Nat.le_of_ble_eq_true rfl, Nat.le_of_ble_eq_true rfl⟩) hS (fun q _ h => hFc q h) hFc (fun u_ t H1 locs ht hvm hw_7 hB hz1 hk1 hS => ?_)
  obtain ⟨gw_8, gh_9, hP1, hK1, hD1⟩ := hB
  rw [ht] at hP1
  have hK1 := va_K.moved hvm.symm hK1
  obtain ⟨hP, hD⟩ := va_join (wr := [((ab 0), .inr (0, [.ref (ab 1), .ref (ab 3), .ref (ab 5), .ref (ab 7), .ref (ab 9), .int (nI ub)])), ((ab 1), .inr (6, [.int 1, .int 5, .ref (ab 2), .int (nI (zb 0))])), ((ab 2), .inl ((cb 0), 5, .inl (fb 0))), ((ab 3), .inr (6, [.int 4, .int 5, .ref (ab 4), .int (nI (zb 1))])), ((ab 4), .inl ((cb 1), 20, .inl (fb 1))), ((ab 5), .inr (6, [.int 4, .int 8, .ref (ab 6), .int (nI (zb 2))])), ((ab 6), .inl ((cb 2), 32, .inl (fb 2)))]) (w1 := [(o, .inr (11, [.ref aw, .ref (ab 0), .ref ai, .ref ak, .ref sc, .ref rd, .ref fo, .ref tx, .int ty, .ref ar, .ref at_, .ref ao])), (aw, .inl (cw, 6, .inr (.inr (.inr (.inr (tz_w w0 w1 w2 w3 w4 w5)))))), (w0, .inr (4, [])), (w1, .inr (1, [])), (w2, .inr (10, [])), (w3, .inr (3, [])), (w4, .inr (9, [])), (w5, .inr (8, [])), (sc, .inr (7, [.ref sw, .ref sh])), (sw, .inl (csw, 21, .inr (.inl gw_8))), (sh, .inl (csh, 21, .inl gh_9))]) hP hD [0, 11, 12, 13, 14, 15, 16, 17, 1, 2, 3] [4, 5, 6, 7, 8, 9, 10] rfl rfl (by decide) (by decide) hk1 hFc hP1 hD1
  generalize H1 = H at hP hS ⊢
  have hP : va_P (dC, dI) vwCl [((ab 0), .inr (0, [.ref (ab 1), .ref (ab 3), .ref (ab 5), .ref (ab 7), .ref (ab 9), .int (nI ub)])), ((ab 1), .inr (6, [.int 1, .int 5, .ref (ab 2), .int (nI (zb 0))])), ((ab 2), .inl ((cb 0), 5, .inl (fb 0))), ((ab 3), .inr (6, [.int 4, .int 5, .ref (ab 4), .int (nI (zb 1))])), ((ab 4), .inl ((cb 1), 20, .inl (fb 1))), ((ab 5), .inr (6, [.int 4, .int 8, .ref (ab 6), .int (nI (zb 2))])), ((ab 6), .inl ((cb 2), 32, .inl (fb 2))), (o, .inr (11, [.ref aw, .ref (ab 0), .ref ai, .ref ak, .ref sc, .ref rd, .ref fo, .ref tx, .int ty, .ref ar, .ref at_, .ref ao])), (aw, .inl (cw, 6, .inr (.inr (.inr (.inr (tz_w w0 w1 w2 w3 w4 w5)))))), (w0, .inr (4, [])), (w1, .inr (1, [])), (w2, .inr (10, [])), (w3, .inr (3, [])), (w4, .inr (9, [])), (w5, .inr (8, [])), (sc, .inr (7, [.ref sw, .ref sh])), (sw, .inl (csw, 21, .inr (.inl gw_8))), (sh, .inl (csh, 21, .inl gh_9))] H := hP
  have hD : va_D A [((ab 0), .inr (0, [.ref (ab 1), .ref (ab 3), .ref (ab 5), .ref (ab 7), .ref (ab 9), .int (nI ub)])), ((ab 1), .inr (6, [.int 1, .int 5, .ref (ab 2), .int (nI (zb 0))])), ((ab 2), .inl ((cb 0), 5, .inl (fb 0))), ((ab 3), .inr (6, [.int 4, .int 5, .ref (ab 4), .int (nI (zb 1))])), ((ab 4), .inl ((cb 1), 20, .inl (fb 1))), ((ab 5), .inr (6, [.int 4, .int 8, .ref (ab 6), .int (nI (zb 2))])), ((ab 6), .inl ((cb 2), 32, .inl (fb 2))), (o, .inr (11, [.ref aw, .ref (ab 0), .ref ai, .ref ak, .ref sc, .ref rd, .ref fo, .ref tx, .int ty, .ref ar, .ref at_, .ref ao])), (aw, .inl (cw, 6, .inr (.inr (.inr (.inr (tz_w w0 w1 w2 w3 w4 w5)))))), (w0, .inr (4, [])), (w1, .inr (1, [])), (w2, .inr (10, [])), (w3, .inr (3, [])), (w4, .inr (9, [])), (w5, .inr (8, [])), (sc, .inr (7, [.ref sw, .ref sh])), (sw, .inl (csw, 21, .inr (.inl gw_8))), (sh, .inl (csh, 21, .inl gh_9))] := hD
  refine lv_aload_n hx hb dX11_weighPlan_26 rfl (lv_at hl 0 rfl) ?_
  refine lv_iconst (v := 1) hx hb dX11_weighPlan_27 (by decide) ?_
  refine lv_iload_n hx hb dX11_weighPlan_28 rfl (lv_at hl 2 rfl) ?_
  refine lv_iload_n hx hb dX11_weighPlan_29 rfl (lv_at hl 3 rfl) ?_
  refine lv_bipush (v := 10) hx hb dX11_weighPlan_30 (by decide) ?_
  refine lv_idiv hx hb dX11_weighPlan_32 (by decide) ?_
  refine lv_topi (fun x_10 _ => ?_)
  refine lv_bipush (v := 10) hx hb dX11_weighPlan_33 (by decide) ?_
  refine lv_irem hx hb dX11_weighPlan_35 (by decide) ?_
  refine lv_topi (fun x_11 _ => ?_)
  have hPc := hP.sub (ws' := [(o, .inr (11, [.ref aw, .ref (ab 0), .ref ai, .ref ak, .ref sc, .ref rd, .ref fo, .ref tx, .int ty, .ref ar, .ref at_, .ref ao])), (aw, .inl (cw, 6, .inr (.inr (.inr (.inr (tz_w w0 w1 w2 w3 w4 w5)))))), (w0, .inr (4, [])), (w1, .inr (1, [])), (w2, .inr (10, [])), (w3, .inr (3, [])), (w4, .inr (9, [])), (w5, .inr (8, [])), (sc, .inr (7, [.ref sw, .ref sh])), (sw, .inl (csw, 21, .inr (.inl gw_8))), (sh, .inl (csh, 21, .inl gh_9))]) [7, 8, 9, 10, 11, 12, 13, 14, 15, 16, 17] rfl
  have hDc := hD.sub (ws' := [(o, .inr (11, [.ref aw, .ref (ab 0), .ref ai, .ref ak, .ref sc, .ref rd, .ref fo, .ref tx, .int ty, .ref ar, .ref at_, .ref ao])), (aw, .inl (cw, 6, .inr (.inr (.inr (.inr (tz_w w0 w1 w2 w3 w4 w5)))))), (w0, .inr (4, [])), (w1, .inr (1, [])), (w2, .inr (10, [])), (w3, .inr (3, [])), (w4, .inr (9, [])), (w5, .inr (8, [])), (sc, .inr (7, [.ref sw, .ref sh])), (sw, .inl (csw, 21, .inr (.inl gw_8))), (sh, .inl (csh, 21, .inl gh_9))]) [7, 8, 9, 10, 11, 12, 13, 14, 15, 16, 17] (by decide) rfl
  have hKc := hK.sub (tys' := [(cw, (.object "ThriceCounted$Ones")), (csw, .long), (csh, .int)]) [0, 1, 2] rfl
  have hFc := va_free (wc := [(o, .inr (11, [.ref aw, .ref (ab 0), .ref ai, .ref ak, .ref sc, .ref rd, .ref fo, .ref tx, .int ty, .ref ar, .ref at_, .ref ao])), (aw, .inl (cw, 6, .inr (.inr (.inr (.inr (tz_w w0 w1 w2 w3 w4 w5)))))), (w0, .inr (4, [])), (w1, .inr (1, [])), (w2, .inr (10, [])), (w3, .inr (3, [])), (w4, .inr (9, [])), (w5, .inr (8, [])), (sc, .inr (7, [.ref sw, .ref sh])), (sw, .inl (csw, 21, .inr (.inl gw_8))), (sh, .inl (csh, 21, .inl gh_9))]) hD hS hA [7, 8, 9, 10, 11, 12, 13, 14, 15, 16, 17] rfl
  refine va_callv (va_runV (As := [.int 1, .int nb, .int x_11]) (rest := []) ⟨hx, hb, hml, hown, hts⟩ (x_weighMore l dC dI o aw ab ai ak sc rd fo tx ty ar at_ ao cw w0 w1 w2 w3 w4 w5 sw sh csw gw_8 csh gh_9 1 nb x_11 H.size) (cwV 3 hts gX11_weighPlan_X11_weighMore rfl rfl rfl (by decide +kernel) ⟨Nat.le_of_ble_eq_true rfl, Nat.le_of_ble_eq_true rfl⟩) ⟨fun a U g mk q => by obtain ⟨q0, q1, qP, qK, qD⟩ := q; exact ⟨q0, q1, qP, va_K.moved (u := U) (U := U.calling g mk a) (Vm.Alike.refl U.vm) qK, qD⟩, va_recv hK hP (ci := 11) (q0 := 7) rfl rfl, fun U hU hW => ⟨rfl, by rw [hU], by rw [hU]; exact hPc, va_K.moved hW.alike hKc, hDc.weaken (fun _ _ _ _ => trivial)⟩⟩ rfl rfl hl.1 rfl (lv_room (Nat.le_of_ble_eq_true rfl)) dX11_weighPlan_36 ⟨Nat.le_of_ble_eq_true rfl, Nat.le_of_ble_eq_true rfl⟩) hS (fun q _ h => hFc q h) hFc (fun u_ t H1 locs ht hvm hw_13 hB hz1 hk1 hS => ?_)
  obtain ⟨gw_14, gh_15, hP1, hK1, hD1⟩ := hB
  rw [ht] at hP1
  have hK1 := va_K.moved hvm.symm hK1
  obtain ⟨hP, hD⟩ := va_join (wr := [((ab 0), .inr (0, [.ref (ab 1), .ref (ab 3), .ref (ab 5), .ref (ab 7), .ref (ab 9), .int (nI ub)])), ((ab 1), .inr (6, [.int 1, .int 5, .ref (ab 2), .int (nI (zb 0))])), ((ab 2), .inl ((cb 0), 5, .inl (fb 0))), ((ab 3), .inr (6, [.int 4, .int 5, .ref (ab 4), .int (nI (zb 1))])), ((ab 4), .inl ((cb 1), 20, .inl (fb 1))), ((ab 5), .inr (6, [.int 4, .int 8, .ref (ab 6), .int (nI (zb 2))])), ((ab 6), .inl ((cb 2), 32, .inl (fb 2)))]) (w1 := [(o, .inr (11, [.ref aw, .ref (ab 0), .ref ai, .ref ak, .ref sc, .ref rd, .ref fo, .ref tx, .int ty, .ref ar, .ref at_, .ref ao])), (aw, .inl (cw, 6, .inr (.inr (.inr (.inr (tz_w w0 w1 w2 w3 w4 w5)))))), (w0, .inr (4, [])), (w1, .inr (1, [])), (w2, .inr (10, [])), (w3, .inr (3, [])), (w4, .inr (9, [])), (w5, .inr (8, [])), (sc, .inr (7, [.ref sw, .ref sh])), (sw, .inl (csw, 21, .inr (.inl gw_14))), (sh, .inl (csh, 21, .inl gh_15))]) hP hD [7, 8, 9, 10, 11, 12, 13, 14, 15, 16, 17] [0, 1, 2, 3, 4, 5, 6] rfl rfl (by decide) (by decide) hk1 hFc hP1 hD1
  generalize H1 = H at hP hS ⊢
  have hP : va_P (dC, dI) vwCl [((ab 0), .inr (0, [.ref (ab 1), .ref (ab 3), .ref (ab 5), .ref (ab 7), .ref (ab 9), .int (nI ub)])), ((ab 1), .inr (6, [.int 1, .int 5, .ref (ab 2), .int (nI (zb 0))])), ((ab 2), .inl ((cb 0), 5, .inl (fb 0))), ((ab 3), .inr (6, [.int 4, .int 5, .ref (ab 4), .int (nI (zb 1))])), ((ab 4), .inl ((cb 1), 20, .inl (fb 1))), ((ab 5), .inr (6, [.int 4, .int 8, .ref (ab 6), .int (nI (zb 2))])), ((ab 6), .inl ((cb 2), 32, .inl (fb 2))), (o, .inr (11, [.ref aw, .ref (ab 0), .ref ai, .ref ak, .ref sc, .ref rd, .ref fo, .ref tx, .int ty, .ref ar, .ref at_, .ref ao])), (aw, .inl (cw, 6, .inr (.inr (.inr (.inr (tz_w w0 w1 w2 w3 w4 w5)))))), (w0, .inr (4, [])), (w1, .inr (1, [])), (w2, .inr (10, [])), (w3, .inr (3, [])), (w4, .inr (9, [])), (w5, .inr (8, [])), (sc, .inr (7, [.ref sw, .ref sh])), (sw, .inl (csw, 21, .inr (.inl gw_14))), (sh, .inl (csh, 21, .inl gh_15))] H := hP
  have hD : va_D A [((ab 0), .inr (0, [.ref (ab 1), .ref (ab 3), .ref (ab 5), .ref (ab 7), .ref (ab 9), .int (nI ub)])), ((ab 1), .inr (6, [.int 1, .int 5, .ref (ab 2), .int (nI (zb 0))])), ((ab 2), .inl ((cb 0), 5, .inl (fb 0))), ((ab 3), .inr (6, [.int 4, .int 5, .ref (ab 4), .int (nI (zb 1))])), ((ab 4), .inl ((cb 1), 20, .inl (fb 1))), ((ab 5), .inr (6, [.int 4, .int 8, .ref (ab 6), .int (nI (zb 2))])), ((ab 6), .inl ((cb 2), 32, .inl (fb 2))), (o, .inr (11, [.ref aw, .ref (ab 0), .ref ai, .ref ak, .ref sc, .ref rd, .ref fo, .ref tx, .int ty, .ref ar, .ref at_, .ref ao])), (aw, .inl (cw, 6, .inr (.inr (.inr (.inr (tz_w w0 w1 w2 w3 w4 w5)))))), (w0, .inr (4, [])), (w1, .inr (1, [])), (w2, .inr (10, [])), (w3, .inr (3, [])), (w4, .inr (9, [])), (w5, .inr (8, [])), (sc, .inr (7, [.ref sw, .ref sh])), (sw, .inl (csw, 21, .inr (.inl gw_14))), (sh, .inl (csh, 21, .inl gh_15))] := hD
  refine lv_aload_n hx hb dX11_weighPlan_39 rfl (lv_at hl 0 rfl) ?_
  refine lv_iconst (v := 2) hx hb dX11_weighPlan_40 (by decide) ?_
  refine lv_iload_n hx hb dX11_weighPlan_41 rfl (lv_at hl 2 rfl) ?_
  refine lv_iload_n hx hb dX11_weighPlan_42 rfl (lv_at hl 3 rfl) ?_
  refine lv_bipush (v := 10) hx hb dX11_weighPlan_43 (by decide) ?_
  refine lv_irem hx hb dX11_weighPlan_45 (by decide) ?_
  refine lv_topi (fun x_16 _ => ?_)
  have hPc := hP.sub (ws' := [(o, .inr (11, [.ref aw, .ref (ab 0), .ref ai, .ref ak, .ref sc, .ref rd, .ref fo, .ref tx, .int ty, .ref ar, .ref at_, .ref ao])), (aw, .inl (cw, 6, .inr (.inr (.inr (.inr (tz_w w0 w1 w2 w3 w4 w5)))))), (w0, .inr (4, [])), (w1, .inr (1, [])), (w2, .inr (10, [])), (w3, .inr (3, [])), (w4, .inr (9, [])), (w5, .inr (8, [])), (sc, .inr (7, [.ref sw, .ref sh])), (sw, .inl (csw, 21, .inr (.inl gw_14))), (sh, .inl (csh, 21, .inl gh_15))]) [7, 8, 9, 10, 11, 12, 13, 14, 15, 16, 17] rfl
  have hDc := hD.sub (ws' := [(o, .inr (11, [.ref aw, .ref (ab 0), .ref ai, .ref ak, .ref sc, .ref rd, .ref fo, .ref tx, .int ty, .ref ar, .ref at_, .ref ao])), (aw, .inl (cw, 6, .inr (.inr (.inr (.inr (tz_w w0 w1 w2 w3 w4 w5)))))), (w0, .inr (4, [])), (w1, .inr (1, [])), (w2, .inr (10, [])), (w3, .inr (3, [])), (w4, .inr (9, [])), (w5, .inr (8, [])), (sc, .inr (7, [.ref sw, .ref sh])), (sw, .inl (csw, 21, .inr (.inl gw_14))), (sh, .inl (csh, 21, .inl gh_15))]) [7, 8, 9, 10, 11, 12, 13, 14, 15, 16, 17] (by decide) rfl
  have hKc := hK.sub (tys' := [(cw, (.object "ThriceCounted$Ones")), (csw, .long), (csh, .int)]) [0, 1, 2] rfl
  have hFc := va_free (wc := [(o, .inr (11, [.ref aw, .ref (ab 0), .ref ai, .ref ak, .ref sc, .ref rd, .ref fo, .ref tx, .int ty, .ref ar, .ref at_, .ref ao])), (aw, .inl (cw, 6, .inr (.inr (.inr (.inr (tz_w w0 w1 w2 w3 w4 w5)))))), (w0, .inr (4, [])), (w1, .inr (1, [])), (w2, .inr (10, [])), (w3, .inr (3, [])), (w4, .inr (9, [])), (w5, .inr (8, [])), (sc, .inr (7, [.ref sw, .ref sh])), (sw, .inl (csw, 21, .inr (.inl gw_14))), (sh, .inl (csh, 21, .inl gh_15))]) hD hS hA [7, 8, 9, 10, 11, 12, 13, 14, 15, 16, 17] rfl
  refine va_callv (va_runV (As := [.int 2, .int nb, .int x_16]) (rest := []) ⟨hx, hb, hml, hown, hts⟩ (x_weighMore l dC dI o aw ab ai ak sc rd fo tx ty ar at_ ao cw w0 w1 w2 w3 w4 w5 sw sh csw gw_14 csh gh_15 2 nb x_16 H.size) (cwV 3 hts gX11_weighPlan_X11_weighMore rfl rfl rfl (by decide +kernel) ⟨Nat.le_of_ble_eq_true rfl, Nat.le_of_ble_eq_true rfl⟩) ⟨fun a U g mk q => by obtain ⟨q0, q1, qP, qK, qD⟩ := q; exact ⟨q0, q1, qP, va_K.moved (u := U) (U := U.calling g mk a) (Vm.Alike.refl U.vm) qK, qD⟩, va_recv hK hP (ci := 11) (q0 := 7) rfl rfl, fun U hU hW => ⟨rfl, by rw [hU], by rw [hU]; exact hPc, va_K.moved hW.alike hKc, hDc.weaken (fun _ _ _ _ => trivial)⟩⟩ rfl rfl hl.1 rfl (lv_room (Nat.le_of_ble_eq_true rfl)) dX11_weighPlan_46 ⟨Nat.le_of_ble_eq_true rfl, Nat.le_of_ble_eq_true rfl⟩) hS (fun q _ h => hFc q h) hFc (fun u_ t H1 locs ht hvm hw_18 hB hz1 hk1 hS => ?_)
  obtain ⟨gw_19, gh_20, hP1, hK1, hD1⟩ := hB
  rw [ht] at hP1
  have hK1 := va_K.moved hvm.symm hK1
  obtain ⟨hP, hD⟩ := va_join (wr := [((ab 0), .inr (0, [.ref (ab 1), .ref (ab 3), .ref (ab 5), .ref (ab 7), .ref (ab 9), .int (nI ub)])), ((ab 1), .inr (6, [.int 1, .int 5, .ref (ab 2), .int (nI (zb 0))])), ((ab 2), .inl ((cb 0), 5, .inl (fb 0))), ((ab 3), .inr (6, [.int 4, .int 5, .ref (ab 4), .int (nI (zb 1))])), ((ab 4), .inl ((cb 1), 20, .inl (fb 1))), ((ab 5), .inr (6, [.int 4, .int 8, .ref (ab 6), .int (nI (zb 2))])), ((ab 6), .inl ((cb 2), 32, .inl (fb 2)))]) (w1 := [(o, .inr (11, [.ref aw, .ref (ab 0), .ref ai, .ref ak, .ref sc, .ref rd, .ref fo, .ref tx, .int ty, .ref ar, .ref at_, .ref ao])), (aw, .inl (cw, 6, .inr (.inr (.inr (.inr (tz_w w0 w1 w2 w3 w4 w5)))))), (w0, .inr (4, [])), (w1, .inr (1, [])), (w2, .inr (10, [])), (w3, .inr (3, [])), (w4, .inr (9, [])), (w5, .inr (8, [])), (sc, .inr (7, [.ref sw, .ref sh])), (sw, .inl (csw, 21, .inr (.inl gw_19))), (sh, .inl (csh, 21, .inl gh_20))]) hP hD [7, 8, 9, 10, 11, 12, 13, 14, 15, 16, 17] [0, 1, 2, 3, 4, 5, 6] rfl rfl (by decide) (by decide) hk1 hFc hP1 hD1
  generalize H1 = H at hP hS ⊢
  have hP : va_P (dC, dI) vwCl [((ab 0), .inr (0, [.ref (ab 1), .ref (ab 3), .ref (ab 5), .ref (ab 7), .ref (ab 9), .int (nI ub)])), ((ab 1), .inr (6, [.int 1, .int 5, .ref (ab 2), .int (nI (zb 0))])), ((ab 2), .inl ((cb 0), 5, .inl (fb 0))), ((ab 3), .inr (6, [.int 4, .int 5, .ref (ab 4), .int (nI (zb 1))])), ((ab 4), .inl ((cb 1), 20, .inl (fb 1))), ((ab 5), .inr (6, [.int 4, .int 8, .ref (ab 6), .int (nI (zb 2))])), ((ab 6), .inl ((cb 2), 32, .inl (fb 2))), (o, .inr (11, [.ref aw, .ref (ab 0), .ref ai, .ref ak, .ref sc, .ref rd, .ref fo, .ref tx, .int ty, .ref ar, .ref at_, .ref ao])), (aw, .inl (cw, 6, .inr (.inr (.inr (.inr (tz_w w0 w1 w2 w3 w4 w5)))))), (w0, .inr (4, [])), (w1, .inr (1, [])), (w2, .inr (10, [])), (w3, .inr (3, [])), (w4, .inr (9, [])), (w5, .inr (8, [])), (sc, .inr (7, [.ref sw, .ref sh])), (sw, .inl (csw, 21, .inr (.inl gw_19))), (sh, .inl (csh, 21, .inl gh_20))] H := hP
  have hD : va_D A [((ab 0), .inr (0, [.ref (ab 1), .ref (ab 3), .ref (ab 5), .ref (ab 7), .ref (ab 9), .int (nI ub)])), ((ab 1), .inr (6, [.int 1, .int 5, .ref (ab 2), .int (nI (zb 0))])), ((ab 2), .inl ((cb 0), 5, .inl (fb 0))), ((ab 3), .inr (6, [.int 4, .int 5, .ref (ab 4), .int (nI (zb 1))])), ((ab 4), .inl ((cb 1), 20, .inl (fb 1))), ((ab 5), .inr (6, [.int 4, .int 8, .ref (ab 6), .int (nI (zb 2))])), ((ab 6), .inl ((cb 2), 32, .inl (fb 2))), (o, .inr (11, [.ref aw, .ref (ab 0), .ref ai, .ref ak, .ref sc, .ref rd, .ref fo, .ref tx, .int ty, .ref ar, .ref at_, .ref ao])), (aw, .inl (cw, 6, .inr (.inr (.inr (.inr (tz_w w0 w1 w2 w3 w4 w5)))))), (w0, .inr (4, [])), (w1, .inr (1, [])), (w2, .inr (10, [])), (w3, .inr (3, [])), (w4, .inr (9, [])), (w5, .inr (8, [])), (sc, .inr (7, [.ref sw, .ref sh])), (sw, .inl (csw, 21, .inr (.inl gw_19))), (sh, .inl (csh, 21, .inl gh_20))] := hD
  have hP9 := hP.sub (ws' := [(o, .inr (11, [.ref aw, .ref (ab 0), .ref ai, .ref ak, .ref sc, .ref rd, .ref fo, .ref tx, .int ty, .ref ar, .ref at_, .ref ao])), (aw, .inl (cw, 6, .inr (.inr (.inr (.inr (tz_w w0 w1 w2 w3 w4 w5)))))), (w0, .inr (4, [])), (w1, .inr (1, [])), (w2, .inr (10, [])), (w3, .inr (3, [])), (w4, .inr (9, [])), (w5, .inr (8, [])), (sc, .inr (7, [.ref sw, .ref sh])), (sw, .inl (csw, 21, .inr (.inl gw_19))), (sh, .inl (csh, 21, .inl gh_20)), ((ab 0), .inr (0, [.ref (ab 1), .ref (ab 3), .ref (ab 5), .ref (ab 7), .ref (ab 9), .int (nI ub)])), ((ab 1), .inr (6, [.int 1, .int 5, .ref (ab 2), .int (nI (zb 0))])), ((ab 2), .inl ((cb 0), 5, .inl (fb 0))), ((ab 3), .inr (6, [.int 4, .int 5, .ref (ab 4), .int (nI (zb 1))])), ((ab 4), .inl ((cb 1), 20, .inl (fb 1))), ((ab 5), .inr (6, [.int 4, .int 8, .ref (ab 6), .int (nI (zb 2))])), ((ab 6), .inl ((cb 2), 32, .inl (fb 2)))]) [7, 8, 9, 10, 11, 12, 13, 14, 15, 16, 17, 0, 1, 2, 3, 4, 5, 6] rfl
  have hD9 := hD.sub (ws' := [(o, .inr (11, [.ref aw, .ref (ab 0), .ref ai, .ref ak, .ref sc, .ref rd, .ref fo, .ref tx, .int ty, .ref ar, .ref at_, .ref ao])), (aw, .inl (cw, 6, .inr (.inr (.inr (.inr (tz_w w0 w1 w2 w3 w4 w5)))))), (w0, .inr (4, [])), (w1, .inr (1, [])), (w2, .inr (10, [])), (w3, .inr (3, [])), (w4, .inr (9, [])), (w5, .inr (8, [])), (sc, .inr (7, [.ref sw, .ref sh])), (sw, .inl (csw, 21, .inr (.inl gw_19))), (sh, .inl (csh, 21, .inl gh_20)), ((ab 0), .inr (0, [.ref (ab 1), .ref (ab 3), .ref (ab 5), .ref (ab 7), .ref (ab 9), .int (nI ub)])), ((ab 1), .inr (6, [.int 1, .int 5, .ref (ab 2), .int (nI (zb 0))])), ((ab 2), .inl ((cb 0), 5, .inl (fb 0))), ((ab 3), .inr (6, [.int 4, .int 5, .ref (ab 4), .int (nI (zb 1))])), ((ab 4), .inl ((cb 1), 20, .inl (fb 1))), ((ab 5), .inr (6, [.int 4, .int 8, .ref (ab 6), .int (nI (zb 2))])), ((ab 6), .inl ((cb 2), 32, .inl (fb 2)))]) [7, 8, 9, 10, 11, 12, 13, 14, 15, 16, 17, 0, 1, 2, 3, 4, 5, 6] (by decide) rfl
  have hK9 := hK.sub (tys' := [(cw, (.object "ThriceCounted$Ones")), (csw, .long), (csh, .int), ((cb 0), .int), ((cb 1), .int), ((cb 2), .int)]) [0, 1, 2, 3, 4, 5] rfl
  exact W.vret hx hb hr (fun t ht hW => ⟨⟨(), rfl, trivial, gw_19, gh_20, by rw [ht]; exact hP9, va_K.moved hW.alike hK9, hD9⟩, hS.F ht⟩) hS.2.2 dX11_weighPlan_49
set_option maxRecDepth 20000 in
theorem ggX11_findTruths_X6_size : GoodIn wsX11_findTruths wsX6_size := goodIn_r _ [10, 11, 100, 101, 102, 103] (by decide +kernel) (by decide +kernel)
set_option maxRecDepth 20000 in
theorem gX11_findTruths_X6_size : GoodIn wsX11_findTruths (wsV RX11 89 RX6 yX6_size wsX6_size) := goodIn_app (goodIn_of _ (by decide +kernel)) ggX11_findTruths_X6_size
set_option maxRecDepth 20000 in
theorem ggX11_findTruths_X7_weigh : GoodIn wsX11_findTruths wsX7_weigh := goodIn_r _ [16, 17, 18, 19, 20, 15, 21, 22, 23, 24, 25, 26, 9, 27, 28, 29, 30, 31, 32, 33, 11, 34, 7, 8, 10, 35, 36, 37, 38, 39, 40, 41, 42, 43, 44, 45, 46, 47, 48, 49, 50, 51, 52, 53, 54, 55, 56, 57, 58, 59, 60, 61, 62, 63, 64, 65, 66, 67, 68, 69, 70, 71, 72, 73, 74, 75, 76, 77, 104, 105, 94, 95, 96, 97, 98, 99, 100, 101, 102, 103] (by decide +kernel) (by decide +kernel)
set_option maxRecDepth 20000 in
theorem gX11_findTruths_X7_weigh : GoodIn wsX11_findTruths (wsV RX11 187 RX7 yX7_weigh wsX7_weigh) := goodIn_app (goodIn_of _ (by decide +kernel)) ggX11_findTruths_X7_weigh
set_option maxRecDepth 20000 in
theorem ggX11_findTruths_X7_heaviest : GoodIn wsX11_findTruths wsX7_heaviest := goodIn_r _ [81, 17, 104, 105] (by decide +kernel) (by decide +kernel)
set_option maxRecDepth 20000 in
theorem gX11_findTruths_X7_heaviest : GoodIn wsX11_findTruths (wsV RX11 199 RX7 yX7_heaviest wsX7_heaviest) := goodIn_app (goodIn_of _ (by decide +kernel)) ggX11_findTruths_X7_heaviest
theorem dX11_findTruths_0 : decode cX11_findTruths 0 = .ok (.iconst 0, 1) := by decide +kernel
theorem dX11_findTruths_1 : decode cX11_findTruths 1 = .ok (.istore_n 1, 1) := by decide +kernel
theorem dX11_findTruths_2 : decode cX11_findTruths 2 = .ok (.iload_n 1, 1) := by decide +kernel
theorem dX11_findTruths_3 : decode cX11_findTruths 3 = .ok (.aload_n 0, 1) := by decide +kernel
theorem dX11_findTruths_4 : decode cX11_findTruths 4 = .ok (.getfield 34, 3) := by decide +kernel
theorem dX11_findTruths_7 : decode cX11_findTruths 7 = .ok (.getfield 85, 3) := by decide +kernel
theorem dX11_findTruths_10 : decode cX11_findTruths 10 = .ok (.invokevirtual 89, 3) := by decide +kernel
theorem dX11_findTruths_13 : decode cX11_findTruths 13 = .ok (.if_icmp .ge 47, 3) := by decide +kernel
theorem dX11_findTruths_16 : decode cX11_findTruths 16 = .ok (.iload_n 1, 1) := by decide +kernel
theorem dX11_findTruths_17 : decode cX11_findTruths 17 = .ok (.aload_n 0, 1) := by decide +kernel
theorem dX11_findTruths_18 : decode cX11_findTruths 18 = .ok (.getfield 79, 3) := by decide +kernel
theorem dX11_findTruths_21 : decode cX11_findTruths 21 = .ok (.arraylength, 1) := by decide +kernel
theorem dX11_findTruths_22 : decode cX11_findTruths 22 = .ok (.if_icmp .ge 38, 3) := by decide +kernel
theorem dX11_findTruths_25 : decode cX11_findTruths 25 = .ok (.aload_n 0, 1) := by decide +kernel
theorem dX11_findTruths_26 : decode cX11_findTruths 26 = .ok (.getfield 49, 3) := by decide +kernel
theorem dX11_findTruths_29 : decode cX11_findTruths 29 = .ok (.aload_n 0, 1) := by decide +kernel
theorem dX11_findTruths_30 : decode cX11_findTruths 30 = .ok (.getfield 34, 3) := by decide +kernel
theorem dX11_findTruths_33 : decode cX11_findTruths 33 = .ok (.iload_n 1, 1) := by decide +kernel
theorem dX11_findTruths_34 : decode cX11_findTruths 34 = .ok (.aload_n 0, 1) := by decide +kernel
theorem dX11_findTruths_35 : decode cX11_findTruths 35 = .ok (.getfield 25, 3) := by decide +kernel
theorem dX11_findTruths_38 : decode cX11_findTruths 38 = .ok (.invokevirtual 187, 3) := by decide +kernel
theorem dX11_findTruths_41 : decode cX11_findTruths 41 = .ok (.aload_n 0, 1) := by decide +kernel
theorem dX11_findTruths_42 : decode cX11_findTruths 42 = .ok (.getfield 79, 3) := by decide +kernel
theorem dX11_findTruths_45 : decode cX11_findTruths 45 = .ok (.iload_n 1, 1) := by decide +kernel
theorem dX11_findTruths_46 : decode cX11_findTruths 46 = .ok (.aload_n 0, 1) := by decide +kernel
theorem dX11_findTruths_47 : decode cX11_findTruths 47 = .ok (.getfield 49, 3) := by decide +kernel
theorem dX11_findTruths_50 : decode cX11_findTruths 50 = .ok (.invokevirtual 199, 3) := by decide +kernel
theorem dX11_findTruths_53 : decode cX11_findTruths 53 = .ok (.iastore, 1) := by decide +kernel
theorem dX11_findTruths_54 : decode cX11_findTruths 54 = .ok (.iinc 1 1, 3) := by decide +kernel
theorem dX11_findTruths_57 : decode cX11_findTruths 57 = .ok (.goto (-55), 3) := by decide +kernel
theorem dX11_findTruths_60 : decode cX11_findTruths 60 = .ok (.return_, 1) := by decide +kernel
set_option maxRecDepth 20000 in
theorem iw_x_findTruths_X11 : ∀ w ∈ wsX110, w ∈ wsX11_findTruths := by decide +kernel
set_option maxRecDepth 20000 in
theorem iw_x_findTruths_X0 : ∀ w ∈ wsX00, w ∈ wsX11_findTruths := by decide +kernel
set_option maxHeartbeats 4000000 in
set_option maxRecDepth 100000 in
theorem x_findTruths (l : Launch) (dC : Nat → ClassId) (dI : Nat → Nat → Nat) (o : Nat) (aw : Nat) (ab : Nat → Nat) (ai : Nat) (ak : Nat) (sc : Nat) (rd : Nat) (fo : Nat) (tx : Nat) (ty : Int32) (ar : Nat) (at_ : Nat) (ao : Nat) (cw : ClassId) (w0 : Nat) (w1 : Nat) (w2 : Nat) (w3 : Nat) (w4 : Nat) (w5 : Nat) (sw : Nat) (sh : Nat) (csw : ClassId) (fw : Nat → Int64) (csh : ClassId) (fh : Nat → Int32) (ct_ : ClassId) (ft_ : Nat → Int32) (ub : Nat) (zb : Nat → Nat) (cb : Nat → ClassId) (fb : Nat → Nat → Int32) (sz : Nat) (hB : (∀ i, zb i ≤ tz_lim i) ∧ ub ≤ 8) : Met l yX11_findTruths wsX11_findTruths ({ frames := 5, cells := 0, slots := 0, locals := 113 }) (va_Pc [.ref o] (fun U => U.heap.size = sz ∧ va_P (dC, dI) vwCl [(o, .inr (11, [.ref aw, .ref (ab 0), .ref ai, .ref ak, .ref sc, .ref rd, .ref fo, .ref tx, .int ty, .ref ar, .ref at_, .ref ao])), (aw, .inl (cw, 6, .inr (.inr (.inr (.inr (tz_w w0 w1 w2 w3 w4 w5)))))), (w0, .inr (4, [])), (w1, .inr (1, [])), (w2, .inr (10, [])), (w3, .inr (3, [])), (w4, .inr (9, [])), (w5, .inr (8, [])), (sc, .inr (7, [.ref sw, .ref sh])), (sw, .inl (csw, 21, .inr (.inl fw))), (sh, .inl (csh, 21, .inl fh)), (at_, .inl (ct_, 5, .inl ft_)), ((ab 0), .inr (0, [.ref (ab 1), .ref (ab 3), .ref (ab 5), .ref (ab 7), .ref (ab 9), .int (nI ub)])), ((ab 1), .inr (6, [.int 1, .int 5, .ref (ab 2), .int (nI (zb 0))])), ((ab 2), .inl ((cb 0), 5, .inl (fb 0))), ((ab 3), .inr (6, [.int 4, .int 5, .ref (ab 4), .int (nI (zb 1))])), ((ab 4), .inl ((cb 1), 20, .inl (fb 1))), ((ab 5), .inr (6, [.int 4, .int 8, .ref (ab 6), .int (nI (zb 2))])), ((ab 6), .inl ((cb 2), 32, .inl (fb 2)))] U.heap ∧ va_K (dC, dI) vwCl [(cw, (.object "ThriceCounted$Ones")), (csw, .long), (csh, .int), (ct_, .int), ((cb 0), .int), ((cb 1), .int), ((cb 2), .int)] U ∧ va_D (fun _ => True) [(o, .inr (11, [.ref aw, .ref (ab 0), .ref ai, .ref ak, .ref sc, .ref rd, .ref fo, .ref tx, .int ty, .ref ar, .ref at_, .ref ao])), (aw, .inl (cw, 6, .inr (.inr (.inr (.inr (tz_w w0 w1 w2 w3 w4 w5)))))), (w0, .inr (4, [])), (w1, .inr (1, [])), (w2, .inr (10, [])), (w3, .inr (3, [])), (w4, .inr (9, [])), (w5, .inr (8, [])), (sc, .inr (7, [.ref sw, .ref sh])), (sw, .inl (csw, 21, .inr (.inl fw))), (sh, .inl (csh, 21, .inl fh)), (at_, .inl (ct_, 5, .inl ft_)), ((ab 0), .inr (0, [.ref (ab 1), .ref (ab 3), .ref (ab 5), .ref (ab 7), .ref (ab 9), .int (nI ub)])), ((ab 1), .inr (6, [.int 1, .int 5, .ref (ab 2), .int (nI (zb 0))])), ((ab 2), .inl ((cb 0), 5, .inl (fb 0))), ((ab 3), .inr (6, [.int 4, .int 5, .ref (ab 4), .int (nI (zb 1))])), ((ab 4), .inl ((cb 1), 20, .inl (fb 1))), ((ab 5), .inr (6, [.int 4, .int 8, .ref (ab 6), .int (nI (zb 2))])), ((ab 6), .inl ((cb 2), 32, .inl (fb 2)))])) (va_Qv (fun (_ : Unit) => True) (fun _ t => ∃ (gw : Nat → Int64) (gh : Nat → Int32) (gt_ : Nat → Int32), va_P (dC, dI) vwCl [(o, .inr (11, [.ref aw, .ref (ab 0), .ref ai, .ref ak, .ref sc, .ref rd, .ref fo, .ref tx, .int ty, .ref ar, .ref at_, .ref ao])), (aw, .inl (cw, 6, .inr (.inr (.inr (.inr (tz_w w0 w1 w2 w3 w4 w5)))))), (w0, .inr (4, [])), (w1, .inr (1, [])), (w2, .inr (10, [])), (w3, .inr (3, [])), (w4, .inr (9, [])), (w5, .inr (8, [])), (sc, .inr (7, [.ref sw, .ref sh])), (sw, .inl (csw, 21, .inr (.inl gw))), (sh, .inl (csh, 21, .inl gh)), (at_, .inl (ct_, 5, .inl gt_)), ((ab 0), .inr (0, [.ref (ab 1), .ref (ab 3), .ref (ab 5), .ref (ab 7), .ref (ab 9), .int (nI ub)])), ((ab 1), .inr (6, [.int 1, .int 5, .ref (ab 2), .int (nI (zb 0))])), ((ab 2), .inl ((cb 0), 5, .inl (fb 0))), ((ab 3), .inr (6, [.int 4, .int 5, .ref (ab 4), .int (nI (zb 1))])), ((ab 4), .inl ((cb 1), 20, .inl (fb 1))), ((ab 5), .inr (6, [.int 4, .int 8, .ref (ab 6), .int (nI (zb 2))])), ((ab 6), .inl ((cb 2), 32, .inl (fb 2)))] t.heap ∧ va_K (dC, dI) vwCl [(cw, (.object "ThriceCounted$Ones")), (csw, .long), (csh, .int), (ct_, .int), ((cb 0), .int), ((cb 1), .int), ((cb 2), .int)] t ∧ va_D (va_A [(o, .inr (11, [.ref aw, .ref (ab 0), .ref ai, .ref ak, .ref sc, .ref rd, .ref fo, .ref tx, .int ty, .ref ar, .ref at_, .ref ao])), (aw, .inl (cw, 6, .inr (.inr (.inr (.inr (tz_w w0 w1 w2 w3 w4 w5)))))), (w0, .inr (4, [])), (w1, .inr (1, [])), (w2, .inr (10, [])), (w3, .inr (3, [])), (w4, .inr (9, [])), (w5, .inr (8, [])), (sc, .inr (7, [.ref sw, .ref sh])), (sw, .inl (csw, 21, .inr (.inl fw))), (sh, .inl (csh, 21, .inl fh)), (at_, .inl (ct_, 5, .inl ft_)), ((ab 0), .inr (0, [.ref (ab 1), .ref (ab 3), .ref (ab 5), .ref (ab 7), .ref (ab 9), .int (nI ub)])), ((ab 1), .inr (6, [.int 1, .int 5, .ref (ab 2), .int (nI (zb 0))])), ((ab 2), .inl ((cb 0), 5, .inl (fb 0))), ((ab 3), .inr (6, [.int 4, .int 5, .ref (ab 4), .int (nI (zb 1))])), ((ab 4), .inl ((cb 1), 20, .inl (fb 1))), ((ab 5), .inr (6, [.int 4, .int 8, .ref (ab 6), .int (nI (zb 2))])), ((ab 6), .inl ((cb 2), 32, .inl (fb 2)))] sz) [(o, .inr (11, [.ref aw, .ref (ab 0), .ref ai, .ref ak, .ref sc, .ref rd, .ref fo, .ref tx, .int ty, .ref ar, .ref at_, .ref ao])), (aw, .inl (cw, 6, .inr (.inr (.inr (.inr (tz_w w0 w1 w2 w3 w4 w5)))))), (w0, .inr (4, [])), (w1, .inr (1, [])), (w2, .inr (10, [])), (w3, .inr (3, [])), (w4, .inr (9, [])), (w5, .inr (8, [])), (sc, .inr (7, [.ref sw, .ref sh])), (sw, .inl (csw, 21, .inr (.inl gw))), (sh, .inl (csh, 21, .inl gh)), (at_, .inl (ct_, 5, .inl gt_)), ((ab 0), .inr (0, [.ref (ab 1), .ref (ab 3), .ref (ab 5), .ref (ab 7), .ref (ab 9), .int (nI ub)])), ((ab 1), .inr (6, [.int 1, .int 5, .ref (ab 2), .int (nI (zb 0))])), ((ab 2), .inl ((cb 0), 5, .inl (fb 0))), ((ab 3), .inr (6, [.int 4, .int 5, .ref (ab 4), .int (nI (zb 1))])), ((ab 4), .inl ((cb 1), 20, .inl (fb 1))), ((ab 5), .inr (6, [.int 4, .int 8, .ref (ab 6), .int (nI (zb 2))])), ((ab 6), .inl ((cb 2), 32, .inl (fb 2)))]) (va_A [(o, .inr (11, [.ref aw, .ref (ab 0), .ref ai, .ref ak, .ref sc, .ref rd, .ref fo, .ref tx, .int ty, .ref ar, .ref at_, .ref ao])), (aw, .inl (cw, 6, .inr (.inr (.inr (.inr (tz_w w0 w1 w2 w3 w4 w5)))))), (w0, .inr (4, [])), (w1, .inr (1, [])), (w2, .inr (10, [])), (w3, .inr (3, [])), (w4, .inr (9, [])), (w5, .inr (8, [])), (sc, .inr (7, [.ref sw, .ref sh])), (sw, .inl (csw, 21, .inr (.inl fw))), (sh, .inl (csh, 21, .inl fh)), (at_, .inl (ct_, 5, .inl ft_)), ((ab 0), .inr (0, [.ref (ab 1), .ref (ab 3), .ref (ab 5), .ref (ab 7), .ref (ab 9), .int (nI ub)])), ((ab 1), .inr (6, [.int 1, .int 5, .ref (ab 2), .int (nI (zb 0))])), ((ab 2), .inl ((cb 0), 5, .inl (fb 0))), ((ab 3), .inr (6, [.int 4, .int 5, .ref (ab 4), .int (nI (zb 1))])), ((ab 4), .inl ((cb 1), 20, .inl (fb 1))), ((ab 5), .inr (6, [.int 4, .int 8, .ref (ab 6), .int (nI (zb 2))])), ((ab 6), .inl ((cb 2), 32, .inl (fb 2)))] sz)) 0 0 (va_A [(o, .inr (11, [.ref aw, .ref (ab 0), .ref ai, .ref ak, .ref sc, .ref rd, .ref fo, .ref tx, .int ty, .ref ar, .ref at_, .ref ao])), (aw, .inl (cw, 6, .inr (.inr (.inr (.inr (tz_w w0 w1 w2 w3 w4 w5)))))), (w0, .inr (4, [])), (w1, .inr (1, [])), (w2, .inr (10, [])), (w3, .inr (3, [])), (w4, .inr (9, [])), (w5, .inr (8, [])), (sc, .inr (7, [.ref sw, .ref sh])), (sw, .inl (csw, 21, .inr (.inl fw))), (sh, .inl (csh, 21, .inl fh)), (at_, .inl (ct_, 5, .inl ft_)), ((ab 0), .inr (0, [.ref (ab 1), .ref (ab 3), .ref (ab 5), .ref (ab 7), .ref (ab 9), .int (nI ub)])), ((ab 1), .inr (6, [.int 1, .int 5, .ref (ab 2), .int (nI (zb 0))])), ((ab 2), .inl ((cb 0), 5, .inl (fb 0))), ((ab 3), .inr (6, [.int 4, .int 5, .ref (ab 4), .int (nI (zb 1))])), ((ab 4), .inl ((cb 1), 20, .inl (fb 1))), ((ab 5), .inr (6, [.int 4, .int 8, .ref (ab 6), .int (nI (zb 2))])), ((ab 6), .inl ((cb 2), 32, .inl (fb 2)))] sz) := by
  refine Met.ofW (cc := cX11_findTruths) (maxL := 2) (ret := none) (by decide) rfl ?_
  intro p e s m args below meth c s₁ B hml hv
  obtain ⟨rfl, hsz, hP, hK, hD0⟩ := hv
  have hx := B.exec
  have hb := B.bytes
  have hr := B.returns
  have hts := atoms_spec (ws := wsX11_findTruths) B.pre
  have hown : s.vm.findClass RX11 = some m.cls := findClass_of_methodNamed B.named
  have hlocks := B.notSynchronized
  subst hsz
  have hD := hD0.self (sz := s.heap.size)
  generalize hAe : va_A [(o, .inr (11, [.ref aw, .ref (ab 0), .ref ai, .ref ak, .ref sc, .ref rd, .ref fo, .ref tx, .int ty, .ref ar, .ref at_, .ref ao])), (aw, .inl (cw, 6, .inr (.inr (.inr (.inr (tz_w w0 w1 w2 w3 w4 w5)))))), (w0, .inr (4, [])), (w1, .inr (1, [])), (w2, .inr (10, [])), (w3, .inr (3, [])), (w4, .inr (9, [])), (w5, .inr (8, [])), (sc, .inr (7, [.ref sw, .ref sh])), (sw, .inl (csw, 21, .inr (.inl fw))), (sh, .inl (csh, 21, .inl fh)), (at_, .inl (ct_, 5, .inl ft_)), ((ab 0), .inr (0, [.ref (ab 1), .ref (ab 3), .ref (ab 5), .ref (ab 7), .ref (ab 9), .int (nI ub)])), ((ab 1), .inr (6, [.int 1, .int 5, .ref (ab 2), .int (nI (zb 0))])), ((ab 2), .inl ((cb 0), 5, .inl (fb 0))), ((ab 3), .inr (6, [.int 4, .int 5, .ref (ab 4), .int (nI (zb 1))])), ((ab 4), .inl ((cb 1), 20, .inl (fb 1))), ((ab 5), .inr (6, [.int 4, .int 8, .ref (ab 6), .int (nI (zb 2))])), ((ab 6), .inl ((cb 2), 32, .inl (fb 2)))] s.heap.size = A at hD ⊢
  have hA : ∀ q : Nat, s.heap.size ≤ q → A q := fun q h => by rw [← hAe]; exact Or.inr h
  have hS : va_S A s.heap s.heap [] := va_S.rf
  have hP : va_P (dC, dI) vwCl [(o, .inr (11, [.ref aw, .ref (ab 0), .ref ai, .ref ak, .ref sc, .ref rd, .ref fo, .ref tx, .int ty, .ref ar, .ref at_, .ref ao])), (aw, .inl (cw, 6, .inr (.inr (.inr (.inr (tz_w w0 w1 w2 w3 w4 w5)))))), (w0, .inr (4, [])), (w1, .inr (1, [])), (w2, .inr (10, [])), (w3, .inr (3, [])), (w4, .inr (9, [])), (w5, .inr (8, [])), (sc, .inr (7, [.ref sw, .ref sh])), (sw, .inl (csw, 21, .inr (.inl fw))), (sh, .inl (csh, 21, .inl fh)), (at_, .inl (ct_, 5, .inl ft_)), ((ab 0), .inr (0, [.ref (ab 1), .ref (ab 3), .ref (ab 5), .ref (ab 7), .ref (ab 9), .int (nI ub)])), ((ab 1), .inr (6, [.int 1, .int 5, .ref (ab 2), .int (nI (zb 0))])), ((ab 2), .inl ((cb 0), 5, .inl (fb 0))), ((ab 3), .inr (6, [.int 4, .int 5, .ref (ab 4), .int (nI (zb 1))])), ((ab 4), .inl ((cb 1), 20, .inl (fb 1))), ((ab 5), .inr (6, [.int 4, .int 8, .ref (ab 6), .int (nI (zb 2))])), ((ab 6), .inl ((cb 2), 32, .inl (fb 2)))] s.heap := hP
  have hl := lv_entry ([.ref o]) (n := 2) (Nat.le_of_ble_eq_true rfl)
  rw [lg_entry_eq]
  generalize (lg_sl ([.ref o]) ++ List.replicate (2 - (lg_sl ([.ref o])).length) Slot.unset).toArray = ls at hl ⊢
  have hl : lv_has ls 2 [(0, .ref o)] := hl
  have hz_zb_0 : zb 0 ≤ 5 := hB.1 0
  have hz_zb_1 : zb 1 ≤ 5 := hB.1 1
  have hz_zb_2 : zb 2 ≤ 8 := hB.1 2
  have hz_zb_3 : zb 3 ≤ 6 := hB.1 3
  have hz_zb_4 : zb 4 ≤ 8 := hB.1 4
  have hz_zb_5 : zb 5 ≤ 8 := hB.1 5
  have hz_zb_6 : zb 6 ≤ 8 := hB.1 6
  have hz_zb_7 : zb 7 ≤ 8 := hB.1 7
  have hz_zb_8 : zb 8 ≤ 8 := hB.1 8
  have hz_zb_9 : zb 9 ≤ 8 := hB.1 9
  have hz_zb_10 : zb 10 ≤ 8 := hB.1 10
  have hz_zb_11 : zb 11 ≤ 8 := hB.1 11
  have hu_zb := hB.2
  refine lv_iconst (v := 0) hx hb dX11_findTruths_0 (by decide) ?_
  refine lv_istore_n (lv' := [(1, .int 0), (0, .ref o)]) hx hb dX11_findTruths_1 rfl hl (by decide) rfl (fun ls hl => ?_)
  refine tz_while (σ := Nat × (Nat → Int32) × (Nat → Int64) × (Nat → Int32) × Heap × List Loc × Array Slot) (fun x => W p l e _ s m _ below meth c x.2.2.2.2.1 x.2.2.2.2.2.1 _ _ _ (F0 m 2 x.2.2.2.2.2.2 [])) (fun x => x.1 ≤ (zb 1) ∧ va_P (dC, dI) vwCl [(o, .inr (11, [.ref aw, .ref (ab 0), .ref ai, .ref ak, .ref sc, .ref rd, .ref fo, .ref tx, .int ty, .ref ar, .ref at_, .ref ao])), (aw, .inl (cw, 6, .inr (.inr (.inr (.inr (tz_w w0 w1 w2 w3 w4 w5)))))), (w0, .inr (4, [])), (w1, .inr (1, [])), (w2, .inr (10, [])), (w3, .inr (3, [])), (w4, .inr (9, [])), (w5, .inr (8, [])), (sc, .inr (7, [.ref sw, .ref sh])), (sw, .inl (csw, 21, .inr (.inl x.2.2.1))), (sh, .inl (csh, 21, .inl x.2.2.2.1)), (at_, .inl (ct_, 5, .inl x.2.1)), ((ab 0), .inr (0, [.ref (ab 1), .ref (ab 3), .ref (ab 5), .ref (ab 7), .ref (ab 9), .int (nI ub)])), ((ab 1), .inr (6, [.int 1, .int 5, .ref (ab 2), .int (nI (zb 0))])), ((ab 2), .inl ((cb 0), 5, .inl (fb 0))), ((ab 3), .inr (6, [.int 4, .int 5, .ref (ab 4), .int (nI (zb 1))])), ((ab 4), .inl ((cb 1), 20, .inl (fb 1))), ((ab 5), .inr (6, [.int 4, .int 8, .ref (ab 6), .int (nI (zb 2))])), ((ab 6), .inl ((cb 2), 32, .inl (fb 2)))] x.2.2.2.2.1 ∧ va_D A [(o, .inr (11, [.ref aw, .ref (ab 0), .ref ai, .ref ak, .ref sc, .ref rd, .ref fo, .ref tx, .int ty, .ref ar, .ref at_, .ref ao])), (aw, .inl (cw, 6, .inr (.inr (.inr (.inr (tz_w w0 w1 w2 w3 w4 w5)))))), (w0, .inr (4, [])), (w1, .inr (1, [])), (w2, .inr (10, [])), (w3, .inr (3, [])), (w4, .inr (9, [])), (w5, .inr (8, [])), (sc, .inr (7, [.ref sw, .ref sh])), (sw, .inl (csw, 21, .inr (.inl x.2.2.1))), (sh, .inl (csh, 21, .inl x.2.2.2.1)), (at_, .inl (ct_, 5, .inl x.2.1)), ((ab 0), .inr (0, [.ref (ab 1), .ref (ab 3), .ref (ab 5), .ref (ab 7), .ref (ab 9), .int (nI ub)])), ((ab 1), .inr (6, [.int 1, .int 5, .ref (ab 2), .int (nI (zb 0))])), ((ab 2), .inl ((cb 0), 5, .inl (fb 0))), ((ab 3), .inr (6, [.int 4, .int 5, .ref (ab 4), .int (nI (zb 1))])), ((ab 4), .inl ((cb 1), 20, .inl (fb 1))), ((ab 5), .inr (6, [.int 4, .int 8, .ref (ab 6), .int (nI (zb 2))])), ((ab 6), .inl ((cb 2), 32, .inl (fb 2)))] ∧ va_S A s.heap x.2.2.2.2.1 x.2.2.2.2.2.1 ∧ lv_has x.2.2.2.2.2.2 2 [(1, .int (nI x.1)), (0, .ref o)]) (fun x => (zb 1) - x.1) ?_ (0, ft_, fw, fh, s.heap, [], ls) ⟨by (try dsimp only); omega, hP, hD, hS, hl⟩
  rintro ⟨k_1, f_21, f_22, f_23, H, locs, ls⟩ ⟨hi_43_0, hP, hD, hS, hl⟩ ih_44
  dsimp only at hi_43_0 hP hD hS hl ih_44 ⊢
  refine lv_iload_n hx hb dX11_findTruths_2 rfl (lv_at hl 0 rfl) ?_
  refine lv_aload_n hx hb dX11_findTruths_3 rfl (lv_at hl 1 rfl) ?_
  refine va_get (D := (dC, dI)) (ci := 11) (v := .ref (ab 0)) (C := RX11) (T := TX11) (N := 12) hx hb hts iw_x_findTruths_X11 hown hK hP 0 rfl rfl 1 (by decide) (hts (.fieldLink RX11 34 "ThriceCounted" "bank" "LThriceCounted$Bank;") (by decide +kernel)) (fun _ h9 => h9) rfl dX11_findTruths_4 ?_
  refine va_get (D := (dC, dI)) (ci := 0) (v := .ref (ab 3)) (C := RX0) (T := TX0) (N := 6) hx hb hts iw_x_findTruths_X0 hown hK hP 12 rfl rfl 1 (by decide) (hts (.fieldLink RX11 85 "ThriceCounted$Bank" "bundles" "LThriceCounted$Rows;") (by decide +kernel)) (fun _ h9 => h9) rfl dX11_findTruths_7 ?_
  have hPc_45 := hP.sub (ws' := [((ab 3), .inr (6, [.int 4, .int 5, .ref (ab 4), .int (nI (zb 1))]))]) [15] rfl
  have hKc_46 := hK.sub (tys' := []) [] rfl
  refine vp_callSi (va_Run.run (va_runV (As := []) (rest := [.int (nI k_1)]) ⟨hx, hb, hml, hown, hts⟩ (r_size_20 l dC dI (ab 3) (ab 4) (zb 1)) (cwV 0 hts gX11_findTruths_X6_size rfl rfl rfl (by decide +kernel) ⟨Nat.le_of_ble_eq_true rfl, Nat.le_of_ble_eq_true rfl⟩) ⟨fun a U g mk q => by obtain ⟨q0, qP, qK⟩ := q; exact ⟨q0, qP, va_K.moved (u := U) (U := U.calling g mk a) (Vm.Alike.refl U.vm) qK⟩, va_recv hK hP (ci := 6) (q0 := 15) rfl rfl, fun U hU hW => ⟨rfl, by rw [hU]; exact hPc_45, va_K.moved hW.alike hKc_46⟩⟩ rfl rfl hl.1 rfl (lv_room (Nat.le_of_ble_eq_true rfl)) dX11_findTruths_10 ⟨Nat.le_of_ble_eq_true rfl, Nat.le_of_ble_eq_true rfl⟩)) (fun r_47 hw_48 => ?_)
  obtain rfl : (nI (zb 1)) = r_47 := hw_48.symm
  refine lv_icmp_ge (tgt := 60) hx hb dX11_findTruths_13 (by decide) (fun c_49 => ?_) (fun c_49 => ?_)
  · have hn_50 : (zb 1) ≤ k_1 := (nI_leI (a := (zb 1)) (b := k_1) (by omega) (by omega)).mp c_49
    have hP9 := hP.sub (ws' := [(o, .inr (11, [.ref aw, .ref (ab 0), .ref ai, .ref ak, .ref sc, .ref rd, .ref fo, .ref tx, .int ty, .ref ar, .ref at_, .ref ao])), (aw, .inl (cw, 6, .inr (.inr (.inr (.inr (tz_w w0 w1 w2 w3 w4 w5)))))), (w0, .inr (4, [])), (w1, .inr (1, [])), (w2, .inr (10, [])), (w3, .inr (3, [])), (w4, .inr (9, [])), (w5, .inr (8, [])), (sc, .inr (7, [.ref sw, .ref sh])), (sw, .inl (csw, 21, .inr (.inl f_22))), (sh, .inl (csh, 21, .inl f_23)), (at_, .inl (ct_, 5, .inl f_21)), ((ab 0), .inr (0, [.ref (ab 1), .ref (ab 3), .ref (ab 5), .ref (ab 7), .ref (ab 9), .int (nI ub)])), ((ab 1), .inr (6, [.int 1, .int 5, .ref (ab 2), .int (nI (zb 0))])), ((ab 2), .inl ((cb 0), 5, .inl (fb 0))), ((ab 3), .inr (6, [.int 4, .int 5, .ref (ab 4), .int (nI (zb 1))])), ((ab 4), .inl ((cb 1), 20, .inl (fb 1))), ((ab 5), .inr (6, [.int 4, .int 8, .ref (ab 6), .int (nI (zb 2))])), ((ab 6), .inl ((cb 2), 32, .inl (fb 2)))]) [0, 1, 2, 3, 4, 5, 6, 7, 8, 9, 10, 11, 12, 13, 14, 15, 16, 17, 18] rfl
    have hD9 := hD.sub (ws' := [(o, .inr (11, [.ref aw, .ref (ab 0), .ref ai, .ref ak, .ref sc, .ref rd, .ref fo, .ref tx, .int ty, .ref ar, .ref at_, .ref ao])), (aw, .inl (cw, 6, .inr (.inr (.inr (.inr (tz_w w0 w1 w2 w3 w4 w5)))))), (w0, .inr (4, [])), (w1, .inr (1, [])), (w2, .inr (10, [])), (w3, .inr (3, [])), (w4, .inr (9, [])), (w5, .inr (8, [])), (sc, .inr (7, [.ref sw, .ref sh])), (sw, .inl (csw, 21, .inr (.inl f_22))), (sh, .inl (csh, 21, .inl f_23)), (at_, .inl (ct_, 5, .inl f_21)), ((ab 0), .inr (0, [.ref (ab 1), .ref (ab 3), .ref (ab 5), .ref (ab 7), .ref (ab 9), .int (nI ub)])), ((ab 1), .inr (6, [.int 1, .int 5, .ref (ab 2), .int (nI (zb 0))])), ((ab 2), .inl ((cb 0), 5, .inl (fb 0))), ((ab 3), .inr (6, [.int 4, .int 5, .ref (ab 4), .int (nI (zb 1))])), ((ab 4), .inl ((cb 1), 20, .inl (fb 1))), ((ab 5), .inr (6, [.int 4, .int 8, .ref (ab 6), .int (nI (zb 2))])), ((ab 6), .inl ((cb 2), 32, .inl (fb 2)))]) [0, 1, 2, 3, 4, 5, 6, 7, 8, 9, 10, 11, 12, 13, 14, 15, 16, 17, 18] (by decide) rfl
    have hK9 := hK.sub (tys' := [(cw, (.object "ThriceCounted$Ones")), (csw, .long), (csh, .int), (ct_, .int), ((cb 0), .int), ((cb 1), .int), ((cb 2), .int)]) [0, 1, 2, 3, 4, 5, 6] rfl
    exact W.vret hx hb hr (fun t ht hW => ⟨⟨(), rfl, trivial, f_22, f_23, f_21, by rw [ht]; exact hP9, va_K.moved hW.alike hK9, hD9⟩, hS.F ht⟩) hS.2.2 dX11_findTruths_60
  · have hn_51 : ¬ (zb 1) ≤ k_1 := fun q => c_49 ((nI_leI (a := (zb 1)) (b := k_1) (by omega) (by omega)).mpr q)
    refine lv_iload_n hx hb dX11_findTruths_16 rfl (lv_at hl 0 rfl) ?_
    refine lv_aload_n hx hb dX11_findTruths_17 rfl (lv_at hl 1 rfl) ?_
    refine va_get (D := (dC, dI)) (ci := 11) (v := .ref at_) (C := RX11) (T := TX11) (N := 12) hx hb hts iw_x_findTruths_X11 hown hK hP 0 rfl rfl 10 (by decide) (hts (.fieldLink RX11 79 "ThriceCounted" "truths" "[I") (by decide +kernel)) (fun _ h9 => h9) rfl dX11_findTruths_18 ?_
    refine va_alen (v := 5) hx hb hK hP 11 3 rfl rfl rfl dX11_findTruths_21 ?_
    refine lv_icmp_ge (tgt := 60) hx hb dX11_findTruths_22 (by decide) (fun c_52 => ?_) (fun c_52 => ?_)
    · have hn_53 : 5 ≤ k_1 := (nI_leI (a := 5) (b := k_1) (by omega) (by omega)).mp c_52
      have hP9 := hP.sub (ws' := [(o, .inr (11, [.ref aw, .ref (ab 0), .ref ai, .ref ak, .ref sc, .ref rd, .ref fo, .ref tx, .int ty, .ref ar, .ref at_, .ref ao])), (aw, .inl (cw, 6, .inr (.inr (.inr (.inr (tz_w w0 w1 w2 w3 w4 w5)))))), (w0, .inr (4, [])), (w1, .inr (1, [])), (w2, .inr (10, [])), (w3, .inr (3, [])), (w4, .inr (9, [])), (w5, .inr (8, [])), (sc, .inr (7, [.ref sw, .ref sh])), (sw, .inl (csw, 21, .inr (.inl f_22))), (sh, .inl (csh, 21, .inl f_23)), (at_, .inl (ct_, 5, .inl f_21)), ((ab 0), .inr (0, [.ref (ab 1), .ref (ab 3), .ref (ab 5), .ref (ab 7), .ref (ab 9), .int (nI ub)])), ((ab 1), .inr (6, [.int 1, .int 5, .ref (ab 2), .int (nI (zb 0))])), ((ab 2), .inl ((cb 0), 5, .inl (fb 0))), ((ab 3), .inr (6, [.int 4, .int 5, .ref (ab 4), .int (nI (zb 1))])), ((ab 4), .inl ((cb 1), 20, .inl (fb 1))), ((ab 5), .inr (6, [.int 4, .int 8, .ref (ab 6), .int (nI (zb 2))])), ((ab 6), .inl ((cb 2), 32, .inl (fb 2)))]) [0, 1, 2, 3, 4, 5, 6, 7, 8, 9, 10, 11, 12, 13, 14, 15, 16, 17, 18] rfl
      have hD9 := hD.sub (ws' := [(o, .inr (11, [.ref aw, .ref (ab 0), .ref ai, .ref ak, .ref sc, .ref rd, .ref fo, .ref tx, .int ty, .ref ar, .ref at_, .ref ao])), (aw, .inl (cw, 6, .inr (.inr (.inr (.inr (tz_w w0 w1 w2 w3 w4 w5)))))), (w0, .inr (4, [])), (w1, .inr (1, [])), (w2, .inr (10, [])), (w3, .inr (3, [])), (w4, .inr (9, [])), (w5, .inr (8, [])), (sc, .inr (7, [.ref sw, .ref sh])), (sw, .inl (csw, 21, .inr (.inl f_22))), (sh, .inl (csh, 21, .inl f_23)), (at_, .inl (ct_, 5, .inl f_21)), ((ab 0), .inr (0, [.ref (ab 1), .ref (ab 3), .ref (ab 5), .ref (ab 7), .ref (ab 9), .int (nI ub)])), ((ab 1), .inr (6, [.int 1, .int 5, .ref (ab 2), .int (nI (zb 0))])), ((ab 2), .inl ((cb 0), 5, .inl (fb 0))), ((ab 3), .inr (6, [.int 4, .int 5, .ref (ab 4), .int (nI (zb 1))])), ((ab 4), .inl ((cb 1), 20, .inl (fb 1))), ((ab 5), .inr (6, [.int 4, .int 8, .ref (ab 6), .int (nI (zb 2))])), ((ab 6), .inl ((cb 2), 32, .inl (fb 2)))]) [0, 1, 2, 3, 4, 5, 6, 7, 8, 9, 10, 11, 12, 13, 14, 15, 16, 17, 18] (by decide) rfl
      have hK9 := hK.sub (tys' := [(cw, (.object "ThriceCounted$Ones")), (csw, .long), (csh, .int), (ct_, .int), ((cb 0), .int), ((cb 1), .int), ((cb 2), .int)]) [0, 1, 2, 3, 4, 5, 6] rfl
      exact W.vret hx hb hr (fun t ht hW => ⟨⟨(), rfl, trivial, f_22, f_23, f_21, by rw [ht]; exact hP9, va_K.moved hW.alike hK9, hD9⟩, hS.F ht⟩) hS.2.2 dX11_findTruths_60
    · have hn_54 : ¬ 5 ≤ k_1 := fun q => c_52 ((nI_leI (a := 5) (b := k_1) (by omega) (by omega)).mpr q)
      refine lv_aload_n hx hb dX11_findTruths_25 rfl (lv_at hl 1 rfl) ?_
      refine va_get (D := (dC, dI)) (ci := 11) (v := .ref sc) (C := RX11) (T := TX11) (N := 12) hx hb hts iw_x_findTruths_X11 hown hK hP 0 rfl rfl 4 (by decide) (hts (.fieldLink RX11 49 "ThriceCounted" "scale" "LThriceCounted$Scale;") (by decide +kernel)) (fun _ h9 => h9) rfl dX11_findTruths_26 ?_
      refine lv_aload_n hx hb dX11_findTruths_29 rfl (lv_at hl 1 rfl) ?_
      refine va_get (D := (dC, dI)) (ci := 11) (v := .ref (ab 0)) (C := RX11) (T := TX11) (N := 12) hx hb hts iw_x_findTruths_X11 hown hK hP 0 rfl rfl 1 (by decide) (hts (.fieldLink RX11 34 "ThriceCounted" "bank" "LThriceCounted$Bank;") (by decide +kernel)) (fun _ h9 => h9) rfl dX11_findTruths_30 ?_
      refine lv_iload_n hx hb dX11_findTruths_33 rfl (lv_at hl 0 rfl) ?_
      refine lv_aload_n hx hb dX11_findTruths_34 rfl (lv_at hl 1 rfl) ?_
      refine va_get (D := (dC, dI)) (ci := 11) (v := .ref aw) (C := RX11) (T := TX11) (N := 12) hx hb hts iw_x_findTruths_X11 hown hK hP 0 rfl rfl 0 (by decide) (hts (.fieldLink RX11 25 "ThriceCounted" "ways" "[LThriceCounted$Ones;") (by decide +kernel)) (fun _ h9 => h9) rfl dX11_findTruths_35 ?_
      have hPc := hP.sub (ws' := [(sc, .inr (7, [.ref sw, .ref sh])), (sw, .inl (csw, 21, .inr (.inl f_22))), (sh, .inl (csh, 21, .inl f_23)), ((ab 0), .inr (0, [.ref (ab 1), .ref (ab 3), .ref (ab 5), .ref (ab 7), .ref (ab 9), .int (nI ub)])), ((ab 1), .inr (6, [.int 1, .int 5, .ref (ab 2), .int (nI (zb 0))])), ((ab 2), .inl ((cb 0), 5, .inl (fb 0))), ((ab 3), .inr (6, [.int 4, .int 5, .ref (ab 4), .int (nI (zb 1))])), ((ab 4), .inl ((cb 1), 20, .inl (fb 1))), ((ab 5), .inr (6, [.int 4, .int 8, .ref (ab 6), .int (nI (zb 2))])), ((ab 6), .inl ((cb 2), 32, .inl (fb 2))), (aw, .inl (cw, 6, .inr (.inr (.inr (.inr (tz_w w0 w1 w2 w3 w4 w5)))))), (w0, .inr (4, [])), (w1, .inr (1, [])), (w2, .inr (10, [])), (w3, .inr (3, [])), (w4, .inr (9, [])), (w5, .inr (8, []))]) [8, 9, 10, 12, 13, 14, 15, 16, 17, 18, 1, 2, 3, 4, 5, 6, 7] rfl
      have hDc := hD.sub (ws' := [(sc, .inr (7, [.ref sw, .ref sh])), (sw, .inl (csw, 21, .inr (.inl f_22))), (sh, .inl (csh, 21, .inl f_23)), ((ab 0), .inr (0, [.ref (ab 1), .ref (ab 3), .ref (ab 5), .ref (ab 7), .ref (ab 9), .int (nI ub)])), ((ab 1), .inr (6, [.int 1, .int 5, .ref (ab 2), .int (nI (zb 0))])), ((ab 2), .inl ((cb 0), 5, .inl (fb 0))), ((ab 3), .inr (6, [.int 4, .int 5, .ref (ab 4), .int (nI (zb 1))])), ((ab 4), .inl ((cb 1), 20, .inl (fb 1))), ((ab 5), .inr (6, [.int 4, .int 8, .ref (ab 6), .int (nI (zb 2))])), ((ab 6), .inl ((cb 2), 32, .inl (fb 2))), (aw, .inl (cw, 6, .inr (.inr (.inr (.inr (tz_w w0 w1 w2 w3 w4 w5)))))), (w0, .inr (4, [])), (w1, .inr (1, [])), (w2, .inr (10, [])), (w3, .inr (3, [])), (w4, .inr (9, [])), (w5, .inr (8, []))]) [8, 9, 10, 12, 13, 14, 15, 16, 17, 18, 1, 2, 3, 4, 5, 6, 7] (by decide) rfl
      have hKc := hK.sub (tys' := [(csw, .long), (csh, .int), ((cb 0), .int), ((cb 1), .int), ((cb 2), .int), (cw, (.object "ThriceCounted$Ones"))]) [1, 2, 4, 5, 6, 0] rfl
      have hFc := va_free (wc := [(sc, .inr (7, [.ref sw, .ref sh])), (sw, .inl (csw, 21, .inr (.inl f_22))), (sh, .inl (csh, 21, .inl f_23)), ((ab 0), .inr (0, [.ref (ab 1), .ref (ab 3), .ref (ab 5), .ref (ab 7), .ref (ab 9), .int (nI ub)])), ((ab 1), .inr (6, [.int 1, .int 5, .ref (ab 2), .int (nI (zb 0))])), ((ab 2), .inl ((cb 0), 5, .inl (fb 0))), ((ab 3), .inr (6, [.int 4, .int 5, .ref (ab 4), .int (nI (zb 1))])), ((ab 4), .inl ((cb 1), 20, .inl (fb 1))), ((ab 5), .inr (6, [.int 4, .int 8, .ref (ab 6), .int (nI (zb 2))])), ((ab 6), .inl ((cb 2), 32, .inl (fb 2))), (aw, .inl (cw, 6, .inr (.inr (.inr (.inr (tz_w w0 w1 w2 w3 w4 w5)))))), (w0, .inr (4, [])), (w1, .inr (1, [])), (w2, .inr (10, [])), (w3, .inr (3, [])), (w4, .inr (9, [])), (w5, .inr (8, []))]) hD hS hA [8, 9, 10, 12, 13, 14, 15, 16, 17, 18, 1, 2, 3, 4, 5, 6, 7] rfl
      refine va_callv (va_runV (As := [.ref (ab 0), .int (nI k_1), .ref aw]) (rest := []) ⟨hx, hb, hml, hown, hts⟩ (s_weigh l dC dI sc sw sh csw f_22 csh f_23 ab ub zb cb fb aw cw w0 w1 w2 w3 w4 w5 (nI k_1) H.size ⟨hB.1, show ub ≤ 8 by omega⟩) (cwV 3 hts gX11_findTruths_X7_weigh rfl rfl rfl (by decide +kernel) ⟨Nat.le_of_ble_eq_true rfl, Nat.le_of_ble_eq_true rfl⟩) ⟨fun a U g mk q => by obtain ⟨q0, q1, qP, qK, qD⟩ := q; exact ⟨q0, q1, qP, va_K.moved (u := U) (U := U.calling g mk a) (Vm.Alike.refl U.vm) qK, qD⟩, va_recv hK hP (ci := 7) (q0 := 8) rfl rfl, fun U hU hW => ⟨rfl, by rw [hU], by rw [hU]; exact hPc, va_K.moved hW.alike hKc, hDc.weaken (fun _ _ _ _ => trivial)⟩⟩ rfl rfl hl.1 rfl (lv_room (Nat.le_of_ble_eq_true rfl)) dX11_findTruths_38 ⟨Nat.le_of_ble_eq_true rfl, Nat.le_of_ble_eq_true rfl⟩) hS (fun q _ h => hFc q h) hFc (fun u_ t H1 locs ht hvm hw_56 hB hz1 hk1 hS => ?_)
      obtain ⟨gw_57, gh_58, hP1, hK1, hD1⟩ := hB
      rw [ht] at hP1
      have hK1 := va_K.moved hvm.symm hK1
      obtain ⟨hP, hD⟩ := va_join (wr := [(o, .inr (11, [.ref aw, .ref (ab 0), .ref ai, .ref ak, .ref sc, .ref rd, .ref fo, .ref tx, .int ty, .ref ar, .ref at_, .ref ao])), (at_, .inl (ct_, 5, .inl f_21))]) (w1 := [(sc, .inr (7, [.ref sw, .ref sh])), (sw, .inl (csw, 21, .inr (.inl gw_57))), (sh, .inl (csh, 21, .inl gh_58)), ((ab 0), .inr (0, [.ref (ab 1), .ref (ab 3), .ref (ab 5), .ref (ab 7), .ref (ab 9), .int (nI ub)])), ((ab 1), .inr (6, [.int 1, .int 5, .ref (ab 2), .int (nI (zb 0))])), ((ab 2), .inl ((cb 0), 5, .inl (fb 0))), ((ab 3), .inr (6, [.int 4, .int 5, .ref (ab 4), .int (nI (zb 1))])), ((ab 4), .inl ((cb 1), 20, .inl (fb 1))), ((ab 5), .inr (6, [.int 4, .int 8, .ref (ab 6), .int (nI (zb 2))])), ((ab 6), .inl ((cb 2), 32, .inl (fb 2))), (aw, .inl (cw, 6, .inr (.inr (.inr (.inr (tz_w w0 w1 w2 w3 w4 w5)))))), (w0, .inr (4, [])), (w1, .inr (1, [])), (w2, .inr (10, [])), (w3, .inr (3, [])), (w4, .inr (9, [])), (w5, .inr (8, []))]) hP hD [8, 9, 10, 12, 13, 14, 15, 16, 17, 18, 1, 2, 3, 4, 5, 6, 7] [0, 11] rfl rfl (by decide) (by decide) hk1 hFc hP1 hD1
      generalize H1 = H at hP hS ⊢
      have hP : va_P (dC, dI) vwCl [(o, .inr (11, [.ref aw, .ref (ab 0), .ref ai, .ref ak, .ref sc, .ref rd, .ref fo, .ref tx, .int ty, .ref ar, .ref at_, .ref ao])), (at_, .inl (ct_, 5, .inl f_21)), (sc, .inr (7, [.ref sw, .ref sh])), (sw, .inl (csw, 21, .inr (.inl gw_57))), (sh, .inl (csh, 21, .inl gh_58)), ((ab 0), .inr (0, [.ref (ab 1), .ref (ab 3), .ref (ab 5), .ref (ab 7), .ref (ab 9), .int (nI ub)])), ((ab 1), .inr (6, [.int 1, .int 5, .ref (ab 2), .int (nI (zb 0))])), ((ab 2), .inl ((cb 0), 5, .inl (fb 0))), ((ab 3), .inr (6, [.int 4, .int 5, .ref (ab 4), .int (nI (zb 1))])), ((ab 4), .inl ((cb 1), 20, .inl (fb 1))), ((ab 5), .inr (6, [.int 4, .int 8, .ref (ab 6), .int (nI (zb 2))])), ((ab 6), .inl ((cb 2), 32, .inl (fb 2))), (aw, .inl (cw, 6, .inr (.inr (.inr (.inr (tz_w w0 w1 w2 w3 w4 w5)))))), (w0, .inr (4, [])), (w1, .inr (1, [])), (w2, .inr (10, [])), (w3, .inr (3, [])), (w4, .inr (9, [])), (w5, .inr (8, []))] H := hP
      have hD : va_D A [(o, .inr (11, [.ref aw, .ref (ab 0), .ref ai, .ref ak, .ref sc, .ref rd, .ref fo, .ref tx, .int ty, .ref ar, .ref at_, .ref ao])), (at_, .inl (ct_, 5, .inl f_21)), (sc, .inr (7, [.ref sw, .ref sh])), (sw, .inl (csw, 21, .inr (.inl gw_57))), (sh, .inl (csh, 21, .inl gh_58)), ((ab 0), .inr (0, [.ref (ab 1), .ref (ab 3), .ref (ab 5), .ref (ab 7), .ref (ab 9), .int (nI ub)])), ((ab 1), .inr (6, [.int 1, .int 5, .ref (ab 2), .int (nI (zb 0))])), ((ab 2), .inl ((cb 0), 5, .inl (fb 0))), ((ab 3), .inr (6, [.int 4, .int 5, .ref (ab 4), .int (nI (zb 1))])), ((ab 4), .inl ((cb 1), 20, .inl (fb 1))), ((ab 5), .inr (6, [.int 4, .int 8, .ref (ab 6), .int (nI (zb 2))])), ((ab 6), .inl ((cb 2), 32, .inl (fb 2))), (aw, .inl (cw, 6, .inr (.inr (.inr (.inr (tz_w w0 w1 w2 w3 w4 w5)))))), (w0, .inr (4, [])), (w1, .inr (1, [])), (w2, .inr (10, [])), (w3, .inr (3, [])), (w4, .inr (9, [])), (w5, .inr (8, []))] := hD
      refine lv_aload_n hx hb dX11_findTruths_41 rfl (lv_at hl 1 rfl) ?_
      refine va_get (D := (dC, dI)) (ci := 11) (v := .ref at_) (C := RX11) (T := TX11) (N := 12) hx hb hts iw_x_findTruths_X11 hown hK hP 0 rfl rfl 10 (by decide) (hts (.fieldLink RX11 79 "ThriceCounted" "truths" "[I") (by decide +kernel)) (fun _ h9 => h9) rfl dX11_findTruths_42 ?_
      refine lv_iload_n hx hb dX11_findTruths_45 rfl (lv_at hl 0 rfl) ?_
      refine lv_aload_n hx hb dX11_findTruths_46 rfl (lv_at hl 1 rfl) ?_
      refine va_get (D := (dC, dI)) (ci := 11) (v := .ref sc) (C := RX11) (T := TX11) (N := 12) hx hb hts iw_x_findTruths_X11 hown hK hP 0 rfl rfl 4 (by decide) (hts (.fieldLink RX11 49 "ThriceCounted" "scale" "LThriceCounted$Scale;") (by decide +kernel)) (fun _ h9 => h9) rfl dX11_findTruths_47 ?_
      have hPc_59 := hP.sub (ws' := [(sc, .inr (7, [.ref sw, .ref sh])), (sw, .inl (csw, 21, .inr (.inl gw_57))), (sh, .inl (csh, 21, .inl gh_58))]) [2, 3, 4] rfl
      have hKc_60 := hK.sub (tys' := [(csw, .long), (csh, .int)]) [1, 2] rfl
      refine vp_callSi (va_Run.run (va_runV (As := []) (rest := [.int (nI k_1), .ref at_]) ⟨hx, hb, hml, hown, hts⟩ (s_heaviest l dC dI sc sw sh csw gw_57 csh gh_58) (cwV 0 hts gX11_findTruths_X7_heaviest rfl rfl rfl (by decide +kernel) ⟨Nat.le_of_ble_eq_true rfl, Nat.le_of_ble_eq_true rfl⟩) ⟨fun a U g mk q => by obtain ⟨q0, qP, qK⟩ := q; exact ⟨q0, qP, va_K.moved (u := U) (U := U.calling g mk a) (Vm.Alike.refl U.vm) qK⟩, va_recv hK hP (ci := 7) (q0 := 2) rfl rfl, fun U hU hW => ⟨rfl, by rw [hU]; exact hPc_59, va_K.moved hW.alike hKc_60⟩⟩ rfl rfl hl.1 rfl (lv_room (Nat.le_of_ble_eq_true rfl)) dX11_findTruths_50 ⟨Nat.le_of_ble_eq_true rfl, Nat.le_of_ble_eq_true rfl⟩)) (fun r_61 hw_62 => ?_)
      refine va_iast hx hb hK hP hD hS 1 3 rfl rfl (vp_in_nI (n := k_1) (N := 5) (by omega) (by decide)) dX11_findTruths_53 (fun H locs hP hD hS => ?_)
      generalize (upd f_21 (Int32.toNatClampNeg (nI k_1)) r_61) = f_63 at hP hD
      have hP : va_P (dC, dI) vwCl [(o, .inr (11, [.ref aw, .ref (ab 0), .ref ai, .ref ak, .ref sc, .ref rd, .ref fo, .ref tx, .int ty, .ref ar, .ref at_, .ref ao])), (at_, .inl (ct_, 5, .inl f_63)), (sc, .inr (7, [.ref sw, .ref sh])), (sw, .inl (csw, 21, .inr (.inl gw_57))), (sh, .inl (csh, 21, .inl gh_58)), ((ab 0), .inr (0, [.ref (ab 1), .ref (ab 3), .ref (ab 5), .ref (ab 7), .ref (ab 9), .int (nI ub)])), ((ab 1), .inr (6, [.int 1, .int 5, .ref (ab 2), .int (nI (zb 0))])), ((ab 2), .inl ((cb 0), 5, .inl (fb 0))), ((ab 3), .inr (6, [.int 4, .int 5, .ref (ab 4), .int (nI (zb 1))])), ((ab 4), .inl ((cb 1), 20, .inl (fb 1))), ((ab 5), .inr (6, [.int 4, .int 8, .ref (ab 6), .int (nI (zb 2))])), ((ab 6), .inl ((cb 2), 32, .inl (fb 2))), (aw, .inl (cw, 6, .inr (.inr (.inr (.inr (tz_w w0 w1 w2 w3 w4 w5)))))), (w0, .inr (4, [])), (w1, .inr (1, [])), (w2, .inr (10, [])), (w3, .inr (3, [])), (w4, .inr (9, [])), (w5, .inr (8, []))] H := hP
      have hD : va_D A [(o, .inr (11, [.ref aw, .ref (ab 0), .ref ai, .ref ak, .ref sc, .ref rd, .ref fo, .ref tx, .int ty, .ref ar, .ref at_, .ref ao])), (at_, .inl (ct_, 5, .inl f_63)), (sc, .inr (7, [.ref sw, .ref sh])), (sw, .inl (csw, 21, .inr (.inl gw_57))), (sh, .inl (csh, 21, .inl gh_58)), ((ab 0), .inr (0, [.ref (ab 1), .ref (ab 3), .ref (ab 5), .ref (ab 7), .ref (ab 9), .int (nI ub)])), ((ab 1), .inr (6, [.int 1, .int 5, .ref (ab 2), .int (nI (zb 0))])), ((ab 2), .inl ((cb 0), 5, .inl (fb 0))), ((ab 3), .inr (6, [.int 4, .int 5, .ref (ab 4), .int (nI (zb 1))])), ((ab 4), .inl ((cb 1), 20, .inl (fb 1))), ((ab 5), .inr (6, [.int 4, .int 8, .ref (ab 6), .int (nI (zb 2))])), ((ab 6), .inl ((cb 2), 32, .inl (fb 2))), (aw, .inl (cw, 6, .inr (.inr (.inr (.inr (tz_w w0 w1 w2 w3 w4 w5)))))), (w0, .inr (4, [])), (w1, .inr (1, [])), (w2, .inr (10, [])), (w3, .inr (3, [])), (w4, .inr (9, [])), (w5, .inr (8, []))] := hD
      refine lv_iinc (v := (nI (k_1 + 1))) (lv' := [(1, .int (nI (k_1 + 1))), (0, .ref o)]) hx hb dX11_findTruths_54 hl (k := 0) rfl (nI_add k_1 1) (by decide) rfl (fun ls hl => ?_)
      refine lv_goto (tgt := 2) hx hb dX11_findTruths_57 (by decide) ?_
      have hP := hP.sub (ws' := [(o, .inr (11, [.ref aw, .ref (ab 0), .ref ai, .ref ak, .ref sc, .ref rd, .ref fo, .ref tx, .int ty, .ref ar, .ref at_, .ref ao])), (aw, .inl (cw, 6, .inr (.inr (.inr (.inr (tz_w w0 w1 w2 w3 w4 w5)))))), (w0, .inr (4, [])), (w1, .inr (1, [])), (w2, .inr (10, [])), (w3, .inr (3, [])), (w4, .inr (9, [])), (w5, .inr (8, [])), (sc, .inr (7, [.ref sw, .ref sh])), (sw, .inl (csw, 21, .inr (.inl gw_57))), (sh, .inl (csh, 21, .inl gh_58)), (at_, .inl (ct_, 5, .inl f_63)), ((ab 0), .inr (0, [.ref (ab 1), .ref (ab 3), .ref (ab 5), .ref (ab 7), .ref (ab 9), .int (nI ub)])), ((ab 1), .inr (6, [.int 1, .int 5, .ref (ab 2), .int (nI (zb 0))])), ((ab 2), .inl ((cb 0), 5, .inl (fb 0))), ((ab 3), .inr (6, [.int 4, .int 5, .ref (ab 4), .int (nI (zb 1))])), ((ab 4), .inl ((cb 1), 20, .inl (fb 1))), ((ab 5), .inr (6, [.int 4, .int 8, .ref (ab 6), .int (nI (zb 2))])), ((ab 6), .inl ((cb 2), 32, .inl (fb 2)))]) [0, 12, 13, 14, 15, 16, 17, 18, 2, 3, 4, 1, 5, 6, 7, 8, 9, 10, 11] rfl
      have hD := hD.sub (ws' := [(o, .inr (11, [.ref aw, .ref (ab 0), .ref ai, .ref ak, .ref sc, .ref rd, .ref fo, .ref tx, .int ty, .ref ar, .ref at_, .ref ao])), (aw, .inl (cw, 6, .inr (.inr (.inr (.inr (tz_w w0 w1 w2 w3 w4 w5)))))), (w0, .inr (4, [])), (w1, .inr (1, [])), (w2, .inr (10, [])), (w3, .inr (3, [])), (w4, .inr (9, [])), (w5, .inr (8, [])), (sc, .inr (7, [.ref sw, .ref sh])), (sw, .inl (csw, 21, .inr (.inl gw_57))), (sh, .inl (csh, 21, .inl gh_58)), (at_, .inl (ct_, 5, .inl f_63)), ((ab 0), .inr (0, [.ref (ab 1), .ref (ab 3), .ref (ab 5), .ref (ab 7), .ref (ab 9), .int (nI ub)])), ((ab 1), .inr (6, [.int 1, .int 5, .ref (ab 2), .int (nI (zb 0))])), ((ab 2), .inl ((cb 0), 5, .inl (fb 0))), ((ab 3), .inr (6, [.int 4, .int 5, .ref (ab 4), .int (nI (zb 1))])), ((ab 4), .inl ((cb 1), 20, .inl (fb 1))), ((ab 5), .inr (6, [.int 4, .int 8, .ref (ab 6), .int (nI (zb 2))])), ((ab 6), .inl ((cb 2), 32, .inl (fb 2)))]) [0, 12, 13, 14, 15, 16, 17, 18, 2, 3, 4, 1, 5, 6, 7, 8, 9, 10, 11] (by decide) rfl
      exact ih_44 ((k_1 + 1), f_63, gw_57, gh_58, H, locs, ls) ⟨by dsimp only; omega, hP, hD, hS, lv_sub hl [0, 1] rfl⟩ (by dsimp only; omega)
set_option maxRecDepth 20000 in
theorem ggX11_rightLessWrong_X6_size : GoodIn wsX11_rightLessWrong wsX6_size := goodIn_r _ [8, 9, 38, 39, 40, 41] (by decide +kernel) (by decide +kernel)
set_option maxRecDepth 20000 in
theorem gX11_rightLessWrong_X6_size : GoodIn wsX11_rightLessWrong (wsV RX11 89 RX6 yX6_size wsX6_size) := goodIn_app (goodIn_of _ (by decide +kernel)) ggX11_rightLessWrong_X6_size
set_option maxRecDepth 20000 in
theorem ggX11_rightLessWrong_X6_get : GoodIn wsX11_rightLessWrong wsX6_get := goodIn_r _ [13, 14, 15, 16, 17, 18, 7, 19, 9, 38, 39, 40, 41] (by decide +kernel) (by decide +kernel)
set_option maxRecDepth 20000 in
theorem gX11_rightLessWrong_X6_get : GoodIn wsX11_rightLessWrong (wsV RX11 128 RX6 yX6_get wsX6_get) := goodIn_app (goodIn_of _ (by decide +kernel)) ggX11_rightLessWrong_X6_get
theorem dX11_rightLessWrong_0 : decode cX11_rightLessWrong 0 = .ok (.iconst 0, 1) := by decide +kernel
theorem dX11_rightLessWrong_1 : decode cX11_rightLessWrong 1 = .ok (.istore_n 2, 1) := by decide +kernel
theorem dX11_rightLessWrong_2 : decode cX11_rightLessWrong 2 = .ok (.iconst 0, 1) := by decide +kernel
theorem dX11_rightLessWrong_3 : decode cX11_rightLessWrong 3 = .ok (.istore_n 3, 1) := by decide +kernel
theorem dX11_rightLessWrong_4 : decode cX11_rightLessWrong 4 = .ok (.iload_n 3, 1) := by decide +kernel
theorem dX11_rightLessWrong_5 : decode cX11_rightLessWrong 5 = .ok (.aload_n 0, 1) := by decide +kernel
theorem dX11_rightLessWrong_6 : decode cX11_rightLessWrong 6 = .ok (.getfield 34, 3) := by decide +kernel
theorem dX11_rightLessWrong_9 : decode cX11_rightLessWrong 9 = .ok (.getfield 138, 3) := by decide +kernel
theorem dX11_rightLessWrong_12 : decode cX11_rightLessWrong 12 = .ok (.invokevirtual 89, 3) := by decide +kernel
theorem dX11_rightLessWrong_15 : decode cX11_rightLessWrong 15 = .ok (.if_icmp .ge 87, 3) := by decide +kernel
theorem dX11_rightLessWrong_18 : decode cX11_rightLessWrong 18 = .ok (.aload_n 0, 1) := by decide +kernel
theorem dX11_rightLessWrong_19 : decode cX11_rightLessWrong 19 = .ok (.getfield 34, 3) := by decide +kernel
theorem dX11_rightLessWrong_22 : decode cX11_rightLessWrong 22 = .ok (.getfield 138, 3) := by decide +kernel
theorem dX11_rightLessWrong_25 : decode cX11_rightLessWrong 25 = .ok (.iload_n 3, 1) := by decide +kernel
theorem dX11_rightLessWrong_26 : decode cX11_rightLessWrong 26 = .ok (.iconst 0, 1) := by decide +kernel
theorem dX11_rightLessWrong_27 : decode cX11_rightLessWrong 27 = .ok (.invokevirtual 128, 3) := by decide +kernel
theorem dX11_rightLessWrong_30 : decode cX11_rightLessWrong 30 = .ok (.istore 4, 2) := by decide +kernel
theorem dX11_rightLessWrong_32 : decode cX11_rightLessWrong 32 = .ok (.aload_n 0, 1) := by decide +kernel
theorem dX11_rightLessWrong_33 : decode cX11_rightLessWrong 33 = .ok (.getfield 34, 3) := by decide +kernel
theorem dX11_rightLessWrong_36 : decode cX11_rightLessWrong 36 = .ok (.getfield 138, 3) := by decide +kernel
theorem dX11_rightLessWrong_39 : decode cX11_rightLessWrong 39 = .ok (.iload_n 3, 1) := by decide +kernel
theorem dX11_rightLessWrong_40 : decode cX11_rightLessWrong 40 = .ok (.iconst 2, 1) := by decide +kernel
theorem dX11_rightLessWrong_41 : decode cX11_rightLessWrong 41 = .ok (.invokevirtual 128, 3) := by decide +kernel
theorem dX11_rightLessWrong_44 : decode cX11_rightLessWrong 44 = .ok (.iload_n 1, 1) := by decide +kernel
theorem dX11_rightLessWrong_45 : decode cX11_rightLessWrong 45 = .ok (.if_icmp .ne 51, 3) := by decide +kernel
theorem dX11_rightLessWrong_96 : decode cX11_rightLessWrong 96 = .ok (.iinc 3 1, 3) := by decide +kernel
theorem dX11_rightLessWrong_99 : decode cX11_rightLessWrong 99 = .ok (.goto (-95), 3) := by decide +kernel
theorem dX11_rightLessWrong_48 : decode cX11_rightLessWrong 48 = .ok (.iload 4, 2) := by decide +kernel
theorem dX11_rightLessWrong_50 : decode cX11_rightLessWrong 50 = .ok (.ifCond .lt 46, 3) := by decide +kernel
theorem dX11_rightLessWrong_53 : decode cX11_rightLessWrong 53 = .ok (.iload 4, 2) := by decide +kernel
theorem dX11_rightLessWrong_55 : decode cX11_rightLessWrong 55 = .ok (.aload_n 0, 1) := by decide +kernel
theorem dX11_rightLessWrong_56 : decode cX11_rightLessWrong 56 = .ok (.getfield 79, 3) := by decide +kernel
theorem dX11_rightLessWrong_59 : decode cX11_rightLessWrong 59 = .ok (.arraylength, 1) := by decide +kernel
theorem dX11_rightLessWrong_60 : decode cX11_rightLessWrong 60 = .ok (.if_icmp .lt 6, 3) := by decide +kernel
theorem dX11_rightLessWrong_66 : decode cX11_rightLessWrong 66 = .ok (.iload_n 2, 1) := by decide +kernel
theorem dX11_rightLessWrong_67 : decode cX11_rightLessWrong 67 = .ok (.aload_n 0, 1) := by decide +kernel
theorem dX11_rightLessWrong_68 : decode cX11_rightLessWrong 68 = .ok (.getfield 34, 3) := by decide +kernel
theorem dX11_rightLessWrong_71 : decode cX11_rightLessWrong 71 = .ok (.getfield 138, 3) := by decide +kernel
theorem dX11_rightLessWrong_74 : decode cX11_rightLessWrong 74 = .ok (.iload_n 3, 1) := by decide +kernel
theorem dX11_rightLessWrong_75 : decode cX11_rightLessWrong 75 = .ok (.iconst 3, 1) := by decide +kernel
theorem dX11_rightLessWrong_76 : decode cX11_rightLessWrong 76 = .ok (.invokevirtual 128, 3) := by decide +kernel
theorem dX11_rightLessWrong_79 : decode cX11_rightLessWrong 79 = .ok (.aload_n 0, 1) := by decide +kernel
theorem dX11_rightLessWrong_80 : decode cX11_rightLessWrong 80 = .ok (.getfield 79, 3) := by decide +kernel
theorem dX11_rightLessWrong_83 : decode cX11_rightLessWrong 83 = .ok (.iload 4, 2) := by decide +kernel
theorem dX11_rightLessWrong_85 : decode cX11_rightLessWrong 85 = .ok (.iaload, 1) := by decide +kernel
theorem dX11_rightLessWrong_86 : decode cX11_rightLessWrong 86 = .ok (.if_icmp .ne 7, 3) := by decide +kernel
theorem dX11_rightLessWrong_93 : decode cX11_rightLessWrong 93 = .ok (.iconst (-1), 1) := by decide +kernel
theorem dX11_rightLessWrong_94 : decode cX11_rightLessWrong 94 = .ok (.iadd, 1) := by decide +kernel
theorem dX11_rightLessWrong_95 : decode cX11_rightLessWrong 95 = .ok (.istore_n 2, 1) := by decide +kernel
theorem dX11_rightLessWrong_89 : decode cX11_rightLessWrong 89 = .ok (.iconst 1, 1) := by decide +kernel
theorem dX11_rightLessWrong_90 : decode cX11_rightLessWrong 90 = .ok (.goto 4, 3) := by decide +kernel
theorem dX11_rightLessWrong_63 : decode cX11_rightLessWrong 63 = .ok (.goto 33, 3) := by decide +kernel
theorem dX11_rightLessWrong_102 : decode cX11_rightLessWrong 102 = .ok (.iload_n 2, 1) := by decide +kernel
theorem dX11_rightLessWrong_103 : decode cX11_rightLessWrong 103 = .ok (.ireturn, 1) := by decide +kernel
set_option maxRecDepth 20000 in
theorem iw_x_rightLessWrong_X11 : ∀ w ∈ wsX110, w ∈ wsX11_rightLessWrong := by decide +kernel
set_option maxRecDepth 20000 in
theorem iw_x_rightLessWrong_X0 : ∀ w ∈ wsX00, w ∈ wsX11_rightLessWrong := by decide +kernel
set_option maxHeartbeats 4000000 in
set_option maxRecDepth 100000 in
theorem x_rightLessWrong (l : Launch) (dC : Nat → ClassId) (dI : Nat → Nat → Nat) (o : Nat) (aw : Nat) (ab : Nat → Nat) (ai : Nat) (ak : Nat) (sc : Nat) (rd : Nat) (fo : Nat) (tx : Nat) (ty : Int32) (ar : Nat) (at_ : Nat) (ao : Nat) (ct_ : ClassId) (ft_ : Nat → Int32) (ub : Nat) (zb : Nat → Nat) (cb : Nat → ClassId) (fb : Nat → Nat → Int32) (na : Int32) (hB : (∀ i, zb i ≤ tz_lim i) ∧ ub ≤ 8) : Met l yX11_rightLessWrong wsX11_rightLessWrong ({ frames := 2, cells := 0, slots := 0, locals := 44 }) (va_Pc [.ref o, .int na] (fun U => va_P (dC, dI) vwCl [(o, .inr (11, [.ref aw, .ref (ab 0), .ref ai, .ref ak, .ref sc, .ref rd, .ref fo, .ref tx, .int ty, .ref ar, .ref at_, .ref ao])), (at_, .inl (ct_, 5, .inl ft_)), ((ab 0), .inr (0, [.ref (ab 1), .ref (ab 3), .ref (ab 5), .ref (ab 7), .ref (ab 9), .int (nI ub)])), ((ab 5), .inr (6, [.int 4, .int 8, .ref (ab 6), .int (nI (zb 2))])), ((ab 6), .inl ((cb 2), 32, .inl (fb 2)))] U.heap ∧ va_K (dC, dI) vwCl [(ct_, .int), ((cb 2), .int)] U)) (vp_Si (fun r => True)) 0 0 (fun _ => False) := by
  refine Met.ofW (cc := cX11_rightLessWrong) (maxL := 5) (ret := (some .int)) (by decide) rfl ?_
  intro p e s m args below meth c s₁ B hml hv
  obtain ⟨rfl, hP, hK⟩ := hv
  have hx := B.exec
  have hb := B.bytes
  have hr := B.returns
  have hts := atoms_spec (ws := wsX11_rightLessWrong) B.pre
  have hown : s.vm.findClass RX11 = some m.cls := findClass_of_methodNamed B.named
  have hlocks := B.notSynchronized
  have hl := lv_entry ([.ref o, .int na]) (n := 5) (Nat.le_of_ble_eq_true rfl)
  rw [lg_entry_eq]
  generalize (lg_sl ([.ref o, .int na]) ++ List.replicate (5 - (lg_sl ([.ref o, .int na])).length) Slot.unset).toArray = ls at hl ⊢
  have hl : lv_has ls 5 [(0, .ref o), (1, .int na)] := hl
  have hz_zb_0 : zb 0 ≤ 5 := hB.1 0
  have hz_zb_1 : zb 1 ≤ 5 := hB.1 1
  have hz_zb_2 : zb 2 ≤ 8 := hB.1 2
  have hz_zb_3 : zb 3 ≤ 6 := hB.1 3
  have hz_zb_4 : zb 4 ≤ 8 := hB.1 4
  have hz_zb_5 : zb 5 ≤ 8 := hB.1 5
  have hz_zb_6 : zb 6 ≤ 8 := hB.1 6
  have hz_zb_7 : zb 7 ≤ 8 := hB.1 7
  have hz_zb_8 : zb 8 ≤ 8 := hB.1 8
  have hz_zb_9 : zb 9 ≤ 8 := hB.1 9
  have hz_zb_10 : zb 10 ≤ 8 := hB.1 10
  have hz_zb_11 : zb 11 ≤ 8 := hB.1 11
  have hu_zb := hB.2
  refine lv_iconst (v := 0) hx hb dX11_rightLessWrong_0 (by decide) ?_
  refine lv_istore_n (lv' := [(2, .int 0), (0, .ref o), (1, .int na)]) hx hb dX11_rightLessWrong_1 rfl hl (by decide) rfl (fun ls hl => ?_)
  refine lv_iconst (v := 0) hx hb dX11_rightLessWrong_2 (by decide) ?_
  refine lv_istore_n (lv' := [(3, .int 0), (2, .int 0), (0, .ref o), (1, .int na)]) hx hb dX11_rightLessWrong_3 rfl hl (by decide) rfl (fun ls hl => ?_)
  refine tz_while (σ := Nat × Int32 × Array Slot) (fun x => W p l e _ s m _ below meth c _ _ _ _ _ (F0 m 4 x.2.2 [])) (fun x => x.1 ≤ (zb 2) ∧ lv_has x.2.2 5 [(3, .int (nI x.1)), (2, .int x.2.1), (0, .ref o), (1, .int na)]) (fun x => (zb 2) - x.1) ?_ (0, 0, ls) ⟨by (try dsimp only); omega, hl⟩
  rintro ⟨k_1, v_26, ls⟩ ⟨hi_53_0, hl⟩ ih_54
  dsimp only at hi_53_0 hl ih_54 ⊢
  refine lv_iload_n hx hb dX11_rightLessWrong_4 rfl (lv_at hl 0 rfl) ?_
  refine lv_aload_n hx hb dX11_rightLessWrong_5 rfl (lv_at hl 2 rfl) ?_
  refine va_get (D := (dC, dI)) (ci := 11) (v := .ref (ab 0)) (C := RX11) (T := TX11) (N := 12) hx hb hts iw_x_rightLessWrong_X11 hown hK hP 0 rfl rfl 1 (by decide) (hts (.fieldLink RX11 34 "ThriceCounted" "bank" "LThriceCounted$Bank;") (by decide +kernel)) (fun _ h9 => h9) rfl dX11_rightLessWrong_6 ?_
  refine va_get (D := (dC, dI)) (ci := 0) (v := .ref (ab 5)) (C := RX0) (T := TX0) (N := 6) hx hb hts iw_x_rightLessWrong_X0 hown hK hP 2 rfl rfl 2 (by decide) (hts (.fieldLink RX11 138 "ThriceCounted$Bank" "counts" "LThriceCounted$Rows;") (by decide +kernel)) (fun _ h9 => h9) rfl dX11_rightLessWrong_9 ?_
  have hPc_55 := hP.sub (ws' := [((ab 5), .inr (6, [.int 4, .int 8, .ref (ab 6), .int (nI (zb 2))]))]) [3] rfl
  have hKc_56 := hK.sub (tys' := []) [] rfl
  refine vp_callSi (va_Run.run (va_runV (As := []) (rest := [.int (nI k_1)]) ⟨hx, hb, hml, hown, hts⟩ (r_size_32 l dC dI (ab 5) (ab 6) (zb 2)) (cwV 0 hts gX11_rightLessWrong_X6_size rfl rfl rfl (by decide +kernel) ⟨Nat.le_of_ble_eq_true rfl, Nat.le_of_ble_eq_true rfl⟩) ⟨fun a U g mk q => by obtain ⟨q0, qP, qK⟩ := q; exact ⟨q0, qP, va_K.moved (u := U) (U := U.calling g mk a) (Vm.Alike.refl U.vm) qK⟩, va_recv hK hP (ci := 6) (q0 := 3) rfl rfl, fun U hU hW => ⟨rfl, by rw [hU]; exact hPc_55, va_K.moved hW.alike hKc_56⟩⟩ rfl rfl hl.1 rfl (lv_room (Nat.le_of_ble_eq_true rfl)) dX11_rightLessWrong_12 ⟨Nat.le_of_ble_eq_true rfl, Nat.le_of_ble_eq_true rfl⟩)) (fun r_57 hw_58 => ?_)
  obtain rfl : (nI (zb 2)) = r_57 := hw_58.symm
  refine lv_icmp_ge (tgt := 102) hx hb dX11_rightLessWrong_15 (by decide) (fun c_59 => ?_) (fun c_59 => ?_)
  · have hn_60 : (zb 2) ≤ k_1 := (nI_leI (a := (zb 2)) (b := k_1) (by omega) (by omega)).mp c_59
    refine lv_iload_n hx hb dX11_rightLessWrong_102 rfl (lv_at hl 1 rfl) ?_
    exact W.iret (v := v_26) hx hb hr (fun t ht hW => ⟨v_26, rfl, trivial, ht⟩) (fun _ h => absurd h List.not_mem_nil) dX11_rightLessWrong_103
  · have hn_61 : ¬ (zb 2) ≤ k_1 := fun q => c_59 ((nI_leI (a := (zb 2)) (b := k_1) (by omega) (by omega)).mpr q)
    refine lv_aload_n hx hb dX11_rightLessWrong_18 rfl (lv_at hl 2 rfl) ?_
    refine va_get (D := (dC, dI)) (ci := 11) (v := .ref (ab 0)) (C := RX11) (T := TX11) (N := 12) hx hb hts iw_x_rightLessWrong_X11 hown hK hP 0 rfl rfl 1 (by decide) (hts (.fieldLink RX11 34 "ThriceCounted" "bank" "LThriceCounted$Bank;") (by decide +kernel)) (fun _ h9 => h9) rfl dX11_rightLessWrong_19 ?_
    refine va_get (D := (dC, dI)) (ci := 0) (v := .ref (ab 5)) (C := RX0) (T := TX0) (N := 6) hx hb hts iw_x_rightLessWrong_X0 hown hK hP 2 rfl rfl 2 (by decide) (hts (.fieldLink RX11 138 "ThriceCounted$Bank" "counts" "LThriceCounted$Rows;") (by decide +kernel)) (fun _ h9 => h9) rfl dX11_rightLessWrong_22 ?_
    refine lv_iload_n hx hb dX11_rightLessWrong_25 rfl (lv_at hl 0 rfl) ?_
    refine lv_iconst (v := 0) hx hb dX11_rightLessWrong_26 (by decide) ?_
    have hPc_62 := hP.sub (ws' := [((ab 5), .inr (6, [.int 4, .int 8, .ref (ab 6), .int (nI (zb 2))])), ((ab 6), .inl ((cb 2), 32, .inl (fb 2)))]) [3, 4] rfl
    have hKc_63 := hK.sub (tys' := [((cb 2), .int)]) [1] rfl
    refine vp_callSi (va_Run.run (va_runV (As := [.int (nI k_1), .int 0]) (rest := []) ⟨hx, hb, hml, hown, hts⟩ (r_get_32 l dC dI (ab 5) (ab 6) (zb 2) (cb 2) (fb 2) (nI k_1) 0 (by omega)) (cwV 2 hts gX11_rightLessWrong_X6_get rfl rfl rfl (by decide +kernel) ⟨Nat.le_of_ble_eq_true rfl, Nat.le_of_ble_eq_true rfl⟩) ⟨fun a U g mk q => by obtain ⟨q0, qP, qK⟩ := q; exact ⟨q0, qP, va_K.moved (u := U) (U := U.calling g mk a) (Vm.Alike.refl U.vm) qK⟩, va_recv hK hP (ci := 6) (q0 := 3) rfl rfl, fun U hU hW => ⟨rfl, by rw [hU]; exact hPc_62, va_K.moved hW.alike hKc_63⟩⟩ rfl rfl hl.1 rfl (lv_room (Nat.le_of_ble_eq_true rfl)) dX11_rightLessWrong_27 ⟨Nat.le_of_ble_eq_true rfl, Nat.le_of_ble_eq_true rfl⟩)) (fun r_64 hw_65 => ?_)
    refine lv_istore (lv' := [(4, .int r_64), (3, .int (nI k_1)), (2, .int v_26), (0, .ref o), (1, .int na)]) hx hb dX11_rightLessWrong_30 hl (by decide) rfl (fun ls hl => ?_)
    refine lv_aload_n hx hb dX11_rightLessWrong_32 rfl (lv_at hl 3 rfl) ?_
    refine va_get (D := (dC, dI)) (ci := 11) (v := .ref (ab 0)) (C := RX11) (T := TX11) (N := 12) hx hb hts iw_x_rightLessWrong_X11 hown hK hP 0 rfl rfl 1 (by decide) (hts (.fieldLink RX11 34 "ThriceCounted" "bank" "LThriceCounted$Bank;") (by decide +kernel)) (fun _ h9 => h9) rfl dX11_rightLessWrong_33 ?_
    refine va_get (D := (dC, dI)) (ci := 0) (v := .ref (ab 5)) (C := RX0) (T := TX0) (N := 6) hx hb hts iw_x_rightLessWrong_X0 hown hK hP 2 rfl rfl 2 (by decide) (hts (.fieldLink RX11 138 "ThriceCounted$Bank" "counts" "LThriceCounted$Rows;") (by decide +kernel)) (fun _ h9 => h9) rfl dX11_rightLessWrong_36 ?_
    refine lv_iload_n hx hb dX11_rightLessWrong_39 rfl (lv_at hl 1 rfl) ?_
    refine lv_iconst (v := 2) hx hb dX11_rightLessWrong_40 (by decide) ?_
    have hPc_66 := hP.sub (ws' := [((ab 5), .inr (6, [.int 4, .int 8, .ref (ab 6), .int (nI (zb 2))])), ((ab 6), .inl ((cb 2), 32, .inl (fb 2)))]) [3, 4] rfl
    have hKc_67 := hK.sub (tys' := [((cb 2), .int)]) [1] rfl
    refine vp_callSi (va_Run.run (va_runV (As := [.int (nI k_1), .int 2]) (rest := []) ⟨hx, hb, hml, hown, hts⟩ (r_get_32 l dC dI (ab 5) (ab 6) (zb 2) (cb 2) (fb 2) (nI k_1) 2 (by omega)) (cwV 2 hts gX11_rightLessWrong_X6_get rfl rfl rfl (by decide +kernel) ⟨Nat.le_of_ble_eq_true rfl, Nat.le_of_ble_eq_true rfl⟩) ⟨fun a U g mk q => by obtain ⟨q0, qP, qK⟩ := q; exact ⟨q0, qP, va_K.moved (u := U) (U := U.calling g mk a) (Vm.Alike.refl U.vm) qK⟩, va_recv hK hP (ci := 6) (q0 := 3) rfl rfl, fun U hU hW => ⟨rfl, by rw [hU]; exact hPc_66, va_K.moved hW.alike hKc_67⟩⟩ rfl rfl hl.1 rfl (lv_room (Nat.le_of_ble_eq_true rfl)) dX11_rightLessWrong_41 ⟨Nat.le_of_ble_eq_true rfl, Nat.le_of_ble_eq_true rfl⟩)) (fun r_68 hw_69 => ?_)
    refine lv_iload_n hx hb dX11_rightLessWrong_44 rfl (lv_at hl 4 rfl) ?_
    refine lv_icmp_ne (tgt := 96) hx hb dX11_rightLessWrong_45 (by decide) (fun c_70 => ?_) (fun c_70 => ?_)
    · refine lv_iinc (v := (nI (k_1 + 1))) (lv' := [(3, .int (nI (k_1 + 1))), (4, .int r_64), (2, .int v_26), (0, .ref o), (1, .int na)]) hx hb dX11_rightLessWrong_96 hl (k := 1) rfl (nI_add k_1 1) (by decide) rfl (fun ls hl => ?_)
      refine lv_goto (tgt := 4) hx hb dX11_rightLessWrong_99 (by decide) ?_
      exact ih_54 ((k_1 + 1), v_26, ls) ⟨by dsimp only; omega, lv_sub hl [0, 2, 3, 4] rfl⟩ (by dsimp only; omega)
    · refine lv_iload hx hb dX11_rightLessWrong_48 (lv_at hl 0 rfl) ?_
      refine lv_if_lt (tgt := 96) hx hb dX11_rightLessWrong_50 (by decide) (fun c_71 => ?_) (fun c_71 => ?_)
      · refine lv_iinc (v := (nI (k_1 + 1))) (lv' := [(3, .int (nI (k_1 + 1))), (4, .int r_64), (2, .int v_26), (0, .ref o), (1, .int na)]) hx hb dX11_rightLessWrong_96 hl (k := 1) rfl (nI_add k_1 1) (by decide) rfl (fun ls hl => ?_)
        refine lv_goto (tgt := 4) hx hb dX11_rightLessWrong_99 (by decide) ?_
        exact ih_54 ((k_1 + 1), v_26, ls) ⟨by dsimp only; omega, lv_sub hl [0, 2, 3, 4] rfl⟩ (by dsimp only; omega)
      · refine lv_iload hx hb dX11_rightLessWrong_53 (lv_at hl 0 rfl) ?_
        refine lv_aload_n hx hb dX11_rightLessWrong_55 rfl (lv_at hl 3 rfl) ?_
        refine va_get (D := (dC, dI)) (ci := 11) (v := .ref at_) (C := RX11) (T := TX11) (N := 12) hx hb hts iw_x_rightLessWrong_X11 hown hK hP 0 rfl rfl 10 (by decide) (hts (.fieldLink RX11 79 "ThriceCounted" "truths" "[I") (by decide +kernel)) (fun _ h9 => h9) rfl dX11_rightLessWrong_56 ?_
        refine va_alen (v := 5) hx hb hK hP 1 0 rfl rfl rfl dX11_rightLessWrong_59 ?_
        refine lv_icmp_lt (tgt := 66) hx hb dX11_rightLessWrong_60 (by decide) (fun c_72 => ?_) (fun c_72 => ?_)
        · refine lv_iload_n hx hb dX11_rightLessWrong_66 rfl (lv_at hl 2 rfl) ?_
          refine lv_aload_n hx hb dX11_rightLessWrong_67 rfl (lv_at hl 3 rfl) ?_
          refine va_get (D := (dC, dI)) (ci := 11) (v := .ref (ab 0)) (C := RX11) (T := TX11) (N := 12) hx hb hts iw_x_rightLessWrong_X11 hown hK hP 0 rfl rfl 1 (by decide) (hts (.fieldLink RX11 34 "ThriceCounted" "bank" "LThriceCounted$Bank;") (by decide +kernel)) (fun _ h9 => h9) rfl dX11_rightLessWrong_68 ?_
          refine va_get (D := (dC, dI)) (ci := 0) (v := .ref (ab 5)) (C := RX0) (T := TX0) (N := 6) hx hb hts iw_x_rightLessWrong_X0 hown hK hP 2 rfl rfl 2 (by decide) (hts (.fieldLink RX11 138 "ThriceCounted$Bank" "counts" "LThriceCounted$Rows;") (by decide +kernel)) (fun _ h9 => h9) rfl dX11_rightLessWrong_71 ?_
          refine lv_iload_n hx hb dX11_rightLessWrong_74 rfl (lv_at hl 1 rfl) ?_
          refine lv_iconst (v := 3) hx hb dX11_rightLessWrong_75 (by decide) ?_
          have hPc_73 := hP.sub (ws' := [((ab 5), .inr (6, [.int 4, .int 8, .ref (ab 6), .int (nI (zb 2))])), ((ab 6), .inl ((cb 2), 32, .inl (fb 2)))]) [3, 4] rfl
          have hKc_74 := hK.sub (tys' := [((cb 2), .int)]) [1] rfl
          refine vp_callSi (va_Run.run (va_runV (As := [.int (nI k_1), .int 3]) (rest := [.int v_26]) ⟨hx, hb, hml, hown, hts⟩ (r_get_32 l dC dI (ab 5) (ab 6) (zb 2) (cb 2) (fb 2) (nI k_1) 3 (by omega)) (cwV 2 hts gX11_rightLessWrong_X6_get rfl rfl rfl (by decide +kernel) ⟨Nat.le_of_ble_eq_true rfl, Nat.le_of_ble_eq_true rfl⟩) ⟨fun a U g mk q => by obtain ⟨q0, qP, qK⟩ := q; exact ⟨q0, qP, va_K.moved (u := U) (U := U.calling g mk a) (Vm.Alike.refl U.vm) qK⟩, va_recv hK hP (ci := 6) (q0 := 3) rfl rfl, fun U hU hW => ⟨rfl, by rw [hU]; exact hPc_73, va_K.moved hW.alike hKc_74⟩⟩ rfl rfl hl.1 rfl (lv_room (Nat.le_of_ble_eq_true rfl)) dX11_rightLessWrong_76 ⟨Nat.le_of_ble_eq_true rfl, Nat.le_of_ble_eq_true rfl⟩)) (fun r_75 hw_76 => ?_)
          refine lv_aload_n hx hb dX11_rightLessWrong_79 rfl (lv_at hl 3 rfl) ?_
          refine va_get (D := (dC, dI)) (ci := 11) (v := .ref at_) (C := RX11) (T := TX11) (N := 12) hx hb hts iw_x_rightLessWrong_X11 hown hK hP 0 rfl rfl 10 (by decide) (hts (.fieldLink RX11 79 "ThriceCounted" "truths" "[I") (by decide +kernel)) (fun _ h9 => h9) rfl dX11_rightLessWrong_80 ?_
          refine lv_iload hx hb dX11_rightLessWrong_83 (lv_at hl 0 rfl) ?_
          refine va_iald hx hb hK hP 1 0 rfl rfl (tz_in_le c_71 (tz_ltn c_72) (M := 5) (by decide)) dX11_rightLessWrong_85 ?_
          refine lv_topi (fun x_77 _ => ?_)
          refine lv_icmp_ne (tgt := 93) hx hb dX11_rightLessWrong_86 (by decide) (fun c_78 => ?_) (fun c_78 => ?_)
          · refine lv_iconst (v := (-1)) hx hb dX11_rightLessWrong_93 (by decide) ?_
            refine lv_iadd hx hb dX11_rightLessWrong_94 ?_
            refine lv_topi (fun x_79 _ => ?_)
            refine lv_istore_n (lv' := [(2, .int x_79), (4, .int r_64), (3, .int (nI k_1)), (0, .ref o), (1, .int na)]) hx hb dX11_rightLessWrong_95 rfl hl (by decide) rfl (fun ls hl => ?_)
            refine lv_iinc (v := (nI (k_1 + 1))) (lv' := [(3, .int (nI (k_1 + 1))), (2, .int x_79), (4, .int r_64), (0, .ref o), (1, .int na)]) hx hb dX11_rightLessWrong_96 hl (k := 2) rfl (nI_add k_1 1) (by decide) rfl (fun ls hl => ?_)
            refine lv_goto (tgt := 4) hx hb dX11_rightLessWrong_99 (by decide) ?_
            exact ih_54 ((k_1 + 1), x_79, ls) ⟨by dsimp only; omega, lv_sub hl [0, 1, 3, 4] rfl⟩ (by dsimp only; omega)
          · refine lv_iconst (v := 1) hx hb dX11_rightLessWrong_89 (by decide) ?_
            refine lv_goto (tgt := 94) hx hb dX11_rightLessWrong_90 (by decide) ?_
            refine lv_iadd hx hb dX11_rightLessWrong_94 ?_
            refine lv_topi (fun x_80 _ => ?_)
            refine lv_istore_n (lv' := [(2, .int x_80), (4, .int r_64), (3, .int (nI k_1)), (0, .ref o), (1, .int na)]) hx hb dX11_rightLessWrong_95 rfl hl (by decide) rfl (fun ls hl => ?_)
            refine lv_iinc (v := (nI (k_1 + 1))) (lv' := [(3, .int (nI (k_1 + 1))), (2, .int x_80), (4, .int r_64), (0, .ref o), (1, .int na)]) hx hb dX11_rightLessWrong_96 hl (k := 2) rfl (nI_add k_1 1) (by decide) rfl (fun ls hl => ?_)
            refine lv_goto (tgt := 4) hx hb dX11_rightLessWrong_99 (by decide) ?_
            exact ih_54 ((k_1 + 1), x_80, ls) ⟨by dsimp only; omega, lv_sub hl [0, 1, 3, 4] rfl⟩ (by dsimp only; omega)
        · refine lv_goto (tgt := 96) hx hb dX11_rightLessWrong_63 (by decide) ?_
          refine lv_iinc (v := (nI (k_1 + 1))) (lv' := [(3, .int (nI (k_1 + 1))), (4, .int r_64), (2, .int v_26), (0, .ref o), (1, .int na)]) hx hb dX11_rightLessWrong_96 hl (k := 1) rfl (nI_add k_1 1) (by decide) rfl (fun ls hl => ?_)
          refine lv_goto (tgt := 4) hx hb dX11_rightLessWrong_99 (by decide) ?_
          exact ih_54 ((k_1 + 1), v_26, ls) ⟨by dsimp only; omega, lv_sub hl [0, 2, 3, 4] rfl⟩ (by dsimp only; omega)
set_option maxRecDepth 20000 in
theorem iw_x_countsOf_X0 : ∀ w ∈ wsX00, w ∈ wsX0_countsOf := by decide +kernel
set_option maxHeartbeats 4000000 in
set_option maxRecDepth 100000 in
theorem x_countsOf (l : Launch) (dC : Nat → ClassId) (dI : Nat → Nat → Nat) (ab : Nat → Nat) (ub : Nat) (zb : Nat → Nat) (cb : Nat → ClassId) (fb : Nat → Nat → Int32) (na : Int32) (hB : (∀ i, zb i ≤ tz_lim i) ∧ ub ≤ 8) : Met l yX0_countsOf wsX0_countsOf ({ frames := 2, cells := 0, slots := 0, locals := 44 }) (va_Pc [.ref (ab 0), .int na] (fun U => va_P (dC, dI) vwCl [((ab 0), .inr (0, [.ref (ab 1), .ref (ab 3), .ref (ab 5), .ref (ab 7), .ref (ab 9), .int (nI ub)])), ((ab 5), .inr (6, [.int 4, .int 8, .ref (ab 6), .int (nI (zb 2))])), ((ab 6), .inl ((cb 2), 32, .inl (fb 2)))] U.heap ∧ va_K (dC, dI) vwCl [((cb 2), .int)] U)) (vp_Si (fun r => True)) 0 0 (fun _ => False) := by
  refine Met.ofW (cc := cX0_countsOf) (maxL := 4) (ret := (some .int)) (by decide) rfl ?_
  intro p e s m args below meth c s₁ B hml hv
  obtain ⟨rfl, hP, hK⟩ := hv
  have hx := B.exec
  have hb := B.bytes
  have hr := B.returns
  have hts := atoms_spec (ws := wsX0_countsOf) B.pre
  have hown : s.vm.findClass RX0 = some m.cls := findClass_of_methodNamed B.named
  have hlocks := B.notSynchronized
  have hl := lv_entry ([.ref (ab 0), .int na]) (n := 4) (Nat.le_of_ble_eq_true rfl)
  rw [lg_entry_eq]
  generalize (lg_sl ([.ref (ab 0), .int na]) ++ List.replicate (4 - (lg_sl ([.ref (ab 0), .int na])).length) Slot.unset).toArray = ls at hl ⊢
  have hl : lv_has ls 4 [(0, .ref (ab 0)), (1, .int na)] := hl
  have hz_zb_0 : zb 0 ≤ 5 := hB.1 0
  have hz_zb_1 : zb 1 ≤ 5 := hB.1 1
  have hz_zb_2 : zb 2 ≤ 8 := hB.1 2
  have hz_zb_3 : zb 3 ≤ 6 := hB.1 3
  have hz_zb_4 : zb 4 ≤ 8 := hB.1 4
  have hz_zb_5 : zb 5 ≤ 8 := hB.1 5
  have hz_zb_6 : zb 6 ≤ 8 := hB.1 6
  have hz_zb_7 : zb 7 ≤ 8 := hB.1 7
  have hz_zb_8 : zb 8 ≤ 8 := hB.1 8
  have hz_zb_9 : zb 9 ≤ 8 := hB.1 9
  have hz_zb_10 : zb 10 ≤ 8 := hB.1 10
  have hz_zb_11 : zb 11 ≤ 8 := hB.1 11
  have hu_zb := hB.2
  refine lv_iconst (v := 0) hx hb dX0_countsOf_0 (by decide) ?_
  refine lv_istore_n (lv' := [(2, .int 0), (0, .ref (ab 0)), (1, .int na)]) hx hb dX0_countsOf_1 rfl hl (by decide) rfl (fun ls hl => ?_)
  refine lv_iconst (v := 0) hx hb dX0_countsOf_2 (by decide) ?_
  refine lv_istore_n (lv' := [(3, .int 0), (2, .int 0), (0, .ref (ab 0)), (1, .int na)]) hx hb dX0_countsOf_3 rfl hl (by decide) rfl (fun ls hl => ?_)
  refine tz_while (σ := Nat × Int32 × Array Slot) (fun x => W p l e _ s m _ below meth c _ _ _ _ _ (F0 m 4 x.2.2 [])) (fun x => x.1 ≤ (zb 2) ∧ lv_has x.2.2 4 [(3, .int (nI x.1)), (2, .int x.2.1), (0, .ref (ab 0)), (1, .int na)]) (fun x => (zb 2) - x.1) ?_ (0, 0, ls) ⟨by (try dsimp only); omega, hl⟩
  rintro ⟨k_1, v_14, ls⟩ ⟨hi_27_0, hl⟩ ih_28
  dsimp only at hi_27_0 hl ih_28 ⊢
  refine lv_iload_n hx hb dX0_countsOf_4 rfl (lv_at hl 0 rfl) ?_
  refine lv_aload_n hx hb dX0_countsOf_5 rfl (lv_at hl 2 rfl) ?_
  refine va_get (D := (dC, dI)) (ci := 0) (v := .ref (ab 5)) (C := RX0) (T := TX0) (N := 6) hx hb hts iw_x_countsOf_X0 hown hK hP 0 rfl rfl 2 (by decide) (hts (.fieldLink RX0 23 "ThriceCounted$Bank" "counts" "LThriceCounted$Rows;") (by decide +kernel)) (fun _ h9 => h9) rfl dX0_countsOf_6 ?_
  have hPc_29 := hP.sub (ws' := [((ab 5), .inr (6, [.int 4, .int 8, .ref (ab 6), .int (nI (zb 2))]))]) [1] rfl
  have hKc_30 := hK.sub (tys' := []) [] rfl
  refine vp_callSi (va_Run.run (va_runV (As := []) (rest := [.int (nI k_1)]) ⟨hx, hb, hml, hown, hts⟩ (r_size_32 l dC dI (ab 5) (ab 6) (zb 2)) (cwV 0 hts gX0_countsOf_X6_size rfl rfl rfl (by decide +kernel) ⟨Nat.le_of_ble_eq_true rfl, Nat.le_of_ble_eq_true rfl⟩) ⟨fun a U g mk q => by obtain ⟨q0, qP, qK⟩ := q; exact ⟨q0, qP, va_K.moved (u := U) (U := U.calling g mk a) (Vm.Alike.refl U.vm) qK⟩, va_recv hK hP (ci := 6) (q0 := 1) rfl rfl, fun U hU hW => ⟨rfl, by rw [hU]; exact hPc_29, va_K.moved hW.alike hKc_30⟩⟩ rfl rfl hl.1 rfl (lv_room (Nat.le_of_ble_eq_true rfl)) dX0_countsOf_9 ⟨Nat.le_of_ble_eq_true rfl, Nat.le_of_ble_eq_true rfl⟩)) (fun r_31 hw_32 => ?_)
  obtain rfl : (nI (zb 2)) = r_31 := hw_32.symm
  refine lv_icmp_ge (tgt := 37) hx hb dX0_countsOf_12 (by decide) (fun c_33 => ?_) (fun c_33 => ?_)
  · have hn_34 : (zb 2) ≤ k_1 := (nI_leI (a := (zb 2)) (b := k_1) (by omega) (by omega)).mp c_33
    refine lv_iload_n hx hb dX0_countsOf_37 rfl (lv_at hl 1 rfl) ?_
    exact W.iret (v := v_14) hx hb hr (fun t ht hW => ⟨v_14, rfl, trivial, ht⟩) (fun _ h => absurd h List.not_mem_nil) dX0_countsOf_38
  · have hn_35 : ¬ (zb 2) ≤ k_1 := fun q => c_33 ((nI_leI (a := (zb 2)) (b := k_1) (by omega) (by omega)).mpr q)
    refine lv_aload_n hx hb dX0_countsOf_15 rfl (lv_at hl 2 rfl) ?_
    refine va_get (D := (dC, dI)) (ci := 0) (v := .ref (ab 5)) (C := RX0) (T := TX0) (N := 6) hx hb hts iw_x_countsOf_X0 hown hK hP 0 rfl rfl 2 (by decide) (hts (.fieldLink RX0 23 "ThriceCounted$Bank" "counts" "LThriceCounted$Rows;") (by decide +kernel)) (fun _ h9 => h9) rfl dX0_countsOf_16 ?_
    refine lv_iload_n hx hb dX0_countsOf_19 rfl (lv_at hl 0 rfl) ?_
    refine lv_iconst (v := 0) hx hb dX0_countsOf_20 (by decide) ?_
    have hPc_36 := hP.sub (ws' := [((ab 5), .inr (6, [.int 4, .int 8, .ref (ab 6), .int (nI (zb 2))])), ((ab 6), .inl ((cb 2), 32, .inl (fb 2)))]) [1, 2] rfl
    have hKc_37 := hK.sub (tys' := [((cb 2), .int)]) [0] rfl
    refine vp_callSi (va_Run.run (va_runV (As := [.int (nI k_1), .int 0]) (rest := []) ⟨hx, hb, hml, hown, hts⟩ (r_get_32 l dC dI (ab 5) (ab 6) (zb 2) (cb 2) (fb 2) (nI k_1) 0 (by omega)) (cwV 2 hts gX0_countsOf_X6_get rfl rfl rfl (by decide +kernel) ⟨Nat.le_of_ble_eq_true rfl, Nat.le_of_ble_eq_true rfl⟩) ⟨fun a U g mk q => by obtain ⟨q0, qP, qK⟩ := q; exact ⟨q0, qP, va_K.moved (u := U) (U := U.calling g mk a) (Vm.Alike.refl U.vm) qK⟩, va_recv hK hP (ci := 6) (q0 := 1) rfl rfl, fun U hU hW => ⟨rfl, by rw [hU]; exact hPc_36, va_K.moved hW.alike hKc_37⟩⟩ rfl rfl hl.1 rfl (lv_room (Nat.le_of_ble_eq_true rfl)) dX0_countsOf_21 ⟨Nat.le_of_ble_eq_true rfl, Nat.le_of_ble_eq_true rfl⟩)) (fun r_38 hw_39 => ?_)
    refine lv_iload_n hx hb dX0_countsOf_24 rfl (lv_at hl 3 rfl) ?_
    refine lv_icmp_ne (tgt := 31) hx hb dX0_countsOf_25 (by decide) (fun c_40 => ?_) (fun c_40 => ?_)
    · refine lv_iinc (v := (nI (k_1 + 1))) (lv' := [(3, .int (nI (k_1 + 1))), (2, .int v_14), (0, .ref (ab 0)), (1, .int na)]) hx hb dX0_countsOf_31 hl (k := 0) rfl (nI_add k_1 1) (by decide) rfl (fun ls hl => ?_)
      refine lv_goto (tgt := 4) hx hb dX0_countsOf_34 (by decide) ?_
      exact ih_28 ((k_1 + 1), v_14, ls) ⟨by dsimp only; omega, lv_sub hl [0, 1, 2, 3] rfl⟩ (by dsimp only; omega)
    · refine lv_iinc (v := (v_14 + 1)) (lv' := [(2, .int (v_14 + 1)), (3, .int (nI k_1)), (0, .ref (ab 0)), (1, .int na)]) hx hb dX0_countsOf_28 hl (k := 1) rfl rfl (by decide) rfl (fun ls hl => ?_)
      refine lv_iinc (v := (nI (k_1 + 1))) (lv' := [(3, .int (nI (k_1 + 1))), (2, .int (v_14 + 1)), (0, .ref (ab 0)), (1, .int na)]) hx hb dX0_countsOf_31 hl (k := 1) rfl (nI_add k_1 1) (by decide) rfl (fun ls hl => ?_)
      refine lv_goto (tgt := 4) hx hb dX0_countsOf_34 (by decide) ?_
      exact ih_28 ((k_1 + 1), (v_14 + 1), ls) ⟨by dsimp only; omega, lv_sub hl [0, 1, 2, 3] rfl⟩ (by dsimp only; omega)
set_option maxRecDepth 20000 in
theorem ggX11_offTogether_X6_get : GoodIn wsX11_offTogether wsX6_get := goodIn_r _ [7, 8, 9, 10, 11, 12, 6, 13, 14, 33, 34, 35, 36] (by decide +kernel) (by decide +kernel)
set_option maxRecDepth 20000 in
theorem gX11_offTogether_X6_get : GoodIn wsX11_offTogether (wsV RX11 128 RX6 yX6_get wsX6_get) := goodIn_app (goodIn_of _ (by decide +kernel)) ggX11_offTogether_X6_get
theorem dX11_offTogether_0 : decode cX11_offTogether 0 = .ok (.aload_n 0, 1) := by decide +kernel
theorem dX11_offTogether_1 : decode cX11_offTogether 1 = .ok (.getfield 34, 3) := by decide +kernel
theorem dX11_offTogether_4 : decode cX11_offTogether 4 = .ok (.getfield 227, 3) := by decide +kernel
theorem dX11_offTogether_7 : decode cX11_offTogether 7 = .ok (.iload_n 1, 1) := by decide +kernel
theorem dX11_offTogether_8 : decode cX11_offTogether 8 = .ok (.iconst 0, 1) := by decide +kernel
theorem dX11_offTogether_9 : decode cX11_offTogether 9 = .ok (.invokevirtual 128, 3) := by decide +kernel
theorem dX11_offTogether_12 : decode cX11_offTogether 12 = .ok (.istore_n 3, 1) := by decide +kernel
theorem dX11_offTogether_13 : decode cX11_offTogether 13 = .ok (.iload_n 1, 1) := by decide +kernel
theorem dX11_offTogether_14 : decode cX11_offTogether 14 = .ok (.iload_n 2, 1) := by decide +kernel
theorem dX11_offTogether_15 : decode cX11_offTogether 15 = .ok (.if_icmp .ne 7, 3) := by decide +kernel
theorem dX11_offTogether_22 : decode cX11_offTogether 22 = .ok (.iload_n 3, 1) := by decide +kernel
theorem dX11_offTogether_23 : decode cX11_offTogether 23 = .ok (.aload_n 0, 1) := by decide +kernel
theorem dX11_offTogether_24 : decode cX11_offTogether 24 = .ok (.getfield 34, 3) := by decide +kernel
theorem dX11_offTogether_27 : decode cX11_offTogether 27 = .ok (.getfield 227, 3) := by decide +kernel
theorem dX11_offTogether_30 : decode cX11_offTogether 30 = .ok (.iload_n 2, 1) := by decide +kernel
theorem dX11_offTogether_31 : decode cX11_offTogether 31 = .ok (.iconst 0, 1) := by decide +kernel
theorem dX11_offTogether_32 : decode cX11_offTogether 32 = .ok (.invokevirtual 128, 3) := by decide +kernel
theorem dX11_offTogether_35 : decode cX11_offTogether 35 = .ok (.iadd, 1) := by decide +kernel
theorem dX11_offTogether_36 : decode cX11_offTogether 36 = .ok (.ireturn, 1) := by decide +kernel
theorem dX11_offTogether_18 : decode cX11_offTogether 18 = .ok (.iload_n 3, 1) := by decide +kernel
theorem dX11_offTogether_19 : decode cX11_offTogether 19 = .ok (.goto 17, 3) := by decide +kernel
set_option maxRecDepth 20000 in
theorem iw_x_offTogether_X11 : ∀ w ∈ wsX110, w ∈ wsX11_offTogether := by decide +kernel
set_option maxRecDepth 20000 in
theorem iw_x_offTogether_X0 : ∀ w ∈ wsX00, w ∈ wsX11_offTogether := by decide +kernel
set_option maxHeartbeats 4000000 in
set_option maxRecDepth 100000 in
theorem x_offTogether (l : Launch) (dC : Nat → ClassId) (dI : Nat → Nat → Nat) (o : Nat) (aw : Nat) (ab : Nat → Nat) (ai : Nat) (ak : Nat) (sc : Nat) (rd : Nat) (fo : Nat) (tx : Nat) (ty : Int32) (ar : Nat) (at_ : Nat) (ao : Nat) (ub : Nat) (zb : Nat → Nat) (cb : Nat → ClassId) (fb : Nat → Nat → Int32) (na : Int32) (nb : Int32) (hB : (∀ i, zb i ≤ tz_lim i) ∧ ub ≤ 8) : Met l yX11_offTogether wsX11_offTogether ({ frames := 2, cells := 0, slots := 0, locals := 44 }) (va_Pc [.ref o, .int na, .int nb] (fun U => va_P (dC, dI) vwCl [(o, .inr (11, [.ref aw, .ref (ab 0), .ref ai, .ref ak, .ref sc, .ref rd, .ref fo, .ref tx, .int ty, .ref ar, .ref at_, .ref ao])), ((ab 0), .inr (0, [.ref (ab 1), .ref (ab 3), .ref (ab 5), .ref (ab 7), .ref (ab 9), .int (nI ub)])), ((ab 7), .inr (6, [.int 4, .int 6, .ref (ab 8), .int (nI (zb 3))])), ((ab 8), .inl ((cb 3), 24, .inl (fb 3)))] U.heap ∧ va_K (dC, dI) vwCl [((cb 3), .int)] U)) (vp_Si (fun r => True)) 0 0 (fun _ => False) := by
  refine Met.ofW (cc := cX11_offTogether) (maxL := 4) (ret := (some .int)) (by decide) rfl ?_
  intro p e s m args below meth c s₁ B hml hv
  obtain ⟨rfl, hP, hK⟩ := hv
  have hx := B.exec
  have hb := B.bytes
  have hr := B.returns
  have hts := atoms_spec (ws := wsX11_offTogether) B.pre
  have hown : s.vm.findClass RX11 = some m.cls := findClass_of_methodNamed B.named
  have hlocks := B.notSynchronized
  have hl := lv_entry ([.ref o, .int na, .int nb]) (n := 4) (Nat.le_of_ble_eq_true rfl)
  rw [lg_entry_eq]
  generalize (lg_sl ([.ref o, .int na, .int nb]) ++ List.replicate (4 - (lg_sl ([.ref o, .int na, .int nb])).length) Slot.unset).toArray = ls at hl ⊢
  have hl : lv_has ls 4 [(0, .ref o), (1, .int na), (2, .int nb)] := hl
  have hz_zb_0 : zb 0 ≤ 5 := hB.1 0
  have hz_zb_1 : zb 1 ≤ 5 := hB.1 1
  have hz_zb_2 : zb 2 ≤ 8 := hB.1 2
  have hz_zb_3 : zb 3 ≤ 6 := hB.1 3
  have hz_zb_4 : zb 4 ≤ 8 := hB.1 4
  have hz_zb_5 : zb 5 ≤ 8 := hB.1 5
  have hz_zb_6 : zb 6 ≤ 8 := hB.1 6
  have hz_zb_7 : zb 7 ≤ 8 := hB.1 7
  have hz_zb_8 : zb 8 ≤ 8 := hB.1 8
  have hz_zb_9 : zb 9 ≤ 8 := hB.1 9
  have hz_zb_10 : zb 10 ≤ 8 := hB.1 10
  have hz_zb_11 : zb 11 ≤ 8 := hB.1 11
  have hu_zb := hB.2
  refine lv_aload_n hx hb dX11_offTogether_0 rfl (lv_at hl 0 rfl) ?_
  refine va_get (D := (dC, dI)) (ci := 11) (v := .ref (ab 0)) (C := RX11) (T := TX11) (N := 12) hx hb hts iw_x_offTogether_X11 hown hK hP 0 rfl rfl 1 (by decide) (hts (.fieldLink RX11 34 "ThriceCounted" "bank" "LThriceCounted$Bank;") (by decide +kernel)) (fun _ h9 => h9) rfl dX11_offTogether_1 ?_
  refine va_get (D := (dC, dI)) (ci := 0) (v := .ref (ab 7)) (C := RX0) (T := TX0) (N := 6) hx hb hts iw_x_offTogether_X0 hown hK hP 1 rfl rfl 3 (by decide) (hts (.fieldLink RX11 227 "ThriceCounted$Bank" "causes" "LThriceCounted$Rows;") (by decide +kernel)) (fun _ h9 => h9) rfl dX11_offTogether_4 ?_
  refine lv_iload_n hx hb dX11_offTogether_7 rfl (lv_at hl 1 rfl) ?_
  refine lv_iconst (v := 0) hx hb dX11_offTogether_8 (by decide) ?_
  have hPc_1 := hP.sub (ws' := [((ab 7), .inr (6, [.int 4, .int 6, .ref (ab 8), .int (nI (zb 3))])), ((ab 8), .inl ((cb 3), 24, .inl (fb 3)))]) [2, 3] rfl
  have hKc_2 := hK.sub (tys' := [((cb 3), .int)]) [0] rfl
  refine vp_callSi (va_Run.run (va_runV (As := [.int na, .int 0]) (rest := []) ⟨hx, hb, hml, hown, hts⟩ (r_get_24 l dC dI (ab 7) (ab 8) (zb 3) (cb 3) (fb 3) na 0 (by omega)) (cwV 2 hts gX11_offTogether_X6_get rfl rfl rfl (by decide +kernel) ⟨Nat.le_of_ble_eq_true rfl, Nat.le_of_ble_eq_true rfl⟩) ⟨fun a U g mk q => by obtain ⟨q0, qP, qK⟩ := q; exact ⟨q0, qP, va_K.moved (u := U) (U := U.calling g mk a) (Vm.Alike.refl U.vm) qK⟩, va_recv hK hP (ci := 6) (q0 := 2) rfl rfl, fun U hU hW => ⟨rfl, by rw [hU]; exact hPc_1, va_K.moved hW.alike hKc_2⟩⟩ rfl rfl hl.1 rfl (lv_room (Nat.le_of_ble_eq_true rfl)) dX11_offTogether_9 ⟨Nat.le_of_ble_eq_true rfl, Nat.le_of_ble_eq_true rfl⟩)) (fun r_3 hw_4 => ?_)
  refine lv_istore_n (lv' := [(3, .int r_3), (0, .ref o), (1, .int na), (2, .int nb)]) hx hb dX11_offTogether_12 rfl hl (by decide) rfl (fun ls hl => ?_)
  refine lv_iload_n hx hb dX11_offTogether_13 rfl (lv_at hl 2 rfl) ?_
  refine lv_iload_n hx hb dX11_offTogether_14 rfl (lv_at hl 3 rfl) ?_
  refine lv_icmp_ne (tgt := 22) hx hb dX11_offTogether_15 (by decide) (fun c_5 => ?_) (fun c_5 => ?_)
  · refine lv_iload_n hx hb dX11_offTogether_22 rfl (lv_at hl 0 rfl) ?_
    refine lv_aload_n hx hb dX11_offTogether_23 rfl (lv_at hl 1 rfl) ?_
    refine va_get (D := (dC, dI)) (ci := 11) (v := .ref (ab 0)) (C := RX11) (T := TX11) (N := 12) hx hb hts iw_x_offTogether_X11 hown hK hP 0 rfl rfl 1 (by decide) (hts (.fieldLink RX11 34 "ThriceCounted" "bank" "LThriceCounted$Bank;") (by decide +kernel)) (fun _ h9 => h9) rfl dX11_offTogether_24 ?_
    refine va_get (D := (dC, dI)) (ci := 0) (v := .ref (ab 7)) (C := RX0) (T := TX0) (N := 6) hx hb hts iw_x_offTogether_X0 hown hK hP 1 rfl rfl 3 (by decide) (hts (.fieldLink RX11 227 "ThriceCounted$Bank" "causes" "LThriceCounted$Rows;") (by decide +kernel)) (fun _ h9 => h9) rfl dX11_offTogether_27 ?_
    refine lv_iload_n hx hb dX11_offTogether_30 rfl (lv_at hl 3 rfl) ?_
    refine lv_iconst (v := 0) hx hb dX11_offTogether_31 (by decide) ?_
    have hPc_6 := hP.sub (ws' := [((ab 7), .inr (6, [.int 4, .int 6, .ref (ab 8), .int (nI (zb 3))])), ((ab 8), .inl ((cb 3), 24, .inl (fb 3)))]) [2, 3] rfl
    have hKc_7 := hK.sub (tys' := [((cb 3), .int)]) [0] rfl
    refine vp_callSi (va_Run.run (va_runV (As := [.int nb, .int 0]) (rest := [.int r_3]) ⟨hx, hb, hml, hown, hts⟩ (r_get_24 l dC dI (ab 7) (ab 8) (zb 3) (cb 3) (fb 3) nb 0 (by omega)) (cwV 2 hts gX11_offTogether_X6_get rfl rfl rfl (by decide +kernel) ⟨Nat.le_of_ble_eq_true rfl, Nat.le_of_ble_eq_true rfl⟩) ⟨fun a U g mk q => by obtain ⟨q0, qP, qK⟩ := q; exact ⟨q0, qP, va_K.moved (u := U) (U := U.calling g mk a) (Vm.Alike.refl U.vm) qK⟩, va_recv hK hP (ci := 6) (q0 := 2) rfl rfl, fun U hU hW => ⟨rfl, by rw [hU]; exact hPc_6, va_K.moved hW.alike hKc_7⟩⟩ rfl rfl hl.1 rfl (lv_room (Nat.le_of_ble_eq_true rfl)) dX11_offTogether_32 ⟨Nat.le_of_ble_eq_true rfl, Nat.le_of_ble_eq_true rfl⟩)) (fun r_8 hw_9 => ?_)
    refine lv_iadd hx hb dX11_offTogether_35 ?_
    refine lv_topi (fun x_10 _ => ?_)
    exact W.iret (v := x_10) hx hb hr (fun t ht hW => ⟨x_10, rfl, trivial, ht⟩) (fun _ h => absurd h List.not_mem_nil) dX11_offTogether_36
  · refine lv_iload_n hx hb dX11_offTogether_18 rfl (lv_at hl 0 rfl) ?_
    refine lv_goto (tgt := 36) hx hb dX11_offTogether_19 (by decide) ?_
    exact W.iret (v := r_3) hx hb hr (fun t ht hW => ⟨r_3, rfl, trivial, ht⟩) (fun _ h => absurd h List.not_mem_nil) dX11_offTogether_36
set_option maxRecDepth 20000 in
theorem ggX11_oddsTogether_X6_get : GoodIn wsX11_oddsTogether wsX6_get := goodIn_r _ [7, 8, 9, 10, 11, 12, 6, 13, 14, 33, 34, 35, 36] (by decide +kernel) (by decide +kernel)
set_option maxRecDepth 20000 in
theorem gX11_oddsTogether_X6_get : GoodIn wsX11_oddsTogether (wsV RX11 128 RX6 yX6_get wsX6_get) := goodIn_app (goodIn_of _ (by decide +kernel)) ggX11_oddsTogether_X6_get
theorem dX11_oddsTogether_0 : decode cX11_oddsTogether 0 = .ok (.aload_n 0, 1) := by decide +kernel
theorem dX11_oddsTogether_1 : decode cX11_oddsTogether 1 = .ok (.getfield 34, 3) := by decide +kernel
theorem dX11_oddsTogether_4 : decode cX11_oddsTogether 4 = .ok (.getfield 227, 3) := by decide +kernel
theorem dX11_oddsTogether_7 : decode cX11_oddsTogether 7 = .ok (.iload_n 1, 1) := by decide +kernel
theorem dX11_oddsTogether_8 : decode cX11_oddsTogether 8 = .ok (.iconst 1, 1) := by decide +kernel
theorem dX11_oddsTogether_9 : decode cX11_oddsTogether 9 = .ok (.invokevirtual 128, 3) := by decide +kernel
theorem dX11_oddsTogether_12 : decode cX11_oddsTogether 12 = .ok (.istore_n 3, 1) := by decide +kernel
theorem dX11_oddsTogether_13 : decode cX11_oddsTogether 13 = .ok (.iload_n 1, 1) := by decide +kernel
theorem dX11_oddsTogether_14 : decode cX11_oddsTogether 14 = .ok (.iload_n 2, 1) := by decide +kernel
theorem dX11_oddsTogether_15 : decode cX11_oddsTogether 15 = .ok (.if_icmp .ne 7, 3) := by decide +kernel
theorem dX11_oddsTogether_22 : decode cX11_oddsTogether 22 = .ok (.iload_n 3, 1) := by decide +kernel
theorem dX11_oddsTogether_23 : decode cX11_oddsTogether 23 = .ok (.aload_n 0, 1) := by decide +kernel
theorem dX11_oddsTogether_24 : decode cX11_oddsTogether 24 = .ok (.getfield 34, 3) := by decide +kernel
theorem dX11_oddsTogether_27 : decode cX11_oddsTogether 27 = .ok (.getfield 227, 3) := by decide +kernel
theorem dX11_oddsTogether_30 : decode cX11_oddsTogether 30 = .ok (.iload_n 2, 1) := by decide +kernel
theorem dX11_oddsTogether_31 : decode cX11_oddsTogether 31 = .ok (.iconst 1, 1) := by decide +kernel
theorem dX11_oddsTogether_32 : decode cX11_oddsTogether 32 = .ok (.invokevirtual 128, 3) := by decide +kernel
theorem dX11_oddsTogether_35 : decode cX11_oddsTogether 35 = .ok (.imul, 1) := by decide +kernel
theorem dX11_oddsTogether_36 : decode cX11_oddsTogether 36 = .ok (.bipush 20, 2) := by decide +kernel
theorem dX11_oddsTogether_38 : decode cX11_oddsTogether 38 = .ok (.idiv, 1) := by decide +kernel
theorem dX11_oddsTogether_39 : decode cX11_oddsTogether 39 = .ok (.ireturn, 1) := by decide +kernel
theorem dX11_oddsTogether_18 : decode cX11_oddsTogether 18 = .ok (.iload_n 3, 1) := by decide +kernel
theorem dX11_oddsTogether_19 : decode cX11_oddsTogether 19 = .ok (.goto 20, 3) := by decide +kernel
set_option maxRecDepth 20000 in
theorem iw_x_oddsTogether_X11 : ∀ w ∈ wsX110, w ∈ wsX11_oddsTogether := by decide +kernel
set_option maxRecDepth 20000 in
theorem iw_x_oddsTogether_X0 : ∀ w ∈ wsX00, w ∈ wsX11_oddsTogether := by decide +kernel
set_option maxHeartbeats 4000000 in
set_option maxRecDepth 100000 in
theorem x_oddsTogether (l : Launch) (dC : Nat → ClassId) (dI : Nat → Nat → Nat) (o : Nat) (aw : Nat) (ab : Nat → Nat) (ai : Nat) (ak : Nat) (sc : Nat) (rd : Nat) (fo : Nat) (tx : Nat) (ty : Int32) (ar : Nat) (at_ : Nat) (ao : Nat) (ub : Nat) (zb : Nat → Nat) (cb : Nat → ClassId) (fb : Nat → Nat → Int32) (na : Int32) (nb : Int32) (hB : (∀ i, zb i ≤ tz_lim i) ∧ ub ≤ 8) : Met l yX11_oddsTogether wsX11_oddsTogether ({ frames := 2, cells := 0, slots := 0, locals := 44 }) (va_Pc [.ref o, .int na, .int nb] (fun U => va_P (dC, dI) vwCl [(o, .inr (11, [.ref aw, .ref (ab 0), .ref ai, .ref ak, .ref sc, .ref rd, .ref fo, .ref tx, .int ty, .ref ar, .ref at_, .ref ao])), ((ab 0), .inr (0, [.ref (ab 1), .ref (ab 3), .ref (ab 5), .ref (ab 7), .ref (ab 9), .int (nI ub)])), ((ab 7), .inr (6, [.int 4, .int 6, .ref (ab 8), .int (nI (zb 3))])), ((ab 8), .inl ((cb 3), 24, .inl (fb 3)))] U.heap ∧ va_K (dC, dI) vwCl [((cb 3), .int)] U)) (vp_Si (fun r => True)) 0 0 (fun _ => False) := by
  refine Met.ofW (cc := cX11_oddsTogether) (maxL := 4) (ret := (some .int)) (by decide) rfl ?_
  intro p e s m args below meth c s₁ B hml hv
  obtain ⟨rfl, hP, hK⟩ := hv
  have hx := B.exec
  have hb := B.bytes
  have hr := B.returns
  have hts := atoms_spec (ws := wsX11_oddsTogether) B.pre
  have hown : s.vm.findClass RX11 = some m.cls := findClass_of_methodNamed B.named
  have hlocks := B.notSynchronized
  have hl := lv_entry ([.ref o, .int na, .int nb]) (n := 4) (Nat.le_of_ble_eq_true rfl)
  rw [lg_entry_eq]
  generalize (lg_sl ([.ref o, .int na, .int nb]) ++ List.replicate (4 - (lg_sl ([.ref o, .int na, .int nb])).length) Slot.unset).toArray = ls at hl ⊢
  have hl : lv_has ls 4 [(0, .ref o), (1, .int na), (2, .int nb)] := hl
  have hz_zb_0 : zb 0 ≤ 5 := hB.1 0
  have hz_zb_1 : zb 1 ≤ 5 := hB.1 1
  have hz_zb_2 : zb 2 ≤ 8 := hB.1 2
  have hz_zb_3 : zb 3 ≤ 6 := hB.1 3
  have hz_zb_4 : zb 4 ≤ 8 := hB.1 4
  have hz_zb_5 : zb 5 ≤ 8 := hB.1 5
  have hz_zb_6 : zb 6 ≤ 8 := hB.1 6
  have hz_zb_7 : zb 7 ≤ 8 := hB.1 7
  have hz_zb_8 : zb 8 ≤ 8 := hB.1 8
  have hz_zb_9 : zb 9 ≤ 8 := hB.1 9
  have hz_zb_10 : zb 10 ≤ 8 := hB.1 10
  have hz_zb_11 : zb 11 ≤ 8 := hB.1 11
  have hu_zb := hB.2
  refine lv_aload_n hx hb dX11_oddsTogether_0 rfl (lv_at hl 0 rfl) ?_
  refine va_get (D := (dC, dI)) (ci := 11) (v := .ref (ab 0)) (C := RX11) (T := TX11) (N := 12) hx hb hts iw_x_oddsTogether_X11 hown hK hP 0 rfl rfl 1 (by decide) (hts (.fieldLink RX11 34 "ThriceCounted" "bank" "LThriceCounted$Bank;") (by decide +kernel)) (fun _ h9 => h9) rfl dX11_oddsTogether_1 ?_
  refine va_get (D := (dC, dI)) (ci := 0) (v := .ref (ab 7)) (C := RX0) (T := TX0) (N := 6) hx hb hts iw_x_oddsTogether_X0 hown hK hP 1 rfl rfl 3 (by decide) (hts (.fieldLink RX11 227 "ThriceCounted$Bank" "causes" "LThriceCounted$Rows;") (by decide +kernel)) (fun _ h9 => h9) rfl dX11_oddsTogether_4 ?_
  refine lv_iload_n hx hb dX11_oddsTogether_7 rfl (lv_at hl 1 rfl) ?_
  refine lv_iconst (v := 1) hx hb dX11_oddsTogether_8 (by decide) ?_
  have hPc_1 := hP.sub (ws' := [((ab 7), .inr (6, [.int 4, .int 6, .ref (ab 8), .int (nI (zb 3))])), ((ab 8), .inl ((cb 3), 24, .inl (fb 3)))]) [2, 3] rfl
  have hKc_2 := hK.sub (tys' := [((cb 3), .int)]) [0] rfl
  refine vp_callSi (va_Run.run (va_runV (As := [.int na, .int 1]) (rest := []) ⟨hx, hb, hml, hown, hts⟩ (r_get_24 l dC dI (ab 7) (ab 8) (zb 3) (cb 3) (fb 3) na 1 (by omega)) (cwV 2 hts gX11_oddsTogether_X6_get rfl rfl rfl (by decide +kernel) ⟨Nat.le_of_ble_eq_true rfl, Nat.le_of_ble_eq_true rfl⟩) ⟨fun a U g mk q => by obtain ⟨q0, qP, qK⟩ := q; exact ⟨q0, qP, va_K.moved (u := U) (U := U.calling g mk a) (Vm.Alike.refl U.vm) qK⟩, va_recv hK hP (ci := 6) (q0 := 2) rfl rfl, fun U hU hW => ⟨rfl, by rw [hU]; exact hPc_1, va_K.moved hW.alike hKc_2⟩⟩ rfl rfl hl.1 rfl (lv_room (Nat.le_of_ble_eq_true rfl)) dX11_oddsTogether_9 ⟨Nat.le_of_ble_eq_true rfl, Nat.le_of_ble_eq_true rfl⟩)) (fun r_3 hw_4 => ?_)
  refine lv_istore_n (lv' := [(3, .int r_3), (0, .ref o), (1, .int na), (2, .int nb)]) hx hb dX11_oddsTogether_12 rfl hl (by decide) rfl (fun ls hl => ?_)
  refine lv_iload_n hx hb dX11_oddsTogether_13 rfl (lv_at hl 2 rfl) ?_
  refine lv_iload_n hx hb dX11_oddsTogether_14 rfl (lv_at hl 3 rfl) ?_
  refine lv_icmp_ne (tgt := 22) hx hb dX11_oddsTogether_15 (by decide) (fun c_5 => ?_) (fun c_5 => ?_)
  · refine lv_iload_n hx hb dX11_oddsTogether_22 rfl (lv_at hl 0 rfl) ?_
    refine lv_aload_n hx hb dX11_oddsTogether_23 rfl (lv_at hl 1 rfl) ?_
    refine va_get (D := (dC, dI)) (ci := 11) (v := .ref (ab 0)) (C := RX11) (T := TX11) (N := 12) hx hb hts iw_x_oddsTogether_X11 hown hK hP 0 rfl rfl 1 (by decide) (hts (.fieldLink RX11 34 "ThriceCounted" "bank" "LThriceCounted$Bank;") (by decide +kernel)) (fun _ h9 => h9) rfl dX11_oddsTogether_24 ?_
    refine va_get (D := (dC, dI)) (ci := 0) (v := .ref (ab 7)) (C := RX0) (T := TX0) (N := 6) hx hb hts iw_x_oddsTogether_X0 hown hK hP 1 rfl rfl 3 (by decide) (hts (.fieldLink RX11 227 "ThriceCounted$Bank" "causes" "LThriceCounted$Rows;") (by decide +kernel)) (fun _ h9 => h9) rfl dX11_oddsTogether_27 ?_
    refine lv_iload_n hx hb dX11_oddsTogether_30 rfl (lv_at hl 3 rfl) ?_
    refine lv_iconst (v := 1) hx hb dX11_oddsTogether_31 (by decide) ?_
    have hPc_6 := hP.sub (ws' := [((ab 7), .inr (6, [.int 4, .int 6, .ref (ab 8), .int (nI (zb 3))])), ((ab 8), .inl ((cb 3), 24, .inl (fb 3)))]) [2, 3] rfl
    have hKc_7 := hK.sub (tys' := [((cb 3), .int)]) [0] rfl
    refine vp_callSi (va_Run.run (va_runV (As := [.int nb, .int 1]) (rest := [.int r_3]) ⟨hx, hb, hml, hown, hts⟩ (r_get_24 l dC dI (ab 7) (ab 8) (zb 3) (cb 3) (fb 3) nb 1 (by omega)) (cwV 2 hts gX11_oddsTogether_X6_get rfl rfl rfl (by decide +kernel) ⟨Nat.le_of_ble_eq_true rfl, Nat.le_of_ble_eq_true rfl⟩) ⟨fun a U g mk q => by obtain ⟨q0, qP, qK⟩ := q; exact ⟨q0, qP, va_K.moved (u := U) (U := U.calling g mk a) (Vm.Alike.refl U.vm) qK⟩, va_recv hK hP (ci := 6) (q0 := 2) rfl rfl, fun U hU hW => ⟨rfl, by rw [hU]; exact hPc_6, va_K.moved hW.alike hKc_7⟩⟩ rfl rfl hl.1 rfl (lv_room (Nat.le_of_ble_eq_true rfl)) dX11_oddsTogether_32 ⟨Nat.le_of_ble_eq_true rfl, Nat.le_of_ble_eq_true rfl⟩)) (fun r_8 hw_9 => ?_)
    refine lv_imul hx hb dX11_oddsTogether_35 ?_
    refine lv_topi (fun x_10 _ => ?_)
    refine lv_bipush (v := 20) hx hb dX11_oddsTogether_36 (by decide) ?_
    refine lv_idiv hx hb dX11_oddsTogether_38 (by decide) ?_
    refine lv_topi (fun x_11 _ => ?_)
    exact W.iret (v := x_11) hx hb hr (fun t ht hW => ⟨x_11, rfl, trivial, ht⟩) (fun _ h => absurd h List.not_mem_nil) dX11_oddsTogether_39
  · refine lv_iload_n hx hb dX11_oddsTogether_18 rfl (lv_at hl 0 rfl) ?_
    refine lv_goto (tgt := 39) hx hb dX11_oddsTogether_19 (by decide) ?_
    exact W.iret (v := r_3) hx hb hr (fun t ht hW => ⟨r_3, rfl, trivial, ht⟩) (fun _ h => absurd h List.not_mem_nil) dX11_oddsTogether_39
set_option maxRecDepth 20000 in
theorem ggX11_delay_X6_get : GoodIn wsX11_delay wsX6_get := goodIn_r _ [7, 8, 9, 10, 11, 12, 6, 13, 14, 33, 34, 35, 36] (by decide +kernel) (by decide +kernel)
set_option maxRecDepth 20000 in
theorem gX11_delay_X6_get : GoodIn wsX11_delay (wsV RX11 128 RX6 yX6_get wsX6_get) := goodIn_app (goodIn_of _ (by decide +kernel)) ggX11_delay_X6_get
theorem dX11_delay_0 : decode cX11_delay 0 = .ok (.aload_n 0, 1) := by decide +kernel
theorem dX11_delay_1 : decode cX11_delay 1 = .ok (.getfield 34, 3) := by decide +kernel
theorem dX11_delay_4 : decode cX11_delay 4 = .ok (.getfield 227, 3) := by decide +kernel
theorem dX11_delay_7 : decode cX11_delay 7 = .ok (.iload_n 1, 1) := by decide +kernel
theorem dX11_delay_8 : decode cX11_delay 8 = .ok (.iconst 2, 1) := by decide +kernel
theorem dX11_delay_9 : decode cX11_delay 9 = .ok (.invokevirtual 128, 3) := by decide +kernel
theorem dX11_delay_12 : decode cX11_delay 12 = .ok (.istore_n 3, 1) := by decide +kernel
theorem dX11_delay_13 : decode cX11_delay 13 = .ok (.iload_n 3, 1) := by decide +kernel
theorem dX11_delay_14 : decode cX11_delay 14 = .ok (.aload_n 0, 1) := by decide +kernel
theorem dX11_delay_15 : decode cX11_delay 15 = .ok (.getfield 34, 3) := by decide +kernel
theorem dX11_delay_18 : decode cX11_delay 18 = .ok (.getfield 227, 3) := by decide +kernel
theorem dX11_delay_21 : decode cX11_delay 21 = .ok (.iload_n 2, 1) := by decide +kernel
theorem dX11_delay_22 : decode cX11_delay 22 = .ok (.iconst 1, 1) := by decide +kernel
theorem dX11_delay_23 : decode cX11_delay 23 = .ok (.invokevirtual 128, 3) := by decide +kernel
theorem dX11_delay_26 : decode cX11_delay 26 = .ok (.imul, 1) := by decide +kernel
theorem dX11_delay_27 : decode cX11_delay 27 = .ok (.aload_n 0, 1) := by decide +kernel
theorem dX11_delay_28 : decode cX11_delay 28 = .ok (.getfield 34, 3) := by decide +kernel
theorem dX11_delay_31 : decode cX11_delay 31 = .ok (.getfield 227, 3) := by decide +kernel
theorem dX11_delay_34 : decode cX11_delay 34 = .ok (.iload_n 2, 1) := by decide +kernel
theorem dX11_delay_35 : decode cX11_delay 35 = .ok (.iconst 3, 1) := by decide +kernel
theorem dX11_delay_36 : decode cX11_delay 36 = .ok (.invokevirtual 128, 3) := by decide +kernel
theorem dX11_delay_39 : decode cX11_delay 39 = .ok (.imul, 1) := by decide +kernel
theorem dX11_delay_40 : decode cX11_delay 40 = .ok (.ireturn, 1) := by decide +kernel
set_option maxRecDepth 20000 in
theorem iw_x_delay_X11 : ∀ w ∈ wsX110, w ∈ wsX11_delay := by decide +kernel
set_option maxRecDepth 20000 in
theorem iw_x_delay_X0 : ∀ w ∈ wsX00, w ∈ wsX11_delay := by decide +kernel
set_option maxHeartbeats 4000000 in
set_option maxRecDepth 100000 in
theorem x_delay (l : Launch) (dC : Nat → ClassId) (dI : Nat → Nat → Nat) (o : Nat) (aw : Nat) (ab : Nat → Nat) (ai : Nat) (ak : Nat) (sc : Nat) (rd : Nat) (fo : Nat) (tx : Nat) (ty : Int32) (ar : Nat) (at_ : Nat) (ao : Nat) (ub : Nat) (zb : Nat → Nat) (cb : Nat → ClassId) (fb : Nat → Nat → Int32) (na : Int32) (nb : Int32) (hB : (∀ i, zb i ≤ tz_lim i) ∧ ub ≤ 8) : Met l yX11_delay wsX11_delay ({ frames := 2, cells := 0, slots := 0, locals := 44 }) (va_Pc [.ref o, .int na, .int nb] (fun U => va_P (dC, dI) vwCl [(o, .inr (11, [.ref aw, .ref (ab 0), .ref ai, .ref ak, .ref sc, .ref rd, .ref fo, .ref tx, .int ty, .ref ar, .ref at_, .ref ao])), ((ab 0), .inr (0, [.ref (ab 1), .ref (ab 3), .ref (ab 5), .ref (ab 7), .ref (ab 9), .int (nI ub)])), ((ab 7), .inr (6, [.int 4, .int 6, .ref (ab 8), .int (nI (zb 3))])), ((ab 8), .inl ((cb 3), 24, .inl (fb 3)))] U.heap ∧ va_K (dC, dI) vwCl [((cb 3), .int)] U)) (vp_Si (fun r => True)) 0 0 (fun _ => False) := by
  refine Met.ofW (cc := cX11_delay) (maxL := 4) (ret := (some .int)) (by decide) rfl ?_
  intro p e s m args below meth c s₁ B hml hv
  obtain ⟨rfl, hP, hK⟩ := hv
  have hx := B.exec
  have hb := B.bytes
  have hr := B.returns
  have hts := atoms_spec (ws := wsX11_delay) B.pre
  have hown : s.vm.findClass RX11 = some m.cls := findClass_of_methodNamed B.named
  have hlocks := B.notSynchronized
  have hl := lv_entry ([.ref o, .int na, .int nb]) (n := 4) (Nat.le_of_ble_eq_true rfl)
  rw [lg_entry_eq]
  generalize (lg_sl ([.ref o, .int na, .int nb]) ++ List.replicate (4 - (lg_sl ([.ref o, .int na, .int nb])).length) Slot.unset).toArray = ls at hl ⊢
  have hl : lv_has ls 4 [(0, .ref o), (1, .int na), (2, .int nb)] := hl
  have hz_zb_0 : zb 0 ≤ 5 := hB.1 0
  have hz_zb_1 : zb 1 ≤ 5 := hB.1 1
  have hz_zb_2 : zb 2 ≤ 8 := hB.1 2
  have hz_zb_3 : zb 3 ≤ 6 := hB.1 3
  have hz_zb_4 : zb 4 ≤ 8 := hB.1 4
  have hz_zb_5 : zb 5 ≤ 8 := hB.1 5
  have hz_zb_6 : zb 6 ≤ 8 := hB.1 6
  have hz_zb_7 : zb 7 ≤ 8 := hB.1 7
  have hz_zb_8 : zb 8 ≤ 8 := hB.1 8
  have hz_zb_9 : zb 9 ≤ 8 := hB.1 9
  have hz_zb_10 : zb 10 ≤ 8 := hB.1 10
  have hz_zb_11 : zb 11 ≤ 8 := hB.1 11
  have hu_zb := hB.2
  refine lv_aload_n hx hb dX11_delay_0 rfl (lv_at hl 0 rfl) ?_
  refine va_get (D := (dC, dI)) (ci := 11) (v := .ref (ab 0)) (C := RX11) (T := TX11) (N := 12) hx hb hts iw_x_delay_X11 hown hK hP 0 rfl rfl 1 (by decide) (hts (.fieldLink RX11 34 "ThriceCounted" "bank" "LThriceCounted$Bank;") (by decide +kernel)) (fun _ h9 => h9) rfl dX11_delay_1 ?_
  refine va_get (D := (dC, dI)) (ci := 0) (v := .ref (ab 7)) (C := RX0) (T := TX0) (N := 6) hx hb hts iw_x_delay_X0 hown hK hP 1 rfl rfl 3 (by decide) (hts (.fieldLink RX11 227 "ThriceCounted$Bank" "causes" "LThriceCounted$Rows;") (by decide +kernel)) (fun _ h9 => h9) rfl dX11_delay_4 ?_
  refine lv_iload_n hx hb dX11_delay_7 rfl (lv_at hl 1 rfl) ?_
  refine lv_iconst (v := 2) hx hb dX11_delay_8 (by decide) ?_
  have hPc_1 := hP.sub (ws' := [((ab 7), .inr (6, [.int 4, .int 6, .ref (ab 8), .int (nI (zb 3))])), ((ab 8), .inl ((cb 3), 24, .inl (fb 3)))]) [2, 3] rfl
  have hKc_2 := hK.sub (tys' := [((cb 3), .int)]) [0] rfl
  refine vp_callSi (va_Run.run (va_runV (As := [.int na, .int 2]) (rest := []) ⟨hx, hb, hml, hown, hts⟩ (r_get_24 l dC dI (ab 7) (ab 8) (zb 3) (cb 3) (fb 3) na 2 (by omega)) (cwV 2 hts gX11_delay_X6_get rfl rfl rfl (by decide +kernel) ⟨Nat.le_of_ble_eq_true rfl, Nat.le_of_ble_eq_true rfl⟩) ⟨fun a U g mk q => by obtain ⟨q0, qP, qK⟩ := q; exact ⟨q0, qP, va_K.moved (u := U) (U := U.calling g mk a) (Vm.Alike.refl U.vm) qK⟩, va_recv hK hP (ci := 6) (q0 := 2) rfl rfl, fun U hU hW => ⟨rfl, by rw [hU]; exact hPc_1, va_K.moved hW.alike hKc_2⟩⟩ rfl rfl hl.1 rfl (lv_room (Nat.le_of_ble_eq_true rfl)) dX11_delay_9 ⟨Nat.le_of_ble_eq_true rfl, Nat.le_of_ble_eq_true rfl⟩)) (fun r_3 hw_4 => ?_)
  refine lv_istore_n (lv' := [(3, .int r_3), (0, .ref o), (1, .int na), (2, .int nb)]) hx hb dX11_delay_12 rfl hl (by decide) rfl (fun ls hl => ?_)
  refine lv_iload_n hx hb dX11_delay_13 rfl (lv_at hl 0 rfl) ?_
  refine lv_aload_n hx hb dX11_delay_14 rfl (lv_at hl 1 rfl) ?_
  refine va_get (D := (dC, dI)) (ci := 11) (v := .ref (ab 0)) (C := RX11) (T := TX11) (N := 12) hx hb hts iw_x_delay_X11 hown hK hP 0 rfl rfl 1 (by decide) (hts (.fieldLink RX11 34 "ThriceCounted" "bank" "LThriceCounted$Bank;") (by decide +kernel)) (fun _ h9 => h9) rfl dX11_delay_15 ?_
  refine va_get (D := (dC, dI)) (ci := 0) (v := .ref (ab 7)) (C := RX0) (T := TX0) (N := 6) hx hb hts iw_x_delay_X0 hown hK hP 1 rfl rfl 3 (by decide) (hts (.fieldLink RX11 227 "ThriceCounted$Bank" "causes" "LThriceCounted$Rows;") (by decide +kernel)) (fun _ h9 => h9) rfl dX11_delay_18 ?_
  refine lv_iload_n hx hb dX11_delay_21 rfl (lv_at hl 3 rfl) ?_
  refine lv_iconst (v := 1) hx hb dX11_delay_22 (by decide) ?_
  have hPc_5 := hP.sub (ws' := [((ab 7), .inr (6, [.int 4, .int 6, .ref (ab 8), .int (nI (zb 3))])), ((ab 8), .inl ((cb 3), 24, .inl (fb 3)))]) [2, 3] rfl
  have hKc_6 := hK.sub (tys' := [((cb 3), .int)]) [0] rfl
  refine vp_callSi (va_Run.run (va_runV (As := [.int nb, .int 1]) (rest := [.int r_3]) ⟨hx, hb, hml, hown, hts⟩ (r_get_24 l dC dI (ab 7) (ab 8) (zb 3) (cb 3) (fb 3) nb 1 (by omega)) (cwV 2 hts gX11_delay_X6_get rfl rfl rfl (by decide +kernel) ⟨Nat.le_of_ble_eq_true rfl, Nat.le_of_ble_eq_true rfl⟩) ⟨fun a U g mk q => by obtain ⟨q0, qP, qK⟩ := q; exact ⟨q0, qP, va_K.moved (u := U) (U := U.calling g mk a) (Vm.Alike.refl U.vm) qK⟩, va_recv hK hP (ci := 6) (q0 := 2) rfl rfl, fun U hU hW => ⟨rfl, by rw [hU]; exact hPc_5, va_K.moved hW.alike hKc_6⟩⟩ rfl rfl hl.1 rfl (lv_room (Nat.le_of_ble_eq_true rfl)) dX11_delay_23 ⟨Nat.le_of_ble_eq_true rfl, Nat.le_of_ble_eq_true rfl⟩)) (fun r_7 hw_8 => ?_)
  refine lv_imul hx hb dX11_delay_26 ?_
  refine lv_topi (fun x_9 _ => ?_)
  refine lv_aload_n hx hb dX11_delay_27 rfl (lv_at hl 1 rfl) ?_
  refine va_get (D := (dC, dI)) (ci := 11) (v := .ref (ab 0)) (C := RX11) (T := TX11) (N := 12) hx hb hts iw_x_delay_X11 hown hK hP 0 rfl rfl 1 (by decide) (hts (.fieldLink RX11 34 "ThriceCounted" "bank" "LThriceCounted$Bank;") (by decide +kernel)) (fun _ h9 => h9) rfl dX11_delay_28 ?_
  refine va_get (D := (dC, dI)) (ci := 0) (v := .ref (ab 7)) (C := RX0) (T := TX0) (N := 6) hx hb hts iw_x_delay_X0 hown hK hP 1 rfl rfl 3 (by decide) (hts (.fieldLink RX11 227 "ThriceCounted$Bank" "causes" "LThriceCounted$Rows;") (by decide +kernel)) (fun _ h9 => h9) rfl dX11_delay_31 ?_
  refine lv_iload_n hx hb dX11_delay_34 rfl (lv_at hl 3 rfl) ?_
  refine lv_iconst (v := 3) hx hb dX11_delay_35 (by decide) ?_
  have hPc_10 := hP.sub (ws' := [((ab 7), .inr (6, [.int 4, .int 6, .ref (ab 8), .int (nI (zb 3))])), ((ab 8), .inl ((cb 3), 24, .inl (fb 3)))]) [2, 3] rfl
  have hKc_11 := hK.sub (tys' := [((cb 3), .int)]) [0] rfl
  refine vp_callSi (va_Run.run (va_runV (As := [.int nb, .int 3]) (rest := [.int x_9]) ⟨hx, hb, hml, hown, hts⟩ (r_get_24 l dC dI (ab 7) (ab 8) (zb 3) (cb 3) (fb 3) nb 3 (by omega)) (cwV 2 hts gX11_delay_X6_get rfl rfl rfl (by decide +kernel) ⟨Nat.le_of_ble_eq_true rfl, Nat.le_of_ble_eq_true rfl⟩) ⟨fun a U g mk q => by obtain ⟨q0, qP, qK⟩ := q; exact ⟨q0, qP, va_K.moved (u := U) (U := U.calling g mk a) (Vm.Alike.refl U.vm) qK⟩, va_recv hK hP (ci := 6) (q0 := 2) rfl rfl, fun U hU hW => ⟨rfl, by rw [hU]; exact hPc_10, va_K.moved hW.alike hKc_11⟩⟩ rfl rfl hl.1 rfl (lv_room (Nat.le_of_ble_eq_true rfl)) dX11_delay_36 ⟨Nat.le_of_ble_eq_true rfl, Nat.le_of_ble_eq_true rfl⟩)) (fun r_12 hw_13 => ?_)
  refine lv_imul hx hb dX11_delay_39 ?_
  refine lv_topi (fun x_14 _ => ?_)
  exact W.iret (v := x_14) hx hb hr (fun t ht hW => ⟨x_14, rfl, trivial, ht⟩) (fun _ h => absurd h List.not_mem_nil) dX11_delay_40
set_option maxRecDepth 20000 in
theorem ggX11_listCauses_X6_size : GoodIn wsX11_listCauses wsX6_size := goodIn_r _ [8, 9, 38, 39, 40, 41] (by decide +kernel) (by decide +kernel)
set_option maxRecDepth 20000 in
theorem gX11_listCauses_X6_size : GoodIn wsX11_listCauses (wsV RX11 89 RX6 yX6_size wsX6_size) := goodIn_app (goodIn_of _ (by decide +kernel)) ggX11_listCauses_X6_size
set_option maxRecDepth 20000 in
theorem ggX11_listCauses_X6_get : GoodIn wsX11_listCauses wsX6_get := goodIn_r _ [13, 14, 15, 16, 17, 18, 7, 19, 9, 38, 39, 40, 41] (by decide +kernel) (by decide +kernel)
set_option maxRecDepth 20000 in
theorem gX11_listCauses_X6_get : GoodIn wsX11_listCauses (wsV RX11 128 RX6 yX6_get wsX6_get) := goodIn_app (goodIn_of _ (by decide +kernel)) ggX11_listCauses_X6_get
theorem dX11_listCauses_0 : decode cX11_listCauses 0 = .ok (.iconst 0, 1) := by decide +kernel
theorem dX11_listCauses_1 : decode cX11_listCauses 1 = .ok (.istore_n 2, 1) := by decide +kernel
theorem dX11_listCauses_2 : decode cX11_listCauses 2 = .ok (.iconst 0, 1) := by decide +kernel
theorem dX11_listCauses_3 : decode cX11_listCauses 3 = .ok (.istore_n 3, 1) := by decide +kernel
theorem dX11_listCauses_4 : decode cX11_listCauses 4 = .ok (.iload_n 3, 1) := by decide +kernel
theorem dX11_listCauses_5 : decode cX11_listCauses 5 = .ok (.aload_n 0, 1) := by decide +kernel
theorem dX11_listCauses_6 : decode cX11_listCauses 6 = .ok (.getfield 34, 3) := by decide +kernel
theorem dX11_listCauses_9 : decode cX11_listCauses 9 = .ok (.getfield 227, 3) := by decide +kernel
theorem dX11_listCauses_12 : decode cX11_listCauses 12 = .ok (.invokevirtual 89, 3) := by decide +kernel
theorem dX11_listCauses_15 : decode cX11_listCauses 15 = .ok (.if_icmp .ge 44, 3) := by decide +kernel
theorem dX11_listCauses_18 : decode cX11_listCauses 18 = .ok (.aload_n 0, 1) := by decide +kernel
theorem dX11_listCauses_19 : decode cX11_listCauses 19 = .ok (.getfield 34, 3) := by decide +kernel
theorem dX11_listCauses_22 : decode cX11_listCauses 22 = .ok (.getfield 227, 3) := by decide +kernel
theorem dX11_listCauses_25 : decode cX11_listCauses 25 = .ok (.iload_n 3, 1) := by decide +kernel
theorem dX11_listCauses_26 : decode cX11_listCauses 26 = .ok (.iconst 0, 1) := by decide +kernel
theorem dX11_listCauses_27 : decode cX11_listCauses 27 = .ok (.invokevirtual 128, 3) := by decide +kernel
theorem dX11_listCauses_30 : decode cX11_listCauses 30 = .ok (.iload_n 1, 1) := by decide +kernel
theorem dX11_listCauses_31 : decode cX11_listCauses 31 = .ok (.if_icmp .ne 22, 3) := by decide +kernel
theorem dX11_listCauses_53 : decode cX11_listCauses 53 = .ok (.iinc 3 1, 3) := by decide +kernel
theorem dX11_listCauses_56 : decode cX11_listCauses 56 = .ok (.goto (-52), 3) := by decide +kernel
theorem dX11_listCauses_34 : decode cX11_listCauses 34 = .ok (.iload_n 2, 1) := by decide +kernel
theorem dX11_listCauses_35 : decode cX11_listCauses 35 = .ok (.aload_n 0, 1) := by decide +kernel
theorem dX11_listCauses_36 : decode cX11_listCauses 36 = .ok (.getfield 82, 3) := by decide +kernel
theorem dX11_listCauses_39 : decode cX11_listCauses 39 = .ok (.arraylength, 1) := by decide +kernel
theorem dX11_listCauses_40 : decode cX11_listCauses 40 = .ok (.if_icmp .ge 13, 3) := by decide +kernel
theorem dX11_listCauses_43 : decode cX11_listCauses 43 = .ok (.aload_n 0, 1) := by decide +kernel
theorem dX11_listCauses_44 : decode cX11_listCauses 44 = .ok (.getfield 82, 3) := by decide +kernel
theorem dX11_listCauses_47 : decode cX11_listCauses 47 = .ok (.iload_n 2, 1) := by decide +kernel
theorem dX11_listCauses_48 : decode cX11_listCauses 48 = .ok (.iload_n 3, 1) := by decide +kernel
theorem dX11_listCauses_49 : decode cX11_listCauses 49 = .ok (.iastore, 1) := by decide +kernel
theorem dX11_listCauses_50 : decode cX11_listCauses 50 = .ok (.iinc 2 1, 3) := by decide +kernel
theorem dX11_listCauses_59 : decode cX11_listCauses 59 = .ok (.iload_n 2, 1) := by decide +kernel
theorem dX11_listCauses_60 : decode cX11_listCauses 60 = .ok (.ireturn, 1) := by decide +kernel
set_option maxRecDepth 20000 in
theorem iw_x_listCauses_X11 : ∀ w ∈ wsX110, w ∈ wsX11_listCauses := by decide +kernel
set_option maxRecDepth 20000 in
theorem iw_x_listCauses_X0 : ∀ w ∈ wsX00, w ∈ wsX11_listCauses := by decide +kernel
set_option maxHeartbeats 4000000 in
set_option maxRecDepth 100000 in
theorem x_listCauses (l : Launch) (dC : Nat → ClassId) (dI : Nat → Nat → Nat) (o : Nat) (aw : Nat) (ab : Nat → Nat) (ai : Nat) (ak : Nat) (sc : Nat) (rd : Nat) (fo : Nat) (tx : Nat) (ty : Int32) (ar : Nat) (at_ : Nat) (ao : Nat) (co_ : ClassId) (fo_ : Nat → Int32) (ub : Nat) (zb : Nat → Nat) (cb : Nat → ClassId) (fb : Nat → Nat → Int32) (na : Int32) (sz : Nat) (hB : (∀ i, zb i ≤ tz_lim i) ∧ ub ≤ 8) : Met l yX11_listCauses wsX11_listCauses ({ frames := 2, cells := 0, slots := 0, locals := 44 }) (va_Pc [.ref o, .int na] (fun U => U.heap.size = sz ∧ va_P (dC, dI) vwCl [(o, .inr (11, [.ref aw, .ref (ab 0), .ref ai, .ref ak, .ref sc, .ref rd, .ref fo, .ref tx, .int ty, .ref ar, .ref at_, .ref ao])), (ao, .inl (co_, 6, .inl fo_)), ((ab 0), .inr (0, [.ref (ab 1), .ref (ab 3), .ref (ab 5), .ref (ab 7), .ref (ab 9), .int (nI ub)])), ((ab 7), .inr (6, [.int 4, .int 6, .ref (ab 8), .int (nI (zb 3))])), ((ab 8), .inl ((cb 3), 24, .inl (fb 3)))] U.heap ∧ va_K (dC, dI) vwCl [(co_, .int), ((cb 3), .int)] U ∧ va_D (fun _ => True) [(o, .inr (11, [.ref aw, .ref (ab 0), .ref ai, .ref ak, .ref sc, .ref rd, .ref fo, .ref tx, .int ty, .ref ar, .ref at_, .ref ao])), (ao, .inl (co_, 6, .inl fo_)), ((ab 0), .inr (0, [.ref (ab 1), .ref (ab 3), .ref (ab 5), .ref (ab 7), .ref (ab 9), .int (nI ub)])), ((ab 7), .inr (6, [.int 4, .int 6, .ref (ab 8), .int (nI (zb 3))])), ((ab 8), .inl ((cb 3), 24, .inl (fb 3)))])) (va_Qi (fun (r : Int32) (_ : Unit) => ∃ j : Nat, j ≤ 6 ∧ r = nI j) (fun _ t => ∃ (go_ : Nat → Int32), va_P (dC, dI) vwCl [(o, .inr (11, [.ref aw, .ref (ab 0), .ref ai, .ref ak, .ref sc, .ref rd, .ref fo, .ref tx, .int ty, .ref ar, .ref at_, .ref ao])), (ao, .inl (co_, 6, .inl go_)), ((ab 0), .inr (0, [.ref (ab 1), .ref (ab 3), .ref (ab 5), .ref (ab 7), .ref (ab 9), .int (nI ub)])), ((ab 7), .inr (6, [.int 4, .int 6, .ref (ab 8), .int (nI (zb 3))])), ((ab 8), .inl ((cb 3), 24, .inl (fb 3)))] t.heap ∧ va_K (dC, dI) vwCl [(co_, .int), ((cb 3), .int)] t ∧ va_D (va_A [(o, .inr (11, [.ref aw, .ref (ab 0), .ref ai, .ref ak, .ref sc, .ref rd, .ref fo, .ref tx, .int ty, .ref ar, .ref at_, .ref ao])), (ao, .inl (co_, 6, .inl fo_)), ((ab 0), .inr (0, [.ref (ab 1), .ref (ab 3), .ref (ab 5), .ref (ab 7), .ref (ab 9), .int (nI ub)])), ((ab 7), .inr (6, [.int 4, .int 6, .ref (ab 8), .int (nI (zb 3))])), ((ab 8), .inl ((cb 3), 24, .inl (fb 3)))] sz) [(o, .inr (11, [.ref aw, .ref (ab 0), .ref ai, .ref ak, .ref sc, .ref rd, .ref fo, .ref tx, .int ty, .ref ar, .ref at_, .ref ao])), (ao, .inl (co_, 6, .inl go_)), ((ab 0), .inr (0, [.ref (ab 1), .ref (ab 3), .ref (ab 5), .ref (ab 7), .ref (ab 9), .int (nI ub)])), ((ab 7), .inr (6, [.int 4, .int 6, .ref (ab 8), .int (nI (zb 3))])), ((ab 8), .inl ((cb 3), 24, .inl (fb 3)))]) (va_A [(o, .inr (11, [.ref aw, .ref (ab 0), .ref ai, .ref ak, .ref sc, .ref rd, .ref fo, .ref tx, .int ty, .ref ar, .ref at_, .ref ao])), (ao, .inl (co_, 6, .inl fo_)), ((ab 0), .inr (0, [.ref (ab 1), .ref (ab 3), .ref (ab 5), .ref (ab 7), .ref (ab 9), .int (nI ub)])), ((ab 7), .inr (6, [.int 4, .int 6, .ref (ab 8), .int (nI (zb 3))])), ((ab 8), .inl ((cb 3), 24, .inl (fb 3)))] sz)) 0 0 (va_A [(o, .inr (11, [.ref aw, .ref (ab 0), .ref ai, .ref ak, .ref sc, .ref rd, .ref fo, .ref tx, .int ty, .ref ar, .ref at_, .ref ao])), (ao, .inl (co_, 6, .inl fo_)), ((ab 0), .inr (0, [.ref (ab 1), .ref (ab 3), .ref (ab 5), .ref (ab 7), .ref (ab 9), .int (nI ub)])), ((ab 7), .inr (6, [.int 4, .int 6, .ref (ab 8), .int (nI (zb 3))])), ((ab 8), .inl ((cb 3), 24, .inl (fb 3)))] sz) := by
  refine Met.ofW (cc := cX11_listCauses) (maxL := 4) (ret := (some .int)) (by decide) rfl ?_
  intro p e s m args below meth c s₁ B hml hv
  obtain ⟨rfl, hsz, hP, hK, hD0⟩ := hv
  have hx := B.exec
  have hb := B.bytes
  have hr := B.returns
  have hts := atoms_spec (ws := wsX11_listCauses) B.pre
  have hown : s.vm.findClass RX11 = some m.cls := findClass_of_methodNamed B.named
  have hlocks := B.notSynchronized
  subst hsz
  have hD := hD0.self (sz := s.heap.size)
  generalize hAe : va_A [(o, .inr (11, [.ref aw, .ref (ab 0), .ref ai, .ref ak, .ref sc, .ref rd, .ref fo, .ref tx, .int ty, .ref ar, .ref at_, .ref ao])), (ao, .inl (co_, 6, .inl fo_)), ((ab 0), .inr (0, [.ref (ab 1), .ref (ab 3), .ref (ab 5), .ref (ab 7), .ref (ab 9), .int (nI ub)])), ((ab 7), .inr (6, [.int 4, .int 6, .ref (ab 8), .int (nI (zb 3))])), ((ab 8), .inl ((cb 3), 24, .inl (fb 3)))] s.heap.size = A at hD ⊢
  have hA : ∀ q : Nat, s.heap.size ≤ q → A q := fun q h => by rw [← hAe]; exact Or.inr h
  have hS : va_S A s.heap s.heap [] := va_S.rf
  have hP : va_P (dC, dI) vwCl [(o, .inr (11, [.ref aw, .ref (ab 0), .ref ai, .ref ak, .ref sc, .ref rd, .ref fo, .ref tx, .int ty, .ref ar, .ref at_, .ref ao])), (ao, .inl (co_, 6, .inl fo_)), ((ab 0), .inr (0, [.ref (ab 1), .ref (ab 3), .ref (ab 5), .ref (ab 7), .ref (ab 9), .int (nI ub)])), ((ab 7), .inr (6, [.int 4, .int 6, .ref (ab 8), .int (nI (zb 3))])), ((ab 8), .inl ((cb 3), 24, .inl (fb 3)))] s.heap := hP
  have hl := lv_entry ([.ref o, .int na]) (n := 4) (Nat.le_of_ble_eq_true rfl)
  rw [lg_entry_eq]
  generalize (lg_sl ([.ref o, .int na]) ++ List.replicate (4 - (lg_sl ([.ref o, .int na])).length) Slot.unset).toArray = ls at hl ⊢
  have hl : lv_has ls 4 [(0, .ref o), (1, .int na)] := hl
  have hz_zb_0 : zb 0 ≤ 5 := hB.1 0
  have hz_zb_1 : zb 1 ≤ 5 := hB.1 1
  have hz_zb_2 : zb 2 ≤ 8 := hB.1 2
  have hz_zb_3 : zb 3 ≤ 6 := hB.1 3
  have hz_zb_4 : zb 4 ≤ 8 := hB.1 4
  have hz_zb_5 : zb 5 ≤ 8 := hB.1 5
  have hz_zb_6 : zb 6 ≤ 8 := hB.1 6
  have hz_zb_7 : zb 7 ≤ 8 := hB.1 7
  have hz_zb_8 : zb 8 ≤ 8 := hB.1 8
  have hz_zb_9 : zb 9 ≤ 8 := hB.1 9
  have hz_zb_10 : zb 10 ≤ 8 := hB.1 10
  have hz_zb_11 : zb 11 ≤ 8 := hB.1 11
  have hu_zb := hB.2
  refine lv_iconst (v := 0) hx hb dX11_listCauses_0 (by decide) ?_
  refine lv_istore_n (lv' := [(2, .int 0), (0, .ref o), (1, .int na)]) hx hb dX11_listCauses_1 rfl hl (by decide) rfl (fun ls hl => ?_)
  refine lv_iconst (v := 0) hx hb dX11_listCauses_2 (by decide) ?_
  refine lv_istore_n (lv' := [(3, .int 0), (2, .int 0), (0, .ref o), (1, .int na)]) hx hb dX11_listCauses_3 rfl hl (by decide) rfl (fun ls hl => ?_)
  refine tz_while (σ := Nat × Nat × (Nat → Int32) × Heap × List Loc × Array Slot) (fun x => W p l e _ s m _ below meth c x.2.2.2.1 x.2.2.2.2.1 _ _ _ (F0 m 4 x.2.2.2.2.2 [])) (fun x => x.2.1 ≤ 6 ∧ x.1 ≤ (zb 3) ∧ va_P (dC, dI) vwCl [(o, .inr (11, [.ref aw, .ref (ab 0), .ref ai, .ref ak, .ref sc, .ref rd, .ref fo, .ref tx, .int ty, .ref ar, .ref at_, .ref ao])), (ao, .inl (co_, 6, .inl x.2.2.1)), ((ab 0), .inr (0, [.ref (ab 1), .ref (ab 3), .ref (ab 5), .ref (ab 7), .ref (ab 9), .int (nI ub)])), ((ab 7), .inr (6, [.int 4, .int 6, .ref (ab 8), .int (nI (zb 3))])), ((ab 8), .inl ((cb 3), 24, .inl (fb 3)))] x.2.2.2.1 ∧ va_D A [(o, .inr (11, [.ref aw, .ref (ab 0), .ref ai, .ref ak, .ref sc, .ref rd, .ref fo, .ref tx, .int ty, .ref ar, .ref at_, .ref ao])), (ao, .inl (co_, 6, .inl x.2.2.1)), ((ab 0), .inr (0, [.ref (ab 1), .ref (ab 3), .ref (ab 5), .ref (ab 7), .ref (ab 9), .int (nI ub)])), ((ab 7), .inr (6, [.int 4, .int 6, .ref (ab 8), .int (nI (zb 3))])), ((ab 8), .inl ((cb 3), 24, .inl (fb 3)))] ∧ va_S A s.heap x.2.2.2.1 x.2.2.2.2.1 ∧ lv_has x.2.2.2.2.2 4 [(3, .int (nI x.1)), (2, .int (nI x.2.1)), (0, .ref o), (1, .int na)]) (fun x => (zb 3) - x.1) ?_ (0, 0, fo_, s.heap, [], ls) ⟨by (try dsimp only); omega, by (try dsimp only); omega, hP, hD, hS, hl⟩
  rintro ⟨k_1, m_2, f_19, H, locs, ls⟩ ⟨hi_36_0, hi_37_1, hP, hD, hS, hl⟩ ih_38
  dsimp only at hi_36_0 hi_37_1 hP hD hS hl ih_38 ⊢
  refine lv_iload_n hx hb dX11_listCauses_4 rfl (lv_at hl 0 rfl) ?_
  refine lv_aload_n hx hb dX11_listCauses_5 rfl (lv_at hl 2 rfl) ?_
  refine va_get (D := (dC, dI)) (ci := 11) (v := .ref (ab 0)) (C := RX11) (T := TX11) (N := 12) hx hb hts iw_x_listCauses_X11 hown hK hP 0 rfl rfl 1 (by decide) (hts (.fieldLink RX11 34 "ThriceCounted" "bank" "LThriceCounted$Bank;") (by decide +kernel)) (fun _ h9 => h9) rfl dX11_listCauses_6 ?_
  refine va_get (D := (dC, dI)) (ci := 0) (v := .ref (ab 7)) (C := RX0) (T := TX0) (N := 6) hx hb hts iw_x_listCauses_X0 hown hK hP 2 rfl rfl 3 (by decide) (hts (.fieldLink RX11 227 "ThriceCounted$Bank" "causes" "LThriceCounted$Rows;") (by decide +kernel)) (fun _ h9 => h9) rfl dX11_listCauses_9 ?_
  have hPc_39 := hP.sub (ws' := [((ab 7), .inr (6, [.int 4, .int 6, .ref (ab 8), .int (nI (zb 3))]))]) [3] rfl
  have hKc_40 := hK.sub (tys' := []) [] rfl
  refine vp_callSi (va_Run.run (va_runV (As := []) (rest := [.int (nI k_1)]) ⟨hx, hb, hml, hown, hts⟩ (r_size_24 l dC dI (ab 7) (ab 8) (zb 3)) (cwV 0 hts gX11_listCauses_X6_size rfl rfl rfl (by decide +kernel) ⟨Nat.le_of_ble_eq_true rfl, Nat.le_of_ble_eq_true rfl⟩) ⟨fun a U g mk q => by obtain ⟨q0, qP, qK⟩ := q; exact ⟨q0, qP, va_K.moved (u := U) (U := U.calling g mk a) (Vm.Alike.refl U.vm) qK⟩, va_recv hK hP (ci := 6) (q0 := 3) rfl rfl, fun U hU hW => ⟨rfl, by rw [hU]; exact hPc_39, va_K.moved hW.alike hKc_40⟩⟩ rfl rfl hl.1 rfl (lv_room (Nat.le_of_ble_eq_true rfl)) dX11_listCauses_12 ⟨Nat.le_of_ble_eq_true rfl, Nat.le_of_ble_eq_true rfl⟩)) (fun r_41 hw_42 => ?_)
  obtain rfl : (nI (zb 3)) = r_41 := hw_42.symm
  refine lv_icmp_ge (tgt := 59) hx hb dX11_listCauses_15 (by decide) (fun c_43 => ?_) (fun c_43 => ?_)
  · have hn_44 : (zb 3) ≤ k_1 := (nI_leI (a := (zb 3)) (b := k_1) (by omega) (by omega)).mp c_43
    refine lv_iload_n hx hb dX11_listCauses_59 rfl (lv_at hl 1 rfl) ?_
    have hP9 := hP.sub (ws' := [(o, .inr (11, [.ref aw, .ref (ab 0), .ref ai, .ref ak, .ref sc, .ref rd, .ref fo, .ref tx, .int ty, .ref ar, .ref at_, .ref ao])), (ao, .inl (co_, 6, .inl f_19)), ((ab 0), .inr (0, [.ref (ab 1), .ref (ab 3), .ref (ab 5), .ref (ab 7), .ref (ab 9), .int (nI ub)])), ((ab 7), .inr (6, [.int 4, .int 6, .ref (ab 8), .int (nI (zb 3))])), ((ab 8), .inl ((cb 3), 24, .inl (fb 3)))]) [0, 1, 2, 3, 4] rfl
    have hD9 := hD.sub (ws' := [(o, .inr (11, [.ref aw, .ref (ab 0), .ref ai, .ref ak, .ref sc, .ref rd, .ref fo, .ref tx, .int ty, .ref ar, .ref at_, .ref ao])), (ao, .inl (co_, 6, .inl f_19)), ((ab 0), .inr (0, [.ref (ab 1), .ref (ab 3), .ref (ab 5), .ref (ab 7), .ref (ab 9), .int (nI ub)])), ((ab 7), .inr (6, [.int 4, .int 6, .ref (ab 8), .int (nI (zb 3))])), ((ab 8), .inl ((cb 3), 24, .inl (fb 3)))]) [0, 1, 2, 3, 4] (by decide) rfl
    have hK9 := hK.sub (tys' := [(co_, .int), ((cb 3), .int)]) [0, 1] rfl
    exact W.iret (v := (nI m_2)) hx hb hr (fun t ht hW => ⟨⟨(nI m_2), (), rfl, ⟨m_2, by omega, rfl⟩, f_19, by rw [ht]; exact hP9, va_K.moved hW.alike hK9, hD9⟩, hS.F ht⟩) hS.2.2 dX11_listCauses_60
  · have hn_45 : ¬ (zb 3) ≤ k_1 := fun q => c_43 ((nI_leI (a := (zb 3)) (b := k_1) (by omega) (by omega)).mpr q)
    refine lv_aload_n hx hb dX11_listCauses_18 rfl (lv_at hl 2 rfl) ?_
    refine va_get (D := (dC, dI)) (ci := 11) (v := .ref (ab 0)) (C := RX11) (T := TX11) (N := 12) hx hb hts iw_x_listCauses_X11 hown hK hP 0 rfl rfl 1 (by decide) (hts (.fieldLink RX11 34 "ThriceCounted" "bank" "LThriceCounted$Bank;") (by decide +kernel)) (fun _ h9 => h9) rfl dX11_listCauses_19 ?_
    refine va_get (D := (dC, dI)) (ci := 0) (v := .ref (ab 7)) (C := RX0) (T := TX0) (N := 6) hx hb hts iw_x_listCauses_X0 hown hK hP 2 rfl rfl 3 (by decide) (hts (.fieldLink RX11 227 "ThriceCounted$Bank" "causes" "LThriceCounted$Rows;") (by decide +kernel)) (fun _ h9 => h9) rfl dX11_listCauses_22 ?_
    refine lv_iload_n hx hb dX11_listCauses_25 rfl (lv_at hl 0 rfl) ?_
    refine lv_iconst (v := 0) hx hb dX11_listCauses_26 (by decide) ?_
    have hPc_46 := hP.sub (ws' := [((ab 7), .inr (6, [.int 4, .int 6, .ref (ab 8), .int (nI (zb 3))])), ((ab 8), .inl ((cb 3), 24, .inl (fb 3)))]) [3, 4] rfl
    have hKc_47 := hK.sub (tys' := [((cb 3), .int)]) [1] rfl
    refine vp_callSi (va_Run.run (va_runV (As := [.int (nI k_1), .int 0]) (rest := []) ⟨hx, hb, hml, hown, hts⟩ (r_get_24 l dC dI (ab 7) (ab 8) (zb 3) (cb 3) (fb 3) (nI k_1) 0 (by omega)) (cwV 2 hts gX11_listCauses_X6_get rfl rfl rfl (by decide +kernel) ⟨Nat.le_of_ble_eq_true rfl, Nat.le_of_ble_eq_true rfl⟩) ⟨fun a U g mk q => by obtain ⟨q0, qP, qK⟩ := q; exact ⟨q0, qP, va_K.moved (u := U) (U := U.calling g mk a) (Vm.Alike.refl U.vm) qK⟩, va_recv hK hP (ci := 6) (q0 := 3) rfl rfl, fun U hU hW => ⟨rfl, by rw [hU]; exact hPc_46, va_K.moved hW.alike hKc_47⟩⟩ rfl rfl hl.1 rfl (lv_room (Nat.le_of_ble_eq_true rfl)) dX11_listCauses_27 ⟨Nat.le_of_ble_eq_true rfl, Nat.le_of_ble_eq_true rfl⟩)) (fun r_48 hw_49 => ?_)
    refine lv_iload_n hx hb dX11_listCauses_30 rfl (lv_at hl 3 rfl) ?_
    refine lv_icmp_ne (tgt := 53) hx hb dX11_listCauses_31 (by decide) (fun c_50 => ?_) (fun c_50 => ?_)
    · refine lv_iinc (v := (nI (k_1 + 1))) (lv' := [(3, .int (nI (k_1 + 1))), (2, .int (nI m_2)), (0, .ref o), (1, .int na)]) hx hb dX11_listCauses_53 hl (k := 0) rfl (nI_add k_1 1) (by decide) rfl (fun ls hl => ?_)
      refine lv_goto (tgt := 4) hx hb dX11_listCauses_56 (by decide) ?_
      exact ih_38 ((k_1 + 1), m_2, f_19, H, locs, ls) ⟨hi_36_0, by dsimp only; omega, hP, hD, hS, lv_sub hl [0, 1, 2, 3] rfl⟩ (by dsimp only; omega)
    · refine lv_iload_n hx hb dX11_listCauses_34 rfl (lv_at hl 1 rfl) ?_
      refine lv_aload_n hx hb dX11_listCauses_35 rfl (lv_at hl 2 rfl) ?_
      refine va_get (D := (dC, dI)) (ci := 11) (v := .ref ao) (C := RX11) (T := TX11) (N := 12) hx hb hts iw_x_listCauses_X11 hown hK hP 0 rfl rfl 11 (by decide) (hts (.fieldLink RX11 82 "ThriceCounted" "order" "[I") (by decide +kernel)) (fun _ h9 => h9) rfl dX11_listCauses_36 ?_
      refine va_alen (v := 6) hx hb hK hP 1 0 rfl rfl rfl dX11_listCauses_39 ?_
      refine lv_icmp_ge (tgt := 53) hx hb dX11_listCauses_40 (by decide) (fun c_51 => ?_) (fun c_51 => ?_)
      · have hn_52 : 6 ≤ m_2 := (nI_leI (a := 6) (b := m_2) (by omega) (by omega)).mp c_51
        refine lv_iinc (v := (nI (k_1 + 1))) (lv' := [(3, .int (nI (k_1 + 1))), (2, .int (nI m_2)), (0, .ref o), (1, .int na)]) hx hb dX11_listCauses_53 hl (k := 0) rfl (nI_add k_1 1) (by decide) rfl (fun ls hl => ?_)
        refine lv_goto (tgt := 4) hx hb dX11_listCauses_56 (by decide) ?_
        exact ih_38 ((k_1 + 1), m_2, f_19, H, locs, ls) ⟨hi_36_0, by dsimp only; omega, hP, hD, hS, lv_sub hl [0, 1, 2, 3] rfl⟩ (by dsimp only; omega)
      · have hn_53 : ¬ 6 ≤ m_2 := fun q => c_51 ((nI_leI (a := 6) (b := m_2) (by omega) (by omega)).mpr q)
        refine lv_aload_n hx hb dX11_listCauses_43 rfl (lv_at hl 2 rfl) ?_
        refine va_get (D := (dC, dI)) (ci := 11) (v := .ref ao) (C := RX11) (T := TX11) (N := 12) hx hb hts iw_x_listCauses_X11 hown hK hP 0 rfl rfl 11 (by decide) (hts (.fieldLink RX11 82 "ThriceCounted" "order" "[I") (by decide +kernel)) (fun _ h9 => h9) rfl dX11_listCauses_44 ?_
        refine lv_iload_n hx hb dX11_listCauses_47 rfl (lv_at hl 1 rfl) ?_
        refine lv_iload_n hx hb dX11_listCauses_48 rfl (lv_at hl 0 rfl) ?_
        refine va_iast hx hb hK hP hD hS 1 0 rfl rfl (vp_in_nI (n := m_2) (N := 6) (by omega) (by decide)) dX11_listCauses_49 (fun H locs hP hD hS => ?_)
        generalize (upd f_19 (Int32.toNatClampNeg (nI m_2)) (nI k_1)) = f_54 at hP hD
        have hP : va_P (dC, dI) vwCl [(o, .inr (11, [.ref aw, .ref (ab 0), .ref ai, .ref ak, .ref sc, .ref rd, .ref fo, .ref tx, .int ty, .ref ar, .ref at_, .ref ao])), (ao, .inl (co_, 6, .inl f_54)), ((ab 0), .inr (0, [.ref (ab 1), .ref (ab 3), .ref (ab 5), .ref (ab 7), .ref (ab 9), .int (nI ub)])), ((ab 7), .inr (6, [.int 4, .int 6, .ref (ab 8), .int (nI (zb 3))])), ((ab 8), .inl ((cb 3), 24, .inl (fb 3)))] H := hP
        have hD : va_D A [(o, .inr (11, [.ref aw, .ref (ab 0), .ref ai, .ref ak, .ref sc, .ref rd, .ref fo, .ref tx, .int ty, .ref ar, .ref at_, .ref ao])), (ao, .inl (co_, 6, .inl f_54)), ((ab 0), .inr (0, [.ref (ab 1), .ref (ab 3), .ref (ab 5), .ref (ab 7), .ref (ab 9), .int (nI ub)])), ((ab 7), .inr (6, [.int 4, .int 6, .ref (ab 8), .int (nI (zb 3))])), ((ab 8), .inl ((cb 3), 24, .inl (fb 3)))] := hD
        refine lv_iinc (v := (nI (m_2 + 1))) (lv' := [(2, .int (nI (m_2 + 1))), (3, .int (nI k_1)), (0, .ref o), (1, .int na)]) hx hb dX11_listCauses_50 hl (k := 1) rfl (nI_add m_2 1) (by decide) rfl (fun ls hl => ?_)
        refine lv_iinc (v := (nI (k_1 + 1))) (lv' := [(3, .int (nI (k_1 + 1))), (2, .int (nI (m_2 + 1))), (0, .ref o), (1, .int na)]) hx hb dX11_listCauses_53 hl (k := 1) rfl (nI_add k_1 1) (by decide) rfl (fun ls hl => ?_)
        refine lv_goto (tgt := 4) hx hb dX11_listCauses_56 (by decide) ?_
        exact ih_38 ((k_1 + 1), (m_2 + 1), f_54, H, locs, ls) ⟨by dsimp only; omega, by dsimp only; omega, hP, hD, hS, lv_sub hl [0, 1, 2, 3] rfl⟩ (by dsimp only; omega)
set_option maxRecDepth 20000 in
theorem ggX11_standsAhead_X11_delay : GoodIn wsX11_standsAhead wsX11_delay := goodIn_r _ [6, 7, 8, 9, 10, 11, 12, 13, 14, 15, 16, 17, 18, 19, 20, 21, 22, 23, 24, 25, 26, 27, 28, 29, 30, 31, 32, 33, 34, 35, 36, 37, 38, 39, 40, 41, 42] (by decide +kernel) (by decide +kernel)
set_option maxRecDepth 20000 in
theorem gX11_standsAhead_X11_delay : GoodIn wsX11_standsAhead (wsV RX11 304 RX11 yX11_delay wsX11_delay) := goodIn_app (goodIn_of _ (by decide +kernel)) ggX11_standsAhead_X11_delay
theorem dX11_standsAhead_0 : decode cX11_standsAhead 0 = .ok (.iload_n 1, 1) := by decide +kernel
theorem dX11_standsAhead_1 : decode cX11_standsAhead 1 = .ok (.ifCond .lt 12, 3) := by decide +kernel
theorem dX11_standsAhead_13 : decode cX11_standsAhead 13 = .ok (.iconst 0, 1) := by decide +kernel
theorem dX11_standsAhead_14 : decode cX11_standsAhead 14 = .ok (.ireturn, 1) := by decide +kernel
theorem dX11_standsAhead_4 : decode cX11_standsAhead 4 = .ok (.iload_n 1, 1) := by decide +kernel
theorem dX11_standsAhead_5 : decode cX11_standsAhead 5 = .ok (.aload_n 0, 1) := by decide +kernel
theorem dX11_standsAhead_6 : decode cX11_standsAhead 6 = .ok (.getfield 82, 3) := by decide +kernel
theorem dX11_standsAhead_9 : decode cX11_standsAhead 9 = .ok (.arraylength, 1) := by decide +kernel
theorem dX11_standsAhead_10 : decode cX11_standsAhead 10 = .ok (.if_icmp .lt 5, 3) := by decide +kernel
theorem dX11_standsAhead_15 : decode cX11_standsAhead 15 = .ok (.aload_n 0, 1) := by decide +kernel
theorem dX11_standsAhead_16 : decode cX11_standsAhead 16 = .ok (.getfield 82, 3) := by decide +kernel
theorem dX11_standsAhead_19 : decode cX11_standsAhead 19 = .ok (.iload_n 1, 1) := by decide +kernel
theorem dX11_standsAhead_20 : decode cX11_standsAhead 20 = .ok (.iaload, 1) := by decide +kernel
theorem dX11_standsAhead_21 : decode cX11_standsAhead 21 = .ok (.istore 4, 2) := by decide +kernel
theorem dX11_standsAhead_23 : decode cX11_standsAhead 23 = .ok (.iload_n 2, 1) := by decide +kernel
theorem dX11_standsAhead_24 : decode cX11_standsAhead 24 = .ok (.istore 5, 2) := by decide +kernel
theorem dX11_standsAhead_26 : decode cX11_standsAhead 26 = .ok (.iload 5, 2) := by decide +kernel
theorem dX11_standsAhead_28 : decode cX11_standsAhead 28 = .ok (.iload_n 3, 1) := by decide +kernel
theorem dX11_standsAhead_29 : decode cX11_standsAhead 29 = .ok (.if_icmp .ge 49, 3) := by decide +kernel
theorem dX11_standsAhead_32 : decode cX11_standsAhead 32 = .ok (.iload 5, 2) := by decide +kernel
theorem dX11_standsAhead_34 : decode cX11_standsAhead 34 = .ok (.aload_n 0, 1) := by decide +kernel
theorem dX11_standsAhead_35 : decode cX11_standsAhead 35 = .ok (.getfield 82, 3) := by decide +kernel
theorem dX11_standsAhead_38 : decode cX11_standsAhead 38 = .ok (.arraylength, 1) := by decide +kernel
theorem dX11_standsAhead_39 : decode cX11_standsAhead 39 = .ok (.if_icmp .ge 39, 3) := by decide +kernel
theorem dX11_standsAhead_42 : decode cX11_standsAhead 42 = .ok (.aload_n 0, 1) := by decide +kernel
theorem dX11_standsAhead_43 : decode cX11_standsAhead 43 = .ok (.getfield 82, 3) := by decide +kernel
theorem dX11_standsAhead_46 : decode cX11_standsAhead 46 = .ok (.iload 5, 2) := by decide +kernel
theorem dX11_standsAhead_48 : decode cX11_standsAhead 48 = .ok (.iaload, 1) := by decide +kernel
theorem dX11_standsAhead_49 : decode cX11_standsAhead 49 = .ok (.istore 6, 2) := by decide +kernel
theorem dX11_standsAhead_51 : decode cX11_standsAhead 51 = .ok (.aload_n 0, 1) := by decide +kernel
theorem dX11_standsAhead_52 : decode cX11_standsAhead 52 = .ok (.iload 4, 2) := by decide +kernel
theorem dX11_standsAhead_54 : decode cX11_standsAhead 54 = .ok (.iload 6, 2) := by decide +kernel
theorem dX11_standsAhead_56 : decode cX11_standsAhead 56 = .ok (.invokevirtual 304, 3) := by decide +kernel
theorem dX11_standsAhead_59 : decode cX11_standsAhead 59 = .ok (.aload_n 0, 1) := by decide +kernel
theorem dX11_standsAhead_60 : decode cX11_standsAhead 60 = .ok (.iload 6, 2) := by decide +kernel
theorem dX11_standsAhead_62 : decode cX11_standsAhead 62 = .ok (.iload 4, 2) := by decide +kernel
theorem dX11_standsAhead_64 : decode cX11_standsAhead 64 = .ok (.invokevirtual 304, 3) := by decide +kernel
theorem dX11_standsAhead_67 : decode cX11_standsAhead 67 = .ok (.if_icmp .le 5, 3) := by decide +kernel
theorem dX11_standsAhead_72 : decode cX11_standsAhead 72 = .ok (.iinc 5 1, 3) := by decide +kernel
theorem dX11_standsAhead_75 : decode cX11_standsAhead 75 = .ok (.goto (-49), 3) := by decide +kernel
theorem dX11_standsAhead_70 : decode cX11_standsAhead 70 = .ok (.iconst 0, 1) := by decide +kernel
theorem dX11_standsAhead_71 : decode cX11_standsAhead 71 = .ok (.ireturn, 1) := by decide +kernel
theorem dX11_standsAhead_78 : decode cX11_standsAhead 78 = .ok (.iconst 1, 1) := by decide +kernel
theorem dX11_standsAhead_79 : decode cX11_standsAhead 79 = .ok (.ireturn, 1) := by decide +kernel
set_option maxRecDepth 20000 in
theorem iw_x_standsAhead_X11 : ∀ w ∈ wsX110, w ∈ wsX11_standsAhead := by decide +kernel
set_option maxHeartbeats 4000000 in
set_option maxRecDepth 100000 in
theorem x_standsAhead (l : Launch) (dC : Nat → ClassId) (dI : Nat → Nat → Nat) (o : Nat) (aw : Nat) (ab : Nat → Nat) (ai : Nat) (ak : Nat) (sc : Nat) (rd : Nat) (fo : Nat) (tx : Nat) (ty : Int32) (ar : Nat) (at_ : Nat) (ao : Nat) (co_ : ClassId) (fo_ : Nat → Int32) (ub : Nat) (zb : Nat → Nat) (cb : Nat → ClassId) (fb : Nat → Nat → Int32) (na : Int32) (jp : Nat) (jm : Nat) (hB : (∀ i, zb i ≤ tz_lim i) ∧ ub ≤ 8) (hjp : jp ≤ 6) (hjm : jm ≤ 6) : Met l yX11_standsAhead wsX11_standsAhead ({ frames := 3, cells := 0, slots := 0, locals := 67 }) (va_Pc [.ref o, .int na, .int (nI jp), .int (nI jm)] (fun U => va_P (dC, dI) vwCl [(o, .inr (11, [.ref aw, .ref (ab 0), .ref ai, .ref ak, .ref sc, .ref rd, .ref fo, .ref tx, .int ty, .ref ar, .ref at_, .ref ao])), (ao, .inl (co_, 6, .inl fo_)), ((ab 0), .inr (0, [.ref (ab 1), .ref (ab 3), .ref (ab 5), .ref (ab 7), .ref (ab 9), .int (nI ub)])), ((ab 7), .inr (6, [.int 4, .int 6, .ref (ab 8), .int (nI (zb 3))])), ((ab 8), .inl ((cb 3), 24, .inl (fb 3)))] U.heap ∧ va_K (dC, dI) vwCl [(co_, .int), ((cb 3), .int)] U)) (vp_Si (fun r => r = 0 ∨ r = 1)) 0 0 (fun _ => False) := by
  refine Met.ofW (cc := cX11_standsAhead) (maxL := 7) (ret := (some .boolean)) (by decide) rfl ?_
  intro p e s m args below meth c s₁ B hml hv
  obtain ⟨rfl, hP, hK⟩ := hv
  have hx := B.exec
  have hb := B.bytes
  have hr := B.returns
  have hts := atoms_spec (ws := wsX11_standsAhead) B.pre
  have hown : s.vm.findClass RX11 = some m.cls := findClass_of_methodNamed B.named
  have hlocks := B.notSynchronized
  have hl := lv_entry ([.ref o, .int na, .int (nI jp), .int (nI jm)]) (n := 7) (Nat.le_of_ble_eq_true rfl)
  rw [lg_entry_eq]
  generalize (lg_sl ([.ref o, .int na, .int (nI jp), .int (nI jm)]) ++ List.replicate (7 - (lg_sl ([.ref o, .int na, .int (nI jp), .int (nI jm)])).length) Slot.unset).toArray = ls at hl ⊢
  have hl : lv_has ls 7 [(0, .ref o), (1, .int na), (2, .int (nI jp)), (3, .int (nI jm))] := hl
  have hz_zb_0 : zb 0 ≤ 5 := hB.1 0
  have hz_zb_1 : zb 1 ≤ 5 := hB.1 1
  have hz_zb_2 : zb 2 ≤ 8 := hB.1 2
  have hz_zb_3 : zb 3 ≤ 6 := hB.1 3
  have hz_zb_4 : zb 4 ≤ 8 := hB.1 4
  have hz_zb_5 : zb 5 ≤ 8 := hB.1 5
  have hz_zb_6 : zb 6 ≤ 8 := hB.1 6
  have hz_zb_7 : zb 7 ≤ 8 := hB.1 7
  have hz_zb_8 : zb 8 ≤ 8 := hB.1 8
  have hz_zb_9 : zb 9 ≤ 8 := hB.1 9
  have hz_zb_10 : zb 10 ≤ 8 := hB.1 10
  have hz_zb_11 : zb 11 ≤ 8 := hB.1 11
  have hu_zb := hB.2
  refine lv_iload_n hx hb dX11_standsAhead_0 rfl (lv_at hl 1 rfl) ?_
  refine lv_if_lt (tgt := 13) hx hb dX11_standsAhead_1 (by decide) (fun c_1 => ?_) (fun c_1 => ?_)
  · refine lv_iconst (v := 0) hx hb dX11_standsAhead_13 (by decide) ?_
    exact W.zret (v := 0) hx hb hr (by decide) (fun t ht hW => ⟨0, rfl, Or.inl rfl, ht⟩) (fun _ h => absurd h List.not_mem_nil) dX11_standsAhead_14
  · refine lv_iload_n hx hb dX11_standsAhead_4 rfl (lv_at hl 1 rfl) ?_
    refine lv_aload_n hx hb dX11_standsAhead_5 rfl (lv_at hl 0 rfl) ?_
    refine va_get (D := (dC, dI)) (ci := 11) (v := .ref ao) (C := RX11) (T := TX11) (N := 12) hx hb hts iw_x_standsAhead_X11 hown hK hP 0 rfl rfl 11 (by decide) (hts (.fieldLink RX11 82 "ThriceCounted" "order" "[I") (by decide +kernel)) (fun _ h9 => h9) rfl dX11_standsAhead_6 ?_
    refine va_alen (v := 6) hx hb hK hP 1 0 rfl rfl rfl dX11_standsAhead_9 ?_
    refine lv_icmp_lt (tgt := 15) hx hb dX11_standsAhead_10 (by decide) (fun c_2 => ?_) (fun c_2 => ?_)
    · refine lv_aload_n hx hb dX11_standsAhead_15 rfl (lv_at hl 0 rfl) ?_
      refine va_get (D := (dC, dI)) (ci := 11) (v := .ref ao) (C := RX11) (T := TX11) (N := 12) hx hb hts iw_x_standsAhead_X11 hown hK hP 0 rfl rfl 11 (by decide) (hts (.fieldLink RX11 82 "ThriceCounted" "order" "[I") (by decide +kernel)) (fun _ h9 => h9) rfl dX11_standsAhead_16 ?_
      refine lv_iload_n hx hb dX11_standsAhead_19 rfl (lv_at hl 1 rfl) ?_
      refine va_iald hx hb hK hP 1 0 rfl rfl (tz_in_le c_1 (tz_ltn c_2) (M := 6) (by decide)) dX11_standsAhead_20 ?_
      refine lv_topi (fun x_3 _ => ?_)
      refine lv_istore (lv' := [(4, .int x_3), (0, .ref o), (1, .int na), (2, .int (nI jp)), (3, .int (nI jm))]) hx hb dX11_standsAhead_21 hl (by decide) rfl (fun ls hl => ?_)
      refine lv_iload_n hx hb dX11_standsAhead_23 rfl (lv_at hl 3 rfl) ?_
      refine lv_istore (lv' := [(5, .int (nI jp)), (4, .int x_3), (0, .ref o), (1, .int na), (2, .int (nI jp)), (3, .int (nI jm))]) hx hb dX11_standsAhead_24 hl (by decide) rfl (fun ls hl => ?_)
      refine tz_while (σ := Nat × Array Slot) (fun x => W p l e _ s m _ below meth c _ _ _ _ _ (F0 m 26 x.2 [])) (fun x => x.1 ≤ jm + jp ∧ lv_has x.2 7 [(5, .int (nI x.1)), (4, .int x_3), (0, .ref o), (1, .int na), (2, .int (nI jp)), (3, .int (nI jm))]) (fun x => jm + jp - x.1) ?_ (jp, ls) ⟨by (try dsimp only); omega, hl⟩
      rintro ⟨k_4, ls⟩ ⟨hi_21_0, hl⟩ ih_22
      dsimp only at hi_21_0 hl ih_22 ⊢
      refine lv_iload hx hb dX11_standsAhead_26 (lv_at hl 0 rfl) ?_
      refine lv_iload_n hx hb dX11_standsAhead_28 rfl (lv_at hl 5 rfl) ?_
      refine lv_icmp_ge (tgt := 78) hx hb dX11_standsAhead_29 (by decide) (fun c_23 => ?_) (fun c_23 => ?_)
      · have hn_24 : jm ≤ k_4 := (nI_leI (a := jm) (b := k_4) (by omega) (by omega)).mp c_23
        refine lv_iconst (v := 1) hx hb dX11_standsAhead_78 (by decide) ?_
        exact W.zret (v := 1) hx hb hr (by decide) (fun t ht hW => ⟨1, rfl, Or.inr rfl, ht⟩) (fun _ h => absurd h List.not_mem_nil) dX11_standsAhead_79
      · have hn_25 : ¬ jm ≤ k_4 := fun q => c_23 ((nI_leI (a := jm) (b := k_4) (by omega) (by omega)).mpr q)
        refine lv_iload hx hb dX11_standsAhead_32 (lv_at hl 0 rfl) ?_
        refine lv_aload_n hx hb dX11_standsAhead_34 rfl (lv_at hl 2 rfl) ?_
        refine va_get (D := (dC, dI)) (ci := 11) (v := .ref ao) (C := RX11) (T := TX11) (N := 12) hx hb hts iw_x_standsAhead_X11 hown hK hP 0 rfl rfl 11 (by decide) (hts (.fieldLink RX11 82 "ThriceCounted" "order" "[I") (by decide +kernel)) (fun _ h9 => h9) rfl dX11_standsAhead_35 ?_
        refine va_alen (v := 6) hx hb hK hP 1 0 rfl rfl rfl dX11_standsAhead_38 ?_
        refine lv_icmp_ge (tgt := 78) hx hb dX11_standsAhead_39 (by decide) (fun c_26 => ?_) (fun c_26 => ?_)
        · have hn_27 : 6 ≤ k_4 := (nI_leI (a := 6) (b := k_4) (by omega) (by omega)).mp c_26
          refine lv_iconst (v := 1) hx hb dX11_standsAhead_78 (by decide) ?_
          exact W.zret (v := 1) hx hb hr (by decide) (fun t ht hW => ⟨1, rfl, Or.inr rfl, ht⟩) (fun _ h => absurd h List.not_mem_nil) dX11_standsAhead_79
        · have hn_28 : ¬ 6 ≤ k_4 := fun q => c_26 ((nI_leI (a := 6) (b := k_4) (by omega) (by omega)).mpr q)
          refine lv_aload_n hx hb dX11_standsAhead_42 rfl (lv_at hl 2 rfl) ?_
          refine va_get (D := (dC, dI)) (ci := 11) (v := .ref ao) (C := RX11) (T := TX11) (N := 12) hx hb hts iw_x_standsAhead_X11 hown hK hP 0 rfl rfl 11 (by decide) (hts (.fieldLink RX11 82 "ThriceCounted" "order" "[I") (by decide +kernel)) (fun _ h9 => h9) rfl dX11_standsAhead_43 ?_
          refine lv_iload hx hb dX11_standsAhead_46 (lv_at hl 0 rfl) ?_
          refine va_iald hx hb hK hP 1 0 rfl rfl (vp_in_nI (n := k_4) (N := 6) (by omega) (by decide)) dX11_standsAhead_48 ?_
          refine lv_topi (fun x_29 _ => ?_)
          refine lv_istore (lv' := [(6, .int x_29), (5, .int (nI k_4)), (4, .int x_3), (0, .ref o), (1, .int na), (2, .int (nI jp)), (3, .int (nI jm))]) hx hb dX11_standsAhead_49 hl (by decide) rfl (fun ls hl => ?_)
          refine lv_aload_n hx hb dX11_standsAhead_51 rfl (lv_at hl 3 rfl) ?_
          refine lv_iload hx hb dX11_standsAhead_52 (lv_at hl 2 rfl) ?_
          refine lv_iload hx hb dX11_standsAhead_54 (lv_at hl 0 rfl) ?_
          have hPc_30 := hP.sub (ws' := [(o, .inr (11, [.ref aw, .ref (ab 0), .ref ai, .ref ak, .ref sc, .ref rd, .ref fo, .ref tx, .int ty, .ref ar, .ref at_, .ref ao])), ((ab 0), .inr (0, [.ref (ab 1), .ref (ab 3), .ref (ab 5), .ref (ab 7), .ref (ab 9), .int (nI ub)])), ((ab 7), .inr (6, [.int 4, .int 6, .ref (ab 8), .int (nI (zb 3))])), ((ab 8), .inl ((cb 3), 24, .inl (fb 3)))]) [0, 2, 3, 4] rfl
          have hKc_31 := hK.sub (tys' := [((cb 3), .int)]) [1] rfl
          refine vp_callSi (va_Run.run (va_runV (As := [.int x_3, .int x_29]) (rest := []) ⟨hx, hb, hml, hown, hts⟩ (x_delay l dC dI o aw ab ai ak sc rd fo tx ty ar at_ ao ub zb cb fb x_3 x_29 ⟨hB.1, show ub ≤ 8 by omega⟩) (cwV 2 hts gX11_standsAhead_X11_delay rfl rfl rfl (by decide +kernel) ⟨Nat.le_of_ble_eq_true rfl, Nat.le_of_ble_eq_true rfl⟩) ⟨fun a U g mk q => by obtain ⟨q0, qP, qK⟩ := q; exact ⟨q0, qP, va_K.moved (u := U) (U := U.calling g mk a) (Vm.Alike.refl U.vm) qK⟩, va_recv hK hP (ci := 11) (q0 := 0) rfl rfl, fun U hU hW => ⟨rfl, by rw [hU]; exact hPc_30, va_K.moved hW.alike hKc_31⟩⟩ rfl rfl hl.1 rfl (lv_room (Nat.le_of_ble_eq_true rfl)) dX11_standsAhead_56 ⟨Nat.le_of_ble_eq_true rfl, Nat.le_of_ble_eq_true rfl⟩)) (fun r_32 hw_33 => ?_)
          refine lv_aload_n hx hb dX11_standsAhead_59 rfl (lv_at hl 3 rfl) ?_
          refine lv_iload hx hb dX11_standsAhead_60 (lv_at hl 0 rfl) ?_
          refine lv_iload hx hb dX11_standsAhead_62 (lv_at hl 2 rfl) ?_
          have hPc_34 := hP.sub (ws' := [(o, .inr (11, [.ref aw, .ref (ab 0), .ref ai, .ref ak, .ref sc, .ref rd, .ref fo, .ref tx, .int ty, .ref ar, .ref at_, .ref ao])), ((ab 0), .inr (0, [.ref (ab 1), .ref (ab 3), .ref (ab 5), .ref (ab 7), .ref (ab 9), .int (nI ub)])), ((ab 7), .inr (6, [.int 4, .int 6, .ref (ab 8), .int (nI (zb 3))])), ((ab 8), .inl ((cb 3), 24, .inl (fb 3)))]) [0, 2, 3, 4] rfl
          have hKc_35 := hK.sub (tys' := [((cb 3), .int)]) [1] rfl
          refine vp_callSi (va_Run.run (va_runV (As := [.int x_29, .int x_3]) (rest := [.int r_32]) ⟨hx, hb, hml, hown, hts⟩ (x_delay l dC dI o aw ab ai ak sc rd fo tx ty ar at_ ao ub zb cb fb x_29 x_3 ⟨hB.1, show ub ≤ 8 by omega⟩) (cwV 2 hts gX11_standsAhead_X11_delay rfl rfl rfl (by decide +kernel) ⟨Nat.le_of_ble_eq_true rfl, Nat.le_of_ble_eq_true rfl⟩) ⟨fun a U g mk q => by obtain ⟨q0, qP, qK⟩ := q; exact ⟨q0, qP, va_K.moved (u := U) (U := U.calling g mk a) (Vm.Alike.refl U.vm) qK⟩, va_recv hK hP (ci := 11) (q0 := 0) rfl rfl, fun U hU hW => ⟨rfl, by rw [hU]; exact hPc_34, va_K.moved hW.alike hKc_35⟩⟩ rfl rfl hl.1 rfl (lv_room (Nat.le_of_ble_eq_true rfl)) dX11_standsAhead_64 ⟨Nat.le_of_ble_eq_true rfl, Nat.le_of_ble_eq_true rfl⟩)) (fun r_36 hw_37 => ?_)
          refine lv_icmp_le (tgt := 72) hx hb dX11_standsAhead_67 (by decide) (fun c_38 => ?_) (fun c_38 => ?_)
          · refine lv_iinc (v := (nI (k_4 + 1))) (lv' := [(5, .int (nI (k_4 + 1))), (6, .int x_29), (4, .int x_3), (0, .ref o), (1, .int na), (2, .int (nI jp)), (3, .int (nI jm))]) hx hb dX11_standsAhead_72 hl (k := 1) rfl (nI_add k_4 1) (by decide) rfl (fun ls hl => ?_)
            refine lv_goto (tgt := 26) hx hb dX11_standsAhead_75 (by decide) ?_
            exact ih_22 ((k_4 + 1), ls) ⟨by dsimp only; omega, lv_sub hl [0, 2, 3, 4, 5, 6] rfl⟩ (by dsimp only; omega)
          · refine lv_iconst (v := 0) hx hb dX11_standsAhead_70 (by decide) ?_
            exact W.zret (v := 0) hx hb hr (by decide) (fun t ht hW => ⟨0, rfl, Or.inl rfl, ht⟩) (fun _ h => absurd h List.not_mem_nil) dX11_standsAhead_71
    · refine lv_iconst (v := 0) hx hb dX11_standsAhead_13 (by decide) ?_
      exact W.zret (v := 0) hx hb hr (by decide) (fun t ht hW => ⟨0, rfl, Or.inl rfl, ht⟩) (fun _ h => absurd h List.not_mem_nil) dX11_standsAhead_14
set_option maxRecDepth 20000 in
theorem ggX11_sortForSearch_X11_standsAhead : GoodIn wsX11_sortForSearch wsX11_standsAhead := goodIn_r _ [6, 1, 7, 8, 9, 5, 10, 11, 12, 13, 14, 15, 16, 17, 18, 19, 20, 21, 22, 23, 24, 25, 26, 27, 28, 29, 30, 31, 32, 33, 34, 35, 36, 37, 38, 39, 40, 41, 42, 43, 44, 45, 46] (by decide +kernel) (by decide +kernel)
set_option maxRecDepth 20000 in
theorem gX11_sortForSearch_X11_standsAhead : GoodIn wsX11_sortForSearch (wsV RX11 301 RX11 yX11_standsAhead wsX11_standsAhead) := goodIn_app (goodIn_of _ (by decide +kernel)) ggX11_sortForSearch_X11_standsAhead
theorem dX11_sortForSearch_0 : decode cX11_sortForSearch 0 = .ok (.iconst 0, 1) := by decide +kernel
theorem dX11_sortForSearch_1 : decode cX11_sortForSearch 1 = .ok (.istore_n 2, 1) := by decide +kernel
theorem dX11_sortForSearch_2 : decode cX11_sortForSearch 2 = .ok (.iload_n 2, 1) := by decide +kernel
theorem dX11_sortForSearch_3 : decode cX11_sortForSearch 3 = .ok (.iload_n 1, 1) := by decide +kernel
theorem dX11_sortForSearch_4 : decode cX11_sortForSearch 4 = .ok (.if_icmp .ge 109, 3) := by decide +kernel
theorem dX11_sortForSearch_7 : decode cX11_sortForSearch 7 = .ok (.iload_n 2, 1) := by decide +kernel
theorem dX11_sortForSearch_8 : decode cX11_sortForSearch 8 = .ok (.aload_n 0, 1) := by decide +kernel
theorem dX11_sortForSearch_9 : decode cX11_sortForSearch 9 = .ok (.getfield 82, 3) := by decide +kernel
theorem dX11_sortForSearch_12 : decode cX11_sortForSearch 12 = .ok (.arraylength, 1) := by decide +kernel
theorem dX11_sortForSearch_13 : decode cX11_sortForSearch 13 = .ok (.if_icmp .ge 100, 3) := by decide +kernel
theorem dX11_sortForSearch_16 : decode cX11_sortForSearch 16 = .ok (.iload_n 2, 1) := by decide +kernel
theorem dX11_sortForSearch_17 : decode cX11_sortForSearch 17 = .ok (.istore_n 3, 1) := by decide +kernel
theorem dX11_sortForSearch_18 : decode cX11_sortForSearch 18 = .ok (.iload_n 2, 1) := by decide +kernel
theorem dX11_sortForSearch_19 : decode cX11_sortForSearch 19 = .ok (.istore 4, 2) := by decide +kernel
theorem dX11_sortForSearch_21 : decode cX11_sortForSearch 21 = .ok (.iload 4, 2) := by decide +kernel
theorem dX11_sortForSearch_23 : decode cX11_sortForSearch 23 = .ok (.iload_n 1, 1) := by decide +kernel
theorem dX11_sortForSearch_24 : decode cX11_sortForSearch 24 = .ok (.if_icmp .ge 36, 3) := by decide +kernel
theorem dX11_sortForSearch_27 : decode cX11_sortForSearch 27 = .ok (.iload 4, 2) := by decide +kernel
theorem dX11_sortForSearch_29 : decode cX11_sortForSearch 29 = .ok (.aload_n 0, 1) := by decide +kernel
theorem dX11_sortForSearch_30 : decode cX11_sortForSearch 30 = .ok (.getfield 82, 3) := by decide +kernel
theorem dX11_sortForSearch_33 : decode cX11_sortForSearch 33 = .ok (.arraylength, 1) := by decide +kernel
theorem dX11_sortForSearch_34 : decode cX11_sortForSearch 34 = .ok (.if_icmp .ge 26, 3) := by decide +kernel
theorem dX11_sortForSearch_37 : decode cX11_sortForSearch 37 = .ok (.aload_n 0, 1) := by decide +kernel
theorem dX11_sortForSearch_38 : decode cX11_sortForSearch 38 = .ok (.iload 4, 2) := by decide +kernel
theorem dX11_sortForSearch_40 : decode cX11_sortForSearch 40 = .ok (.iload_n 2, 1) := by decide +kernel
theorem dX11_sortForSearch_41 : decode cX11_sortForSearch 41 = .ok (.iload_n 1, 1) := by decide +kernel
theorem dX11_sortForSearch_42 : decode cX11_sortForSearch 42 = .ok (.invokevirtual 301, 3) := by decide +kernel
theorem dX11_sortForSearch_45 : decode cX11_sortForSearch 45 = .ok (.ifCond .eq 9, 3) := by decide +kernel
theorem dX11_sortForSearch_54 : decode cX11_sortForSearch 54 = .ok (.iinc 4 1, 3) := by decide +kernel
theorem dX11_sortForSearch_57 : decode cX11_sortForSearch 57 = .ok (.goto (-36), 3) := by decide +kernel
theorem dX11_sortForSearch_48 : decode cX11_sortForSearch 48 = .ok (.iload 4, 2) := by decide +kernel
theorem dX11_sortForSearch_50 : decode cX11_sortForSearch 50 = .ok (.istore_n 3, 1) := by decide +kernel
theorem dX11_sortForSearch_51 : decode cX11_sortForSearch 51 = .ok (.goto 9, 3) := by decide +kernel
theorem dX11_sortForSearch_60 : decode cX11_sortForSearch 60 = .ok (.aload_n 0, 1) := by decide +kernel
theorem dX11_sortForSearch_61 : decode cX11_sortForSearch 61 = .ok (.getfield 82, 3) := by decide +kernel
theorem dX11_sortForSearch_64 : decode cX11_sortForSearch 64 = .ok (.iload_n 3, 1) := by decide +kernel
theorem dX11_sortForSearch_65 : decode cX11_sortForSearch 65 = .ok (.iaload, 1) := by decide +kernel
theorem dX11_sortForSearch_66 : decode cX11_sortForSearch 66 = .ok (.istore 4, 2) := by decide +kernel
theorem dX11_sortForSearch_68 : decode cX11_sortForSearch 68 = .ok (.iload_n 3, 1) := by decide +kernel
theorem dX11_sortForSearch_69 : decode cX11_sortForSearch 69 = .ok (.istore 5, 2) := by decide +kernel
theorem dX11_sortForSearch_71 : decode cX11_sortForSearch 71 = .ok (.iload 5, 2) := by decide +kernel
theorem dX11_sortForSearch_73 : decode cX11_sortForSearch 73 = .ok (.iload_n 2, 1) := by decide +kernel
theorem dX11_sortForSearch_74 : decode cX11_sortForSearch 74 = .ok (.if_icmp .le 25, 3) := by decide +kernel
theorem dX11_sortForSearch_77 : decode cX11_sortForSearch 77 = .ok (.aload_n 0, 1) := by decide +kernel
theorem dX11_sortForSearch_78 : decode cX11_sortForSearch 78 = .ok (.getfield 82, 3) := by decide +kernel
theorem dX11_sortForSearch_81 : decode cX11_sortForSearch 81 = .ok (.iload 5, 2) := by decide +kernel
theorem dX11_sortForSearch_83 : decode cX11_sortForSearch 83 = .ok (.aload_n 0, 1) := by decide +kernel
theorem dX11_sortForSearch_84 : decode cX11_sortForSearch 84 = .ok (.getfield 82, 3) := by decide +kernel
theorem dX11_sortForSearch_87 : decode cX11_sortForSearch 87 = .ok (.iload 5, 2) := by decide +kernel
theorem dX11_sortForSearch_89 : decode cX11_sortForSearch 89 = .ok (.iconst 1, 1) := by decide +kernel
theorem dX11_sortForSearch_90 : decode cX11_sortForSearch 90 = .ok (.isub, 1) := by decide +kernel
theorem dX11_sortForSearch_91 : decode cX11_sortForSearch 91 = .ok (.iaload, 1) := by decide +kernel
theorem dX11_sortForSearch_92 : decode cX11_sortForSearch 92 = .ok (.iastore, 1) := by decide +kernel
theorem dX11_sortForSearch_93 : decode cX11_sortForSearch 93 = .ok (.iinc 5 (-1), 3) := by decide +kernel
theorem dX11_sortForSearch_96 : decode cX11_sortForSearch 96 = .ok (.goto (-25), 3) := by decide +kernel
theorem dX11_sortForSearch_99 : decode cX11_sortForSearch 99 = .ok (.aload_n 0, 1) := by decide +kernel
theorem dX11_sortForSearch_100 : decode cX11_sortForSearch 100 = .ok (.getfield 82, 3) := by decide +kernel
theorem dX11_sortForSearch_103 : decode cX11_sortForSearch 103 = .ok (.iload_n 2, 1) := by decide +kernel
theorem dX11_sortForSearch_104 : decode cX11_sortForSearch 104 = .ok (.iload 4, 2) := by decide +kernel
theorem dX11_sortForSearch_106 : decode cX11_sortForSearch 106 = .ok (.iastore, 1) := by decide +kernel
theorem dX11_sortForSearch_107 : decode cX11_sortForSearch 107 = .ok (.iinc 2 1, 3) := by decide +kernel
theorem dX11_sortForSearch_110 : decode cX11_sortForSearch 110 = .ok (.goto (-108), 3) := by decide +kernel
theorem dX11_sortForSearch_113 : decode cX11_sortForSearch 113 = .ok (.return_, 1) := by decide +kernel
set_option maxRecDepth 20000 in
theorem iw_x_sortForSearch_X11 : ∀ w ∈ wsX110, w ∈ wsX11_sortForSearch := by decide +kernel
set_option maxHeartbeats 4000000 in
set_option maxRecDepth 100000 in
theorem x_sortForSearch (l : Launch) (dC : Nat → ClassId) (dI : Nat → Nat → Nat) (o : Nat) (aw : Nat) (ab : Nat → Nat) (ai : Nat) (ak : Nat) (sc : Nat) (rd : Nat) (fo : Nat) (tx : Nat) (ty : Int32) (ar : Nat) (at_ : Nat) (ao : Nat) (co_ : ClassId) (fo_ : Nat → Int32) (ub : Nat) (zb : Nat → Nat) (cb : Nat → ClassId) (fb : Nat → Nat → Int32) (jm : Nat) (sz : Nat) (hB : (∀ i, zb i ≤ tz_lim i) ∧ ub ≤ 8) (hjm : jm ≤ 6) : Met l yX11_sortForSearch wsX11_sortForSearch ({ frames := 4, cells := 0, slots := 0, locals := 93 }) (va_Pc [.ref o, .int (nI jm)] (fun U => U.heap.size = sz ∧ va_P (dC, dI) vwCl [(o, .inr (11, [.ref aw, .ref (ab 0), .ref ai, .ref ak, .ref sc, .ref rd, .ref fo, .ref tx, .int ty, .ref ar, .ref at_, .ref ao])), (ao, .inl (co_, 6, .inl fo_)), ((ab 0), .inr (0, [.ref (ab 1), .ref (ab 3), .ref (ab 5), .ref (ab 7), .ref (ab 9), .int (nI ub)])), ((ab 7), .inr (6, [.int 4, .int 6, .ref (ab 8), .int (nI (zb 3))])), ((ab 8), .inl ((cb 3), 24, .inl (fb 3)))] U.heap ∧ va_K (dC, dI) vwCl [(co_, .int), ((cb 3), .int)] U ∧ va_D (fun _ => True) [(o, .inr (11, [.ref aw, .ref (ab 0), .ref ai, .ref ak, .ref sc, .ref rd, .ref fo, .ref tx, .int ty, .ref ar, .ref at_, .ref ao])), (ao, .inl (co_, 6, .inl fo_)), ((ab 0), .inr (0, [.ref (ab 1), .ref (ab 3), .ref (ab 5), .ref (ab 7), .ref (ab 9), .int (nI ub)])), ((ab 7), .inr (6, [.int 4, .int 6, .ref (ab 8), .int (nI (zb 3))])), ((ab 8), .inl ((cb 3), 24, .inl (fb 3)))])) (va_Qv (fun (_ : Unit) => True) (fun _ t => ∃ (go_ : Nat → Int32), va_P (dC, dI) vwCl [(o, .inr (11, [.ref aw, .ref (ab 0), .ref ai, .ref ak, .ref sc, .ref rd, .ref fo, .ref tx, .int ty, .ref ar, .ref at_, .ref ao])), (ao, .inl (co_, 6, .inl go_)), ((ab 0), .inr (0, [.ref (ab 1), .ref (ab 3), .ref (ab 5), .ref (ab 7), .ref (ab 9), .int (nI ub)])), ((ab 7), .inr (6, [.int 4, .int 6, .ref (ab 8), .int (nI (zb 3))])), ((ab 8), .inl ((cb 3), 24, .inl (fb 3)))] t.heap ∧ va_K (dC, dI) vwCl [(co_, .int), ((cb 3), .int)] t ∧ va_D (va_A [(o, .inr (11, [.ref aw, .ref (ab 0), .ref ai, .ref ak, .ref sc, .ref rd, .ref fo, .ref tx, .int ty, .ref ar, .ref at_, .ref ao])), (ao, .inl (co_, 6, .inl fo_)), ((ab 0), .inr (0, [.ref (ab 1), .ref (ab 3), .ref (ab 5), .ref (ab 7), .ref (ab 9), .int (nI ub)])), ((ab 7), .inr (6, [.int 4, .int 6, .ref (ab 8), .int (nI (zb 3))])), ((ab 8), .inl ((cb 3), 24, .inl (fb 3)))] sz) [(o, .inr (11, [.ref aw, .ref (ab 0), .ref ai, .ref ak, .ref sc, .ref rd, .ref fo, .ref tx, .int ty, .ref ar, .ref at_, .ref ao])), (ao, .inl (co_, 6, .inl go_)), ((ab 0), .inr (0, [.ref (ab 1), .ref (ab 3), .ref (ab 5), .ref (ab 7), .ref (ab 9), .int (nI ub)])), ((ab 7), .inr (6, [.int 4, .int 6, .ref (ab 8), .int (nI (zb 3))])), ((ab 8), .inl ((cb 3), 24, .inl (fb 3)))]) (va_A [(o, .inr (11, [.ref aw, .ref (ab 0), .ref ai, .ref ak, .ref sc, .ref rd, .ref fo, .ref tx, .int ty, .ref ar, .ref at_, .ref ao])), (ao, .inl (co_, 6, .inl fo_)), ((ab 0), .inr (0, [.ref (ab 1), .ref (ab 3), .ref (ab 5), .ref (ab 7), .ref (ab 9), .int (nI ub)])), ((ab 7), .inr (6, [.int 4, .int 6, .ref (ab 8), .int (nI (zb 3))])), ((ab 8), .inl ((cb 3), 24, .inl (fb 3)))] sz)) 0 0 (va_A [(o, .inr (11, [.ref aw, .ref (ab 0), .ref ai, .ref ak, .ref sc, .ref rd, .ref fo, .ref tx, .int ty, .ref ar, .ref at_, .ref ao])), (ao, .inl (co_, 6, .inl fo_)), ((ab 0), .inr (0, [.ref (ab 1), .ref (ab 3), .ref (ab 5), .ref (ab 7), .ref (ab 9), .int (nI ub)])), ((ab 7), .inr (6, [.int 4, .int 6, .ref (ab 8), .int (nI (zb 3))])), ((ab 8), .inl ((cb 3), 24, .inl (fb 3)))] sz) := by
  refine Met.ofW (cc := cX11_sortForSearch) (maxL := 6) (ret := none) (by decide) rfl ?_
  intro p e s m args below meth c s₁ B hml hv
  obtain ⟨rfl, hsz, hP, hK, hD0⟩ := hv
  have hx := B.exec
  have hb := B.bytes
  have hr := B.returns
  have hts := atoms_spec (ws := wsX11_sortForSearch) B.pre
  have hown : s.vm.findClass RX11 = some m.cls := findClass_of_methodNamed B.named
  have hlocks := B.notSynchronized
  subst hsz
  have hD := hD0.self (sz := s.heap.size)
  generalize hAe : va_A [(o, .inr (11, [.ref aw, .ref (ab 0), .ref ai, .ref ak, .ref sc, .ref rd, .ref fo, .ref tx, .int ty, .ref ar, .ref at_, .ref ao])), (ao, .inl (co_, 6, .inl fo_)), ((ab 0), .inr (0, [.ref (ab 1), .ref (ab 3), .ref (ab 5), .ref (ab 7), .ref (ab 9), .int (nI ub)])), ((ab 7), .inr (6, [.int 4, .int 6, .ref (ab 8), .int (nI (zb 3))])), ((ab 8), .inl ((cb 3), 24, .inl (fb 3)))] s.heap.size = A at hD ⊢
  have hA : ∀ q : Nat, s.heap.size ≤ q → A q := fun q h => by rw [← hAe]; exact Or.inr h
  have hS : va_S A s.heap s.heap [] := va_S.rf
  have hP : va_P (dC, dI) vwCl [(o, .inr (11, [.ref aw, .ref (ab 0), .ref ai, .ref ak, .ref sc, .ref rd, .ref fo, .ref tx, .int ty, .ref ar, .ref at_, .ref ao])), (ao, .inl (co_, 6, .inl fo_)), ((ab 0), .inr (0, [.ref (ab 1), .ref (ab 3), .ref (ab 5), .ref (ab 7), .ref (ab 9), .int (nI ub)])), ((ab 7), .inr (6, [.int 4, .int 6, .ref (ab 8), .int (nI (zb 3))])), ((ab 8), .inl ((cb 3), 24, .inl (fb 3)))] s.heap := hP
  have hl := lv_entry ([.ref o, .int (nI jm)]) (n := 6) (Nat.le_of_ble_eq_true rfl)
  rw [lg_entry_eq]
  generalize (lg_sl ([.ref o, .int (nI jm)]) ++ List.replicate (6 - (lg_sl ([.ref o, .int (nI jm)])).length) Slot.unset).toArray = ls at hl ⊢
  have hl : lv_has ls 6 [(0, .ref o), (1, .int (nI jm))] := hl
  have hz_zb_0 : zb 0 ≤ 5 := hB.1 0
  have hz_zb_1 : zb 1 ≤ 5 := hB.1 1
  have hz_zb_2 : zb 2 ≤ 8 := hB.1 2
  have hz_zb_3 : zb 3 ≤ 6 := hB.1 3
  have hz_zb_4 : zb 4 ≤ 8 := hB.1 4
  have hz_zb_5 : zb 5 ≤ 8 := hB.1 5
  have hz_zb_6 : zb 6 ≤ 8 := hB.1 6
  have hz_zb_7 : zb 7 ≤ 8 := hB.1 7
  have hz_zb_8 : zb 8 ≤ 8 := hB.1 8
  have hz_zb_9 : zb 9 ≤ 8 := hB.1 9
  have hz_zb_10 : zb 10 ≤ 8 := hB.1 10
  have hz_zb_11 : zb 11 ≤ 8 := hB.1 11
  have hu_zb := hB.2
  refine lv_iconst (v := 0) hx hb dX11_sortForSearch_0 (by decide) ?_
  refine lv_istore_n (lv' := [(2, .int 0), (0, .ref o), (1, .int (nI jm))]) hx hb dX11_sortForSearch_1 rfl hl (by decide) rfl (fun ls hl => ?_)
  refine tz_while (σ := Nat × (Nat → Int32) × Heap × List Loc × Array Slot) (fun x => W p l e _ s m _ below meth c x.2.2.1 x.2.2.2.1 _ _ _ (F0 m 2 x.2.2.2.2 [])) (fun x => x.1 ≤ jm ∧ va_P (dC, dI) vwCl [(o, .inr (11, [.ref aw, .ref (ab 0), .ref ai, .ref ak, .ref sc, .ref rd, .ref fo, .ref tx, .int ty, .ref ar, .ref at_, .ref ao])), (ao, .inl (co_, 6, .inl x.2.1)), ((ab 0), .inr (0, [.ref (ab 1), .ref (ab 3), .ref (ab 5), .ref (ab 7), .ref (ab 9), .int (nI ub)])), ((ab 7), .inr (6, [.int 4, .int 6, .ref (ab 8), .int (nI (zb 3))])), ((ab 8), .inl ((cb 3), 24, .inl (fb 3)))] x.2.2.1 ∧ va_D A [(o, .inr (11, [.ref aw, .ref (ab 0), .ref ai, .ref ak, .ref sc, .ref rd, .ref fo, .ref tx, .int ty, .ref ar, .ref at_, .ref ao])), (ao, .inl (co_, 6, .inl x.2.1)), ((ab 0), .inr (0, [.ref (ab 1), .ref (ab 3), .ref (ab 5), .ref (ab 7), .ref (ab 9), .int (nI ub)])), ((ab 7), .inr (6, [.int 4, .int 6, .ref (ab 8), .int (nI (zb 3))])), ((ab 8), .inl ((cb 3), 24, .inl (fb 3)))] ∧ va_S A s.heap x.2.2.1 x.2.2.2.1 ∧ lv_has x.2.2.2.2 6 [(2, .int (nI x.1)), (0, .ref o), (1, .int (nI jm))]) (fun x => jm - x.1) ?_ (0, fo_, s.heap, [], ls) ⟨by (try dsimp only); omega, hP, hD, hS, hl⟩
  rintro ⟨k_1, f_96, H, locs, ls⟩ ⟨hi_191_0, hP, hD, hS, hl⟩ ih_192
  dsimp only at hi_191_0 hP hD hS hl ih_192 ⊢
  refine lv_iload_n hx hb dX11_sortForSearch_2 rfl (lv_at hl 0 rfl) ?_
  refine lv_iload_n hx hb dX11_sortForSearch_3 rfl (lv_at hl 2 rfl) ?_
  refine lv_icmp_ge (tgt := 113) hx hb dX11_sortForSearch_4 (by decide) (fun c_193 => ?_) (fun c_193 => ?_)
  · have hn_194 : jm ≤ k_1 := (nI_leI (a := jm) (b := k_1) (by omega) (by omega)).mp c_193
    have hP9 := hP.sub (ws' := [(o, .inr (11, [.ref aw, .ref (ab 0), .ref ai, .ref ak, .ref sc, .ref rd, .ref fo, .ref tx, .int ty, .ref ar, .ref at_, .ref ao])), (ao, .inl (co_, 6, .inl f_96)), ((ab 0), .inr (0, [.ref (ab 1), .ref (ab 3), .ref (ab 5), .ref (ab 7), .ref (ab 9), .int (nI ub)])), ((ab 7), .inr (6, [.int 4, .int 6, .ref (ab 8), .int (nI (zb 3))])), ((ab 8), .inl ((cb 3), 24, .inl (fb 3)))]) [0, 1, 2, 3, 4] rfl
    have hD9 := hD.sub (ws' := [(o, .inr (11, [.ref aw, .ref (ab 0), .ref ai, .ref ak, .ref sc, .ref rd, .ref fo, .ref tx, .int ty, .ref ar, .ref at_, .ref ao])), (ao, .inl (co_, 6, .inl f_96)), ((ab 0), .inr (0, [.ref (ab 1), .ref (ab 3), .ref (ab 5), .ref (ab 7), .ref (ab 9), .int (nI ub)])), ((ab 7), .inr (6, [.int 4, .int 6, .ref (ab 8), .int (nI (zb 3))])), ((ab 8), .inl ((cb 3), 24, .inl (fb 3)))]) [0, 1, 2, 3, 4] (by decide) rfl
    have hK9 := hK.sub (tys' := [(co_, .int), ((cb 3), .int)]) [0, 1] rfl
    exact W.vret hx hb hr (fun t ht hW => ⟨⟨(), rfl, trivial, f_96, by rw [ht]; exact hP9, va_K.moved hW.alike hK9, hD9⟩, hS.F ht⟩) hS.2.2 dX11_sortForSearch_113
  · have hn_195 : ¬ jm ≤ k_1 := fun q => c_193 ((nI_leI (a := jm) (b := k_1) (by omega) (by omega)).mpr q)
    refine lv_iload_n hx hb dX11_sortForSearch_7 rfl (lv_at hl 0 rfl) ?_
    refine lv_aload_n hx hb dX11_sortForSearch_8 rfl (lv_at hl 1 rfl) ?_
    refine va_get (D := (dC, dI)) (ci := 11) (v := .ref ao) (C := RX11) (T := TX11) (N := 12) hx hb hts iw_x_sortForSearch_X11 hown hK hP 0 rfl rfl 11 (by decide) (hts (.fieldLink RX11 82 "ThriceCounted" "order" "[I") (by decide +kernel)) (fun _ h9 => h9) rfl dX11_sortForSearch_9 ?_
    refine va_alen (v := 6) hx hb hK hP 1 0 rfl rfl rfl dX11_sortForSearch_12 ?_
    refine lv_icmp_ge (tgt := 113) hx hb dX11_sortForSearch_13 (by decide) (fun c_196 => ?_) (fun c_196 => ?_)
    · have hn_197 : 6 ≤ k_1 := (nI_leI (a := 6) (b := k_1) (by omega) (by omega)).mp c_196
      have hP9 := hP.sub (ws' := [(o, .inr (11, [.ref aw, .ref (ab 0), .ref ai, .ref ak, .ref sc, .ref rd, .ref fo, .ref tx, .int ty, .ref ar, .ref at_, .ref ao])), (ao, .inl (co_, 6, .inl f_96)), ((ab 0), .inr (0, [.ref (ab 1), .ref (ab 3), .ref (ab 5), .ref (ab 7), .ref (ab 9), .int (nI ub)])), ((ab 7), .inr (6, [.int 4, .int 6, .ref (ab 8), .int (nI (zb 3))])), ((ab 8), .inl ((cb 3), 24, .inl (fb 3)))]) [0, 1, 2, 3, 4] rfl
      have hD9 := hD.sub (ws' := [(o, .inr (11, [.ref aw, .ref (ab 0), .ref ai, .ref ak, .ref sc, .ref rd, .ref fo, .ref tx, .int ty, .ref ar, .ref at_, .ref ao])), (ao, .inl (co_, 6, .inl f_96)), ((ab 0), .inr (0, [.ref (ab 1), .ref (ab 3), .ref (ab 5), .ref (ab 7), .ref (ab 9), .int (nI ub)])), ((ab 7), .inr (6, [.int 4, .int 6, .ref (ab 8), .int (nI (zb 3))])), ((ab 8), .inl ((cb 3), 24, .inl (fb 3)))]) [0, 1, 2, 3, 4] (by decide) rfl
      have hK9 := hK.sub (tys' := [(co_, .int), ((cb 3), .int)]) [0, 1] rfl
      exact W.vret hx hb hr (fun t ht hW => ⟨⟨(), rfl, trivial, f_96, by rw [ht]; exact hP9, va_K.moved hW.alike hK9, hD9⟩, hS.F ht⟩) hS.2.2 dX11_sortForSearch_113
    · have hn_198 : ¬ 6 ≤ k_1 := fun q => c_196 ((nI_leI (a := 6) (b := k_1) (by omega) (by omega)).mpr q)
      refine lv_iload_n hx hb dX11_sortForSearch_16 rfl (lv_at hl 0 rfl) ?_
      refine lv_istore_n (lv' := [(3, .int (nI k_1)), (2, .int (nI k_1)), (0, .ref o), (1, .int (nI jm))]) hx hb dX11_sortForSearch_17 rfl hl (by decide) rfl (fun ls hl => ?_)
      refine lv_iload_n hx hb dX11_sortForSearch_18 rfl (lv_at hl 1 rfl) ?_
      refine lv_istore (lv' := [(4, .int (nI k_1)), (3, .int (nI k_1)), (2, .int (nI k_1)), (0, .ref o), (1, .int (nI jm))]) hx hb dX11_sortForSearch_19 hl (by decide) rfl (fun ls hl => ?_)
      refine tz_while (σ := Nat × Array Slot) (fun x => W p l e _ s m _ below meth c _ _ _ _ _ (F0 m 21 x.2 [])) (fun x => x.1 ≤ jm + k_1 ∧ lv_has x.2 6 [(4, .int (nI x.1)), (3, .int (nI k_1)), (2, .int (nI k_1)), (0, .ref o), (1, .int (nI jm))]) (fun x => jm + k_1 - x.1) ?_ (k_1, ls) ⟨by (try dsimp only); omega, hl⟩
      rintro ⟨k_199, ls⟩ ⟨hi_211_0, hl⟩ ih_212
      dsimp only at hi_211_0 hl ih_212 ⊢
      refine lv_iload hx hb dX11_sortForSearch_21 (lv_at hl 0 rfl) ?_
      refine lv_iload_n hx hb dX11_sortForSearch_23 rfl (lv_at hl 4 rfl) ?_
      refine lv_icmp_ge (tgt := 60) hx hb dX11_sortForSearch_24 (by decide) (fun c_213 => ?_) (fun c_213 => ?_)
      · have hn_214 : jm ≤ k_199 := (nI_leI (a := jm) (b := k_199) (by omega) (by omega)).mp c_213
        refine lv_aload_n hx hb dX11_sortForSearch_60 rfl (lv_at hl 3 rfl) ?_
        refine va_get (D := (dC, dI)) (ci := 11) (v := .ref ao) (C := RX11) (T := TX11) (N := 12) hx hb hts iw_x_sortForSearch_X11 hown hK hP 0 rfl rfl 11 (by decide) (hts (.fieldLink RX11 82 "ThriceCounted" "order" "[I") (by decide +kernel)) (fun _ h9 => h9) rfl dX11_sortForSearch_61 ?_
        refine lv_iload_n hx hb dX11_sortForSearch_64 rfl (lv_at hl 1 rfl) ?_
        refine va_iald hx hb hK hP 1 0 rfl rfl (vp_in_nI (n := k_1) (N := 6) (by omega) (by decide)) dX11_sortForSearch_65 ?_
        refine lv_topi (fun x_215 _ => ?_)
        refine lv_istore (lv' := [(4, .int x_215), (3, .int (nI k_1)), (2, .int (nI k_1)), (0, .ref o), (1, .int (nI jm))]) hx hb dX11_sortForSearch_66 hl (by decide) rfl (fun ls hl => ?_)
        refine lv_iload_n hx hb dX11_sortForSearch_68 rfl (lv_at hl 1 rfl) ?_
        refine lv_istore (lv' := [(5, .int (nI k_1)), (4, .int x_215), (3, .int (nI k_1)), (2, .int (nI k_1)), (0, .ref o), (1, .int (nI jm))]) hx hb dX11_sortForSearch_69 hl (by decide) rfl (fun ls hl => ?_)
        refine tz_while (σ := Nat × (Nat → Int32) × Heap × List Loc × Array Slot) (fun x => W p l e _ s m _ below meth c x.2.2.1 x.2.2.2.1 _ _ _ (F0 m 71 x.2.2.2.2 [])) (fun x => x.1 ≤ 5 ∧ va_P (dC, dI) vwCl [(o, .inr (11, [.ref aw, .ref (ab 0), .ref ai, .ref ak, .ref sc, .ref rd, .ref fo, .ref tx, .int ty, .ref ar, .ref at_, .ref ao])), (ao, .inl (co_, 6, .inl x.2.1)), ((ab 0), .inr (0, [.ref (ab 1), .ref (ab 3), .ref (ab 5), .ref (ab 7), .ref (ab 9), .int (nI ub)])), ((ab 7), .inr (6, [.int 4, .int 6, .ref (ab 8), .int (nI (zb 3))])), ((ab 8), .inl ((cb 3), 24, .inl (fb 3)))] x.2.2.1 ∧ va_D A [(o, .inr (11, [.ref aw, .ref (ab 0), .ref ai, .ref ak, .ref sc, .ref rd, .ref fo, .ref tx, .int ty, .ref ar, .ref at_, .ref ao])), (ao, .inl (co_, 6, .inl x.2.1)), ((ab 0), .inr (0, [.ref (ab 1), .ref (ab 3), .ref (ab 5), .ref (ab 7), .ref (ab 9), .int (nI ub)])), ((ab 7), .inr (6, [.int 4, .int 6, .ref (ab 8), .int (nI (zb 3))])), ((ab 8), .inl ((cb 3), 24, .inl (fb 3)))] ∧ va_S A s.heap x.2.2.1 x.2.2.2.1 ∧ lv_has x.2.2.2.2 6 [(5, .int (nI x.1)), (4, .int x_215), (3, .int (nI k_1)), (2, .int (nI k_1)), (0, .ref o), (1, .int (nI jm))]) (fun x => x.1) ?_ (k_1, f_96, H, locs, ls) ⟨by (try dsimp only); omega, hP, hD, hS, hl⟩
        rintro ⟨k_216, f_222, H, locs, ls⟩ ⟨hi_228_0, hP, hD, hS, hl⟩ ih_229
        dsimp only at hi_228_0 hP hD hS hl ih_229 ⊢
        refine lv_iload hx hb dX11_sortForSearch_71 (lv_at hl 0 rfl) ?_
        refine lv_iload_n hx hb dX11_sortForSearch_73 rfl (lv_at hl 3 rfl) ?_
        refine lv_icmp_le (tgt := 99) hx hb dX11_sortForSearch_74 (by decide) (fun c_230 => ?_) (fun c_230 => ?_)
        · have hn_231 : k_216 ≤ k_1 := (nI_leI (a := k_216) (b := k_1) (by omega) (by omega)).mp c_230
          refine lv_aload_n hx hb dX11_sortForSearch_99 rfl (lv_at hl 4 rfl) ?_
          refine va_get (D := (dC, dI)) (ci := 11) (v := .ref ao) (C := RX11) (T := TX11) (N := 12) hx hb hts iw_x_sortForSearch_X11 hown hK hP 0 rfl rfl 11 (by decide) (hts (.fieldLink RX11 82 "ThriceCounted" "order" "[I") (by decide +kernel)) (fun _ h9 => h9) rfl dX11_sortForSearch_100 ?_
          refine lv_iload_n hx hb dX11_sortForSearch_103 rfl (lv_at hl 3 rfl) ?_
          refine lv_iload hx hb dX11_sortForSearch_104 (lv_at hl 1 rfl) ?_
          refine va_iast hx hb hK hP hD hS 1 0 rfl rfl (vp_in_nI (n := k_1) (N := 6) (by omega) (by decide)) dX11_sortForSearch_106 (fun H locs hP hD hS => ?_)
          generalize (upd f_222 (Int32.toNatClampNeg (nI k_1)) x_215) = f_232 at hP hD
          have hP : va_P (dC, dI) vwCl [(o, .inr (11, [.ref aw, .ref (ab 0), .ref ai, .ref ak, .ref sc, .ref rd, .ref fo, .ref tx, .int ty, .ref ar, .ref at_, .ref ao])), (ao, .inl (co_, 6, .inl f_232)), ((ab 0), .inr (0, [.ref (ab 1), .ref (ab 3), .ref (ab 5), .ref (ab 7), .ref (ab 9), .int (nI ub)])), ((ab 7), .inr (6, [.int 4, .int 6, .ref (ab 8), .int (nI (zb 3))])), ((ab 8), .inl ((cb 3), 24, .inl (fb 3)))] H := hP
          have hD : va_D A [(o, .inr (11, [.ref aw, .ref (ab 0), .ref ai, .ref ak, .ref sc, .ref rd, .ref fo, .ref tx, .int ty, .ref ar, .ref at_, .ref ao])), (ao, .inl (co_, 6, .inl f_232)), ((ab 0), .inr (0, [.ref (ab 1), .ref (ab 3), .ref (ab 5), .ref (ab 7), .ref (ab 9), .int (nI ub)])), ((ab 7), .inr (6, [.int 4, .int 6, .ref (ab 8), .int (nI (zb 3))])), ((ab 8), .inl ((cb 3), 24, .inl (fb 3)))] := hD
          refine lv_iinc (v := (nI (k_1 + 1))) (lv' := [(2, .int (nI (k_1 + 1))), (5, .int (nI k_216)), (4, .int x_215), (3, .int (nI k_1)), (0, .ref o), (1, .int (nI jm))]) hx hb dX11_sortForSearch_107 hl (k := 3) rfl (nI_add k_1 1) (by decide) rfl (fun ls hl => ?_)
          refine lv_goto (tgt := 2) hx hb dX11_sortForSearch_110 (by decide) ?_
          exact ih_192 ((k_1 + 1), f_232, H, locs, ls) ⟨by dsimp only; omega, hP, hD, hS, lv_sub hl [0, 4, 5] rfl⟩ (by dsimp only; omega)
        · have hn_233 : ¬ k_216 ≤ k_1 := fun q => c_230 ((nI_leI (a := k_216) (b := k_1) (by omega) (by omega)).mpr q)
          refine lv_aload_n hx hb dX11_sortForSearch_77 rfl (lv_at hl 4 rfl) ?_
          refine va_get (D := (dC, dI)) (ci := 11) (v := .ref ao) (C := RX11) (T := TX11) (N := 12) hx hb hts iw_x_sortForSearch_X11 hown hK hP 0 rfl rfl 11 (by decide) (hts (.fieldLink RX11 82 "ThriceCounted" "order" "[I") (by decide +kernel)) (fun _ h9 => h9) rfl dX11_sortForSearch_78 ?_
          refine lv_iload hx hb dX11_sortForSearch_81 (lv_at hl 0 rfl) ?_
          refine lv_aload_n hx hb dX11_sortForSearch_83 rfl (lv_at hl 4 rfl) ?_
          refine va_get (D := (dC, dI)) (ci := 11) (v := .ref ao) (C := RX11) (T := TX11) (N := 12) hx hb hts iw_x_sortForSearch_X11 hown hK hP 0 rfl rfl 11 (by decide) (hts (.fieldLink RX11 82 "ThriceCounted" "order" "[I") (by decide +kernel)) (fun _ h9 => h9) rfl dX11_sortForSearch_84 ?_
          refine lv_iload hx hb dX11_sortForSearch_87 (lv_at hl 0 rfl) ?_
          refine lv_iconst (v := 1) hx hb dX11_sortForSearch_89 (by decide) ?_
          refine lv_isub hx hb dX11_sortForSearch_90 ?_
          refine tz_i (nI (k_216 - 1)) (pk_sub (a := k_216) (b := 1) (by omega)) ?_
          refine va_iald hx hb hK hP 1 0 rfl rfl (vp_in_nI (n := (k_216 - 1)) (N := 6) (by omega) (by decide)) dX11_sortForSearch_91 ?_
          refine lv_topi (fun x_234 _ => ?_)
          refine va_iast hx hb hK hP hD hS 1 0 rfl rfl (vp_in_nI (n := k_216) (N := 6) (by omega) (by decide)) dX11_sortForSearch_92 (fun H locs hP hD hS => ?_)
          generalize (upd f_222 (Int32.toNatClampNeg (nI k_216)) x_234) = f_235 at hP hD
          have hP : va_P (dC, dI) vwCl [(o, .inr (11, [.ref aw, .ref (ab 0), .ref ai, .ref ak, .ref sc, .ref rd, .ref fo, .ref tx, .int ty, .ref ar, .ref at_, .ref ao])), (ao, .inl (co_, 6, .inl f_235)), ((ab 0), .inr (0, [.ref (ab 1), .ref (ab 3), .ref (ab 5), .ref (ab 7), .ref (ab 9), .int (nI ub)])), ((ab 7), .inr (6, [.int 4, .int 6, .ref (ab 8), .int (nI (zb 3))])), ((ab 8), .inl ((cb 3), 24, .inl (fb 3)))] H := hP
          have hD : va_D A [(o, .inr (11, [.ref aw, .ref (ab 0), .ref ai, .ref ak, .ref sc, .ref rd, .ref fo, .ref tx, .int ty, .ref ar, .ref at_, .ref ao])), (ao, .inl (co_, 6, .inl f_235)), ((ab 0), .inr (0, [.ref (ab 1), .ref (ab 3), .ref (ab 5), .ref (ab 7), .ref (ab 9), .int (nI ub)])), ((ab 7), .inr (6, [.int 4, .int 6, .ref (ab 8), .int (nI (zb 3))])), ((ab 8), .inl ((cb 3), 24, .inl (fb 3)))] := hD
          refine lv_iinc (v := (nI (k_216 - 1))) (lv' := [(5, .int (nI (k_216 - 1))), (4, .int x_215), (3, .int (nI k_1)), (2, .int (nI k_1)), (0, .ref o), (1, .int (nI jm))]) hx hb dX11_sortForSearch_93 hl (k := 0) rfl (tz_dec (k := k_216) (by omega)) (by decide) rfl (fun ls hl => ?_)
          refine lv_goto (tgt := 71) hx hb dX11_sortForSearch_96 (by decide) ?_
          exact ih_229 ((k_216 - 1), f_235, H, locs, ls) ⟨by dsimp only; omega, hP, hD, hS, lv_sub hl [0, 1, 2, 3, 4, 5] rfl⟩ (by dsimp only; omega)
      · have hn_236 : ¬ jm ≤ k_199 := fun q => c_213 ((nI_leI (a := jm) (b := k_199) (by omega) (by omega)).mpr q)
        refine lv_iload hx hb dX11_sortForSearch_27 (lv_at hl 0 rfl) ?_
        refine lv_aload_n hx hb dX11_sortForSearch_29 rfl (lv_at hl 3 rfl) ?_
        refine va_get (D := (dC, dI)) (ci := 11) (v := .ref ao) (C := RX11) (T := TX11) (N := 12) hx hb hts iw_x_sortForSearch_X11 hown hK hP 0 rfl rfl 11 (by decide) (hts (.fieldLink RX11 82 "ThriceCounted" "order" "[I") (by decide +kernel)) (fun _ h9 => h9) rfl dX11_sortForSearch_30 ?_
        refine va_alen (v := 6) hx hb hK hP 1 0 rfl rfl rfl dX11_sortForSearch_33 ?_
        refine lv_icmp_ge (tgt := 60) hx hb dX11_sortForSearch_34 (by decide) (fun c_237 => ?_) (fun c_237 => ?_)
        · have hn_238 : 6 ≤ k_199 := (nI_leI (a := 6) (b := k_199) (by omega) (by omega)).mp c_237
          refine lv_aload_n hx hb dX11_sortForSearch_60 rfl (lv_at hl 3 rfl) ?_
          refine va_get (D := (dC, dI)) (ci := 11) (v := .ref ao) (C := RX11) (T := TX11) (N := 12) hx hb hts iw_x_sortForSearch_X11 hown hK hP 0 rfl rfl 11 (by decide) (hts (.fieldLink RX11 82 "ThriceCounted" "order" "[I") (by decide +kernel)) (fun _ h9 => h9) rfl dX11_sortForSearch_61 ?_
          refine lv_iload_n hx hb dX11_sortForSearch_64 rfl (lv_at hl 1 rfl) ?_
          refine va_iald hx hb hK hP 1 0 rfl rfl (vp_in_nI (n := k_1) (N := 6) (by omega) (by decide)) dX11_sortForSearch_65 ?_
          refine lv_topi (fun x_239 _ => ?_)
          refine lv_istore (lv' := [(4, .int x_239), (3, .int (nI k_1)), (2, .int (nI k_1)), (0, .ref o), (1, .int (nI jm))]) hx hb dX11_sortForSearch_66 hl (by decide) rfl (fun ls hl => ?_)
          refine lv_iload_n hx hb dX11_sortForSearch_68 rfl (lv_at hl 1 rfl) ?_
          refine lv_istore (lv' := [(5, .int (nI k_1)), (4, .int x_239), (3, .int (nI k_1)), (2, .int (nI k_1)), (0, .ref o), (1, .int (nI jm))]) hx hb dX11_sortForSearch_69 hl (by decide) rfl (fun ls hl => ?_)
          refine tz_while (σ := Nat × (Nat → Int32) × Heap × List Loc × Array Slot) (fun x => W p l e _ s m _ below meth c x.2.2.1 x.2.2.2.1 _ _ _ (F0 m 71 x.2.2.2.2 [])) (fun x => x.1 ≤ 5 ∧ va_P (dC, dI) vwCl [(o, .inr (11, [.ref aw, .ref (ab 0), .ref ai, .ref ak, .ref sc, .ref rd, .ref fo, .ref tx, .int ty, .ref ar, .ref at_, .ref ao])), (ao, .inl (co_, 6, .inl x.2.1)), ((ab 0), .inr (0, [.ref (ab 1), .ref (ab 3), .ref (ab 5), .ref (ab 7), .ref (ab 9), .int (nI ub)])), ((ab 7), .inr (6, [.int 4, .int 6, .ref (ab 8), .int (nI (zb 3))])), ((ab 8), .inl ((cb 3), 24, .inl (fb 3)))] x.2.2.1 ∧ va_D A [(o, .inr (11, [.ref aw, .ref (ab 0), .ref ai, .ref ak, .ref sc, .ref rd, .ref fo, .ref tx, .int ty, .ref ar, .ref at_, .ref ao])), (ao, .inl (co_, 6, .inl x.2.1)), ((ab 0), .inr (0, [.ref (ab 1), .ref (ab 3), .ref (ab 5), .ref (ab 7), .ref (ab 9), .int (nI ub)])), ((ab 7), .inr (6, [.int 4, .int 6, .ref (ab 8), .int (nI (zb 3))])), ((ab 8), .inl ((cb 3), 24, .inl (fb 3)))] ∧ va_S A s.heap x.2.2.1 x.2.2.2.1 ∧ lv_has x.2.2.2.2 6 [(5, .int (nI x.1)), (4, .int x_239), (3, .int (nI k_1)), (2, .int (nI k_1)), (0, .ref o), (1, .int (nI jm))]) (fun x => x.1) ?_ (k_1, f_96, H, locs, ls) ⟨by (try dsimp only); omega, hP, hD, hS, hl⟩
          rintro ⟨k_240, f_246, H, locs, ls⟩ ⟨hi_252_0, hP, hD, hS, hl⟩ ih_253
          dsimp only at hi_252_0 hP hD hS hl ih_253 ⊢
          refine lv_iload hx hb dX11_sortForSearch_71 (lv_at hl 0 rfl) ?_
          refine lv_iload_n hx hb dX11_sortForSearch_73 rfl (lv_at hl 3 rfl) ?_
          refine lv_icmp_le (tgt := 99) hx hb dX11_sortForSearch_74 (by decide) (fun c_254 => ?_) (fun c_254 => ?_)
          · have hn_255 : k_240 ≤ k_1 := (nI_leI (a := k_240) (b := k_1) (by omega) (by omega)).mp c_254
            refine lv_aload_n hx hb dX11_sortForSearch_99 rfl (lv_at hl 4 rfl) ?_
            refine va_get (D := (dC, dI)) (ci := 11) (v := .ref ao) (C := RX11) (T := TX11) (N := 12) hx hb hts iw_x_sortForSearch_X11 hown hK hP 0 rfl rfl 11 (by decide) (hts (.fieldLink RX11 82 "ThriceCounted" "order" "[I") (by decide +kernel)) (fun _ h9 => h9) rfl dX11_sortForSearch_100 ?_
            refine lv_iload_n hx hb dX11_sortForSearch_103 rfl (lv_at hl 3 rfl) ?_
            refine lv_iload hx hb dX11_sortForSearch_104 (lv_at hl 1 rfl) ?_
            refine va_iast hx hb hK hP hD hS 1 0 rfl rfl (vp_in_nI (n := k_1) (N := 6) (by omega) (by decide)) dX11_sortForSearch_106 (fun H locs hP hD hS => ?_)
            generalize (upd f_246 (Int32.toNatClampNeg (nI k_1)) x_239) = f_256 at hP hD
            have hP : va_P (dC, dI) vwCl [(o, .inr (11, [.ref aw, .ref (ab 0), .ref ai, .ref ak, .ref sc, .ref rd, .ref fo, .ref tx, .int ty, .ref ar, .ref at_, .ref ao])), (ao, .inl (co_, 6, .inl f_256)), ((ab 0), .inr (0, [.ref (ab 1), .ref (ab 3), .ref (ab 5), .ref (ab 7), .ref (ab 9), .int (nI ub)])), ((ab 7), .inr (6, [.int 4, .int 6, .ref (ab 8), .int (nI (zb 3))])), ((ab 8), .inl ((cb 3), 24, .inl (fb 3)))] H := hP
            have hD : va_D A [(o, .inr (11, [.ref aw, .ref (ab 0), .ref ai, .ref ak, .ref sc, .ref rd, .ref fo, .ref tx, .int ty, .ref ar, .ref at_, .ref ao])), (ao, .inl (co_, 6, .inl f_256)), ((ab 0), .inr (0, [.ref (ab 1), .ref (ab 3), .ref (ab 5), .ref (ab 7), .ref (ab 9), .int (nI ub)])), ((ab 7), .inr (6, [.int 4, .int 6, .ref (ab 8), .int (nI (zb 3))])), ((ab 8), .inl ((cb 3), 24, .inl (fb 3)))] := hD
            refine lv_iinc (v := (nI (k_1 + 1))) (lv' := [(2, .int (nI (k_1 + 1))), (5, .int (nI k_240)), (4, .int x_239), (3, .int (nI k_1)), (0, .ref o), (1, .int (nI jm))]) hx hb dX11_sortForSearch_107 hl (k := 3) rfl (nI_add k_1 1) (by decide) rfl (fun ls hl => ?_)
            refine lv_goto (tgt := 2) hx hb dX11_sortForSearch_110 (by decide) ?_
            exact ih_192 ((k_1 + 1), f_256, H, locs, ls) ⟨by dsimp only; omega, hP, hD, hS, lv_sub hl [0, 4, 5] rfl⟩ (by dsimp only; omega)
          · have hn_257 : ¬ k_240 ≤ k_1 := fun q => c_254 ((nI_leI (a := k_240) (b := k_1) (by omega) (by omega)).mpr q)
            refine lv_aload_n hx hb dX11_sortForSearch_77 rfl (lv_at hl 4 rfl) ?_
            refine va_get (D := (dC, dI)) (ci := 11) (v := .ref ao) (C := RX11) (T := TX11) (N := 12) hx hb hts iw_x_sortForSearch_X11 hown hK hP 0 rfl rfl 11 (by decide) (hts (.fieldLink RX11 82 "ThriceCounted" "order" "[I") (by decide +kernel)) (fun _ h9 => h9) rfl dX11_sortForSearch_78 ?_
            refine lv_iload hx hb dX11_sortForSearch_81 (lv_at hl 0 rfl) ?_
            refine lv_aload_n hx hb dX11_sortForSearch_83 rfl (lv_at hl 4 rfl) ?_
            refine va_get (D := (dC, dI)) (ci := 11) (v := .ref ao) (C := RX11) (T := TX11) (N := 12) hx hb hts iw_x_sortForSearch_X11 hown hK hP 0 rfl rfl 11 (by decide) (hts (.fieldLink RX11 82 "ThriceCounted" "order" "[I") (by decide +kernel)) (fun _ h9 => h9) rfl dX11_sortForSearch_84 ?_
            refine lv_iload hx hb dX11_sortForSearch_87 (lv_at hl 0 rfl) ?_
            refine lv_iconst (v := 1) hx hb dX11_sortForSearch_89 (by decide) ?_
            refine lv_isub hx hb dX11_sortForSearch_90 ?_
            refine tz_i (nI (k_240 - 1)) (pk_sub (a := k_240) (b := 1) (by omega)) ?_
            refine va_iald hx hb hK hP 1 0 rfl rfl (vp_in_nI (n := (k_240 - 1)) (N := 6) (by omega) (by decide)) dX11_sortForSearch_91 ?_
            refine lv_topi (fun x_258 _ => ?_)
            refine va_iast hx hb hK hP hD hS 1 0 rfl rfl (vp_in_nI (n := k_240) (N := 6) (by omega) (by decide)) dX11_sortForSearch_92 (fun H locs hP hD hS => ?_)
            generalize (upd f_246 (Int32.toNatClampNeg (nI k_240)) x_258) = f_259 at hP hD
            have hP : va_P (dC, dI) vwCl [(o, .inr (11, [.ref aw, .ref (ab 0), .ref ai, .ref ak, .ref sc, .ref rd, .ref fo, .ref tx, .int ty, .ref ar, .ref at_, .ref ao])), (ao, .inl (co_, 6, .inl f_259)), ((ab 0), .inr (0, [.ref (ab 1), .ref (ab 3), .ref (ab 5), .ref (ab 7), .ref (ab 9), .int (nI ub)])), ((ab 7), .inr (6, [.int 4, .int 6, .ref (ab 8), .int (nI (zb 3))])), ((ab 8), .inl ((cb 3), 24, .inl (fb 3)))] H := hP
            have hD : va_D A [(o, .inr (11, [.ref aw, .ref (ab 0), .ref ai, .ref ak, .ref sc, .ref rd, .ref fo, .ref tx, .int ty, .ref ar, .ref at_, .ref ao])), (ao, .inl (co_, 6, .inl f_259)), ((ab 0), .inr (0, [.ref (ab 1), .ref (ab 3), .ref (ab 5), .ref (ab 7), .ref (ab 9), .int (nI ub)])), ((ab 7), .inr (6, [.int 4, .int 6, .ref (ab 8), .int (nI (zb 3))])), ((ab 8), .inl ((cb 3), 24, .inl (fb 3)))] := hD
            refine lv_iinc (v := (nI (k_240 - 1))) (lv' := [(5, .int (nI (k_240 - 1))), (4, .int x_239), (3, .int (nI k_1)), (2, .int (nI k_1)), (0, .ref o), (1, .int (nI jm))]) hx hb dX11_sortForSearch_93 hl (k := 0) rfl (tz_dec (k := k_240) (by omega)) (by decide) rfl (fun ls hl => ?_)
            refine lv_goto (tgt := 71) hx hb dX11_sortForSearch_96 (by decide) ?_
            exact ih_253 ((k_240 - 1), f_259, H, locs, ls) ⟨by dsimp only; omega, hP, hD, hS, lv_sub hl [0, 1, 2, 3, 4, 5] rfl⟩ (by dsimp only; omega)
        · have hn_260 : ¬ 6 ≤ k_199 := fun q => c_237 ((nI_leI (a := 6) (b := k_199) (by omega) (by omega)).mpr q)
          refine lv_aload_n hx hb dX11_sortForSearch_37 rfl (lv_at hl 3 rfl) ?_
          refine lv_iload hx hb dX11_sortForSearch_38 (lv_at hl 0 rfl) ?_
          refine lv_iload_n hx hb dX11_sortForSearch_40 rfl (lv_at hl 2 rfl) ?_
          refine lv_iload_n hx hb dX11_sortForSearch_41 rfl (lv_at hl 4 rfl) ?_
          have hPc_261 := hP.sub (ws' := [(o, .inr (11, [.ref aw, .ref (ab 0), .ref ai, .ref ak, .ref sc, .ref rd, .ref fo, .ref tx, .int ty, .ref ar, .ref at_, .ref ao])), (ao, .inl (co_, 6, .inl f_96)), ((ab 0), .inr (0, [.ref (ab 1), .ref (ab 3), .ref (ab 5), .ref (ab 7), .ref (ab 9), .int (nI ub)])), ((ab 7), .inr (6, [.int 4, .int 6, .ref (ab 8), .int (nI (zb 3))])), ((ab 8), .inl ((cb 3), 24, .inl (fb 3)))]) [0, 1, 2, 3, 4] rfl
          have hKc_262 := hK.sub (tys' := [(co_, .int), ((cb 3), .int)]) [0, 1] rfl
          refine vp_callSi (va_Run.run (va_runV (As := [.int (nI k_199), .int (nI k_1), .int (nI jm)]) (rest := []) ⟨hx, hb, hml, hown, hts⟩ (x_standsAhead l dC dI o aw ab ai ak sc rd fo tx ty ar at_ ao co_ f_96 ub zb cb fb (nI k_199) k_1 jm ⟨hB.1, show ub ≤ 8 by omega⟩ (by omega) (by omega)) (cwV 3 hts gX11_sortForSearch_X11_standsAhead rfl rfl rfl (by decide +kernel) ⟨Nat.le_of_ble_eq_true rfl, Nat.le_of_ble_eq_true rfl⟩) ⟨fun a U g mk q => by obtain ⟨q0, qP, qK⟩ := q; exact ⟨q0, qP, va_K.moved (u := U) (U := U.calling g mk a) (Vm.Alike.refl U.vm) qK⟩, va_recv hK hP (ci := 11) (q0 := 0) rfl rfl, fun U hU hW => ⟨rfl, by rw [hU]; exact hPc_261, va_K.moved hW.alike hKc_262⟩⟩ rfl rfl hl.1 rfl (lv_room (Nat.le_of_ble_eq_true rfl)) dX11_sortForSearch_42 ⟨Nat.le_of_ble_eq_true rfl, Nat.le_of_ble_eq_true rfl⟩)) (fun r_263 hw_264 => ?_)
          refine lv_if_eq (tgt := 54) hx hb dX11_sortForSearch_45 (by decide) (fun c_265 => ?_) (fun c_265 => ?_)
          · refine lv_iinc (v := (nI (k_199 + 1))) (lv' := [(4, .int (nI (k_199 + 1))), (3, .int (nI k_1)), (2, .int (nI k_1)), (0, .ref o), (1, .int (nI jm))]) hx hb dX11_sortForSearch_54 hl (k := 0) rfl (nI_add k_199 1) (by decide) rfl (fun ls hl => ?_)
            refine lv_goto (tgt := 21) hx hb dX11_sortForSearch_57 (by decide) ?_
            exact ih_212 ((k_199 + 1), ls) ⟨by dsimp only; omega, lv_sub hl [0, 1, 2, 3, 4] rfl⟩ (by dsimp only; omega)
          · refine lv_iload hx hb dX11_sortForSearch_48 (lv_at hl 0 rfl) ?_
            refine lv_istore_n (lv' := [(3, .int (nI k_199)), (4, .int (nI k_199)), (2, .int (nI k_1)), (0, .ref o), (1, .int (nI jm))]) hx hb dX11_sortForSearch_50 rfl hl (by decide) rfl (fun ls hl => ?_)
            refine lv_goto (tgt := 60) hx hb dX11_sortForSearch_51 (by decide) ?_
            refine lv_aload_n hx hb dX11_sortForSearch_60 rfl (lv_at hl 3 rfl) ?_
            refine va_get (D := (dC, dI)) (ci := 11) (v := .ref ao) (C := RX11) (T := TX11) (N := 12) hx hb hts iw_x_sortForSearch_X11 hown hK hP 0 rfl rfl 11 (by decide) (hts (.fieldLink RX11 82 "ThriceCounted" "order" "[I") (by decide +kernel)) (fun _ h9 => h9) rfl dX11_sortForSearch_61 ?_
            refine lv_iload_n hx hb dX11_sortForSearch_64 rfl (lv_at hl 0 rfl) ?_
            refine va_iald hx hb hK hP 1 0 rfl rfl (vp_in_nI (n := k_199) (N := 6) (by omega) (by decide)) dX11_sortForSearch_65 ?_
            refine lv_topi (fun x_266 _ => ?_)
            refine lv_istore (lv' := [(4, .int x_266), (3, .int (nI k_199)), (2, .int (nI k_1)), (0, .ref o), (1, .int (nI jm))]) hx hb dX11_sortForSearch_66 hl (by decide) rfl (fun ls hl => ?_)
            refine lv_iload_n hx hb dX11_sortForSearch_68 rfl (lv_at hl 1 rfl) ?_
            refine lv_istore (lv' := [(5, .int (nI k_199)), (4, .int x_266), (3, .int (nI k_199)), (2, .int (nI k_1)), (0, .ref o), (1, .int (nI jm))]) hx hb dX11_sortForSearch_69 hl (by decide) rfl (fun ls hl => ?_)
            refine tz_while (σ := Nat × (Nat → Int32) × Heap × List Loc × Array Slot) (fun x => W p l e _ s m _ below meth c x.2.2.1 x.2.2.2.1 _ _ _ (F0 m 71 x.2.2.2.2 [])) (fun x => x.1 ≤ 5 ∧ va_P (dC, dI) vwCl [(o, .inr (11, [.ref aw, .ref (ab 0), .ref ai, .ref ak, .ref sc, .ref rd, .ref fo, .ref tx, .int ty, .ref ar, .ref at_, .ref ao])), (ao, .inl (co_, 6, .inl x.2.1)), ((ab 0), .inr (0, [.ref (ab 1), .ref (ab 3), .ref (ab 5), .ref (ab 7), .ref (ab 9), .int (nI ub)])), ((ab 7), .inr (6, [.int 4, .int 6, .ref (ab 8), .int (nI (zb 3))])), ((ab 8), .inl ((cb 3), 24, .inl (fb 3)))] x.2.2.1 ∧ va_D A [(o, .inr (11, [.ref aw, .ref (ab 0), .ref ai, .ref ak, .ref sc, .ref rd, .ref fo, .ref tx, .int ty, .ref ar, .ref at_, .ref ao])), (ao, .inl (co_, 6, .inl x.2.1)), ((ab 0), .inr (0, [.ref (ab 1), .ref (ab 3), .ref (ab 5), .ref (ab 7), .ref (ab 9), .int (nI ub)])), ((ab 7), .inr (6, [.int 4, .int 6, .ref (ab 8), .int (nI (zb 3))])), ((ab 8), .inl ((cb 3), 24, .inl (fb 3)))] ∧ va_S A s.heap x.2.2.1 x.2.2.2.1 ∧ lv_has x.2.2.2.2 6 [(5, .int (nI x.1)), (4, .int x_266), (3, .int (nI k_199)), (2, .int (nI k_1)), (0, .ref o), (1, .int (nI jm))]) (fun x => x.1) ?_ (k_199, f_96, H, locs, ls) ⟨by (try dsimp only); omega, hP, hD, hS, hl⟩
            rintro ⟨k_267, f_273, H, locs, ls⟩ ⟨hi_279_0, hP, hD, hS, hl⟩ ih_280
            dsimp only at hi_279_0 hP hD hS hl ih_280 ⊢
            refine lv_iload hx hb dX11_sortForSearch_71 (lv_at hl 0 rfl) ?_
            refine lv_iload_n hx hb dX11_sortForSearch_73 rfl (lv_at hl 3 rfl) ?_
            refine lv_icmp_le (tgt := 99) hx hb dX11_sortForSearch_74 (by decide) (fun c_281 => ?_) (fun c_281 => ?_)
            · have hn_282 : k_267 ≤ k_1 := (nI_leI (a := k_267) (b := k_1) (by omega) (by omega)).mp c_281
              refine lv_aload_n hx hb dX11_sortForSearch_99 rfl (lv_at hl 4 rfl) ?_
              refine va_get (D := (dC, dI)) (ci := 11) (v := .ref ao) (C := RX11) (T := TX11) (N := 12) hx hb hts iw_x_sortForSearch_X11 hown hK hP 0 rfl rfl 11 (by decide) (hts (.fieldLink RX11 82 "ThriceCounted" "order" "[I") (by decide +kernel)) (fun _ h9 => h9) rfl dX11_sortForSearch_100 ?_
              refine lv_iload_n hx hb dX11_sortForSearch_103 rfl (lv_at hl 3 rfl) ?_
              refine lv_iload hx hb dX11_sortForSearch_104 (lv_at hl 1 rfl) ?_
              refine va_iast hx hb hK hP hD hS 1 0 rfl rfl (vp_in_nI (n := k_1) (N := 6) (by omega) (by decide)) dX11_sortForSearch_106 (fun H locs hP hD hS => ?_)
              generalize (upd f_273 (Int32.toNatClampNeg (nI k_1)) x_266) = f_283 at hP hD
              have hP : va_P (dC, dI) vwCl [(o, .inr (11, [.ref aw, .ref (ab 0), .ref ai, .ref ak, .ref sc, .ref rd, .ref fo, .ref tx, .int ty, .ref ar, .ref at_, .ref ao])), (ao, .inl (co_, 6, .inl f_283)), ((ab 0), .inr (0, [.ref (ab 1), .ref (ab 3), .ref (ab 5), .ref (ab 7), .ref (ab 9), .int (nI ub)])), ((ab 7), .inr (6, [.int 4, .int 6, .ref (ab 8), .int (nI (zb 3))])), ((ab 8), .inl ((cb 3), 24, .inl (fb 3)))] H := hP
              have hD : va_D A [(o, .inr (11, [.ref aw, .ref (ab 0), .ref ai, .ref ak, .ref sc, .ref rd, .ref fo, .ref tx, .int ty, .ref ar, .ref at_, .ref ao])), (ao, .inl (co_, 6, .inl f_283)), ((ab 0), .inr (0, [.ref (ab 1), .ref (ab 3), .ref (ab 5), .ref (ab 7), .ref (ab 9), .int (nI ub)])), ((ab 7), .inr (6, [.int 4, .int 6, .ref (ab 8), .int (nI (zb 3))])), ((ab 8), .inl ((cb 3), 24, .inl (fb 3)))] := hD
              refine lv_iinc (v := (nI (k_1 + 1))) (lv' := [(2, .int (nI (k_1 + 1))), (5, .int (nI k_267)), (4, .int x_266), (3, .int (nI k_199)), (0, .ref o), (1, .int (nI jm))]) hx hb dX11_sortForSearch_107 hl (k := 3) rfl (nI_add k_1 1) (by decide) rfl (fun ls hl => ?_)
              refine lv_goto (tgt := 2) hx hb dX11_sortForSearch_110 (by decide) ?_
              exact ih_192 ((k_1 + 1), f_283, H, locs, ls) ⟨by dsimp only; omega, hP, hD, hS, lv_sub hl [0, 4, 5] rfl⟩ (by dsimp only; omega)
            · have hn_284 : ¬ k_267 ≤ k_1 := fun q => c_281 ((nI_leI (a := k_267) (b := k_1) (by omega) (by omega)).mpr q)
              refine lv_aload_n hx hb dX11_sortForSearch_77 rfl (lv_at hl 4 rfl) ?_
              refine va_get (D := (dC, dI)) (ci := 11) (v := .ref ao) (C := RX11) (T := TX11) (N := 12) hx hb hts iw_x_sortForSearch_X11 hown hK hP 0 rfl rfl 11 (by decide) (hts (.fieldLink RX11 82 "ThriceCounted" "order" "[I") (by decide +kernel)) (fun _ h9 => h9) rfl dX11_sortForSearch_78 ?_
              refine lv_iload hx hb dX11_sortForSearch_81 (lv_at hl 0 rfl) ?_
              refine lv_aload_n hx hb dX11_sortForSearch_83 rfl (lv_at hl 4 rfl) ?_
              refine va_get (D := (dC, dI)) (ci := 11) (v := .ref ao) (C := RX11) (T := TX11) (N := 12) hx hb hts iw_x_sortForSearch_X11 hown hK hP 0 rfl rfl 11 (by decide) (hts (.fieldLink RX11 82 "ThriceCounted" "order" "[I") (by decide +kernel)) (fun _ h9 => h9) rfl dX11_sortForSearch_84 ?_
              refine lv_iload hx hb dX11_sortForSearch_87 (lv_at hl 0 rfl) ?_
              refine lv_iconst (v := 1) hx hb dX11_sortForSearch_89 (by decide) ?_
              refine lv_isub hx hb dX11_sortForSearch_90 ?_
              refine tz_i (nI (k_267 - 1)) (pk_sub (a := k_267) (b := 1) (by omega)) ?_
              refine va_iald hx hb hK hP 1 0 rfl rfl (vp_in_nI (n := (k_267 - 1)) (N := 6) (by omega) (by decide)) dX11_sortForSearch_91 ?_
              refine lv_topi (fun x_285 _ => ?_)
              refine va_iast hx hb hK hP hD hS 1 0 rfl rfl (vp_in_nI (n := k_267) (N := 6) (by omega) (by decide)) dX11_sortForSearch_92 (fun H locs hP hD hS => ?_)
              generalize (upd f_273 (Int32.toNatClampNeg (nI k_267)) x_285) = f_286 at hP hD
              have hP : va_P (dC, dI) vwCl [(o, .inr (11, [.ref aw, .ref (ab 0), .ref ai, .ref ak, .ref sc, .ref rd, .ref fo, .ref tx, .int ty, .ref ar, .ref at_, .ref ao])), (ao, .inl (co_, 6, .inl f_286)), ((ab 0), .inr (0, [.ref (ab 1), .ref (ab 3), .ref (ab 5), .ref (ab 7), .ref (ab 9), .int (nI ub)])), ((ab 7), .inr (6, [.int 4, .int 6, .ref (ab 8), .int (nI (zb 3))])), ((ab 8), .inl ((cb 3), 24, .inl (fb 3)))] H := hP
              have hD : va_D A [(o, .inr (11, [.ref aw, .ref (ab 0), .ref ai, .ref ak, .ref sc, .ref rd, .ref fo, .ref tx, .int ty, .ref ar, .ref at_, .ref ao])), (ao, .inl (co_, 6, .inl f_286)), ((ab 0), .inr (0, [.ref (ab 1), .ref (ab 3), .ref (ab 5), .ref (ab 7), .ref (ab 9), .int (nI ub)])), ((ab 7), .inr (6, [.int 4, .int 6, .ref (ab 8), .int (nI (zb 3))])), ((ab 8), .inl ((cb 3), 24, .inl (fb 3)))] := hD
              refine lv_iinc (v := (nI (k_267 - 1))) (lv' := [(5, .int (nI (k_267 - 1))), (4, .int x_266), (3, .int (nI k_199)), (2, .int (nI k_1)), (0, .ref o), (1, .int (nI jm))]) hx hb dX11_sortForSearch_93 hl (k := 0) rfl (tz_dec (k := k_267) (by omega)) (by decide) rfl (fun ls hl => ?_)
              refine lv_goto (tgt := 71) hx hb dX11_sortForSearch_96 (by decide) ?_
              exact ih_280 ((k_267 - 1), f_286, H, locs, ls) ⟨by dsimp only; omega, hP, hD, hS, lv_sub hl [0, 1, 2, 3, 4, 5] rfl⟩ (by dsimp only; omega)
set_option maxRecDepth 20000 in
theorem ggX11_timeSearch_X6_get : GoodIn wsX11_timeSearch wsX6_get := goodIn_r _ [10, 11, 12, 13, 14, 15, 9, 16, 17, 46, 47, 48, 49] (by decide +kernel) (by decide +kernel)
set_option maxRecDepth 20000 in
theorem gX11_timeSearch_X6_get : GoodIn wsX11_timeSearch (wsV RX11 128 RX6 yX6_get wsX6_get) := goodIn_app (goodIn_of _ (by decide +kernel)) ggX11_timeSearch_X6_get
set_option maxRecDepth 20000 in
theorem ggX11_timeSearch_X2_become : GoodIn wsX11_timeSearch wsX2_become := goodIn_r _ [22, 23, 24, 25, 26, 21, 27, 50, 51] (by decide +kernel) (by decide +kernel)
set_option maxRecDepth 20000 in
theorem gX11_timeSearch_X2_become : GoodIn wsX11_timeSearch (wsV RX11 98 RX2 yX2_become wsX2_become) := goodIn_app (goodIn_of _ (by decide +kernel)) ggX11_timeSearch_X2_become
theorem dX11_timeSearch_0 : decode cX11_timeSearch 0 = .ok (.iconst 0, 1) := by decide +kernel
theorem dX11_timeSearch_1 : decode cX11_timeSearch 1 = .ok (.istore_n 2, 1) := by decide +kernel
theorem dX11_timeSearch_2 : decode cX11_timeSearch 2 = .ok (.iconst 0, 1) := by decide +kernel
theorem dX11_timeSearch_3 : decode cX11_timeSearch 3 = .ok (.istore_n 3, 1) := by decide +kernel
theorem dX11_timeSearch_4 : decode cX11_timeSearch 4 = .ok (.iconst 0, 1) := by decide +kernel
theorem dX11_timeSearch_5 : decode cX11_timeSearch 5 = .ok (.istore 4, 2) := by decide +kernel
theorem dX11_timeSearch_7 : decode cX11_timeSearch 7 = .ok (.iload 4, 2) := by decide +kernel
theorem dX11_timeSearch_9 : decode cX11_timeSearch 9 = .ok (.iload_n 1, 1) := by decide +kernel
theorem dX11_timeSearch_10 : decode cX11_timeSearch 10 = .ok (.if_icmp .ge 61, 3) := by decide +kernel
theorem dX11_timeSearch_13 : decode cX11_timeSearch 13 = .ok (.iload 4, 2) := by decide +kernel
theorem dX11_timeSearch_15 : decode cX11_timeSearch 15 = .ok (.aload_n 0, 1) := by decide +kernel
theorem dX11_timeSearch_16 : decode cX11_timeSearch 16 = .ok (.getfield 82, 3) := by decide +kernel
theorem dX11_timeSearch_19 : decode cX11_timeSearch 19 = .ok (.arraylength, 1) := by decide +kernel
theorem dX11_timeSearch_20 : decode cX11_timeSearch 20 = .ok (.if_icmp .ge 51, 3) := by decide +kernel
theorem dX11_timeSearch_23 : decode cX11_timeSearch 23 = .ok (.iload_n 2, 1) := by decide +kernel
theorem dX11_timeSearch_24 : decode cX11_timeSearch 24 = .ok (.aload_n 0, 1) := by decide +kernel
theorem dX11_timeSearch_25 : decode cX11_timeSearch 25 = .ok (.getfield 34, 3) := by decide +kernel
theorem dX11_timeSearch_28 : decode cX11_timeSearch 28 = .ok (.getfield 227, 3) := by decide +kernel
theorem dX11_timeSearch_31 : decode cX11_timeSearch 31 = .ok (.aload_n 0, 1) := by decide +kernel
theorem dX11_timeSearch_32 : decode cX11_timeSearch 32 = .ok (.getfield 82, 3) := by decide +kernel
theorem dX11_timeSearch_35 : decode cX11_timeSearch 35 = .ok (.iload 4, 2) := by decide +kernel
theorem dX11_timeSearch_37 : decode cX11_timeSearch 37 = .ok (.iaload, 1) := by decide +kernel
theorem dX11_timeSearch_38 : decode cX11_timeSearch 38 = .ok (.iconst 2, 1) := by decide +kernel
theorem dX11_timeSearch_39 : decode cX11_timeSearch 39 = .ok (.invokevirtual 128, 3) := by decide +kernel
theorem dX11_timeSearch_42 : decode cX11_timeSearch 42 = .ok (.iadd, 1) := by decide +kernel
theorem dX11_timeSearch_43 : decode cX11_timeSearch 43 = .ok (.istore_n 2, 1) := by decide +kernel
theorem dX11_timeSearch_44 : decode cX11_timeSearch 44 = .ok (.iload_n 3, 1) := by decide +kernel
theorem dX11_timeSearch_45 : decode cX11_timeSearch 45 = .ok (.aload_n 0, 1) := by decide +kernel
theorem dX11_timeSearch_46 : decode cX11_timeSearch 46 = .ok (.getfield 34, 3) := by decide +kernel
theorem dX11_timeSearch_49 : decode cX11_timeSearch 49 = .ok (.getfield 227, 3) := by decide +kernel
theorem dX11_timeSearch_52 : decode cX11_timeSearch 52 = .ok (.aload_n 0, 1) := by decide +kernel
theorem dX11_timeSearch_53 : decode cX11_timeSearch 53 = .ok (.getfield 82, 3) := by decide +kernel
theorem dX11_timeSearch_56 : decode cX11_timeSearch 56 = .ok (.iload 4, 2) := by decide +kernel
theorem dX11_timeSearch_58 : decode cX11_timeSearch 58 = .ok (.iaload, 1) := by decide +kernel
theorem dX11_timeSearch_59 : decode cX11_timeSearch 59 = .ok (.iconst 1, 1) := by decide +kernel
theorem dX11_timeSearch_60 : decode cX11_timeSearch 60 = .ok (.invokevirtual 128, 3) := by decide +kernel
theorem dX11_timeSearch_63 : decode cX11_timeSearch 63 = .ok (.iadd, 1) := by decide +kernel
theorem dX11_timeSearch_64 : decode cX11_timeSearch 64 = .ok (.istore_n 3, 1) := by decide +kernel
theorem dX11_timeSearch_65 : decode cX11_timeSearch 65 = .ok (.iinc 4 1, 3) := by decide +kernel
theorem dX11_timeSearch_68 : decode cX11_timeSearch 68 = .ok (.goto (-61), 3) := by decide +kernel
theorem dX11_timeSearch_71 : decode cX11_timeSearch 71 = .ok (.lconst 0, 1) := by decide +kernel
theorem dX11_timeSearch_72 : decode cX11_timeSearch 72 = .ok (.lstore 4, 2) := by decide +kernel
theorem dX11_timeSearch_74 : decode cX11_timeSearch 74 = .ok (.iconst 0, 1) := by decide +kernel
theorem dX11_timeSearch_75 : decode cX11_timeSearch 75 = .ok (.istore 6, 2) := by decide +kernel
theorem dX11_timeSearch_77 : decode cX11_timeSearch 77 = .ok (.iconst 0, 1) := by decide +kernel
theorem dX11_timeSearch_78 : decode cX11_timeSearch 78 = .ok (.istore 7, 2) := by decide +kernel
theorem dX11_timeSearch_80 : decode cX11_timeSearch 80 = .ok (.iload 7, 2) := by decide +kernel
theorem dX11_timeSearch_82 : decode cX11_timeSearch 82 = .ok (.iload_n 1, 1) := by decide +kernel
theorem dX11_timeSearch_83 : decode cX11_timeSearch 83 = .ok (.if_icmp .ge 100, 3) := by decide +kernel
theorem dX11_timeSearch_86 : decode cX11_timeSearch 86 = .ok (.iload 7, 2) := by decide +kernel
theorem dX11_timeSearch_88 : decode cX11_timeSearch 88 = .ok (.aload_n 0, 1) := by decide +kernel
theorem dX11_timeSearch_89 : decode cX11_timeSearch 89 = .ok (.getfield 82, 3) := by decide +kernel
theorem dX11_timeSearch_92 : decode cX11_timeSearch 92 = .ok (.arraylength, 1) := by decide +kernel
theorem dX11_timeSearch_93 : decode cX11_timeSearch 93 = .ok (.if_icmp .ge 90, 3) := by decide +kernel
theorem dX11_timeSearch_96 : decode cX11_timeSearch 96 = .ok (.iload 6, 2) := by decide +kernel
theorem dX11_timeSearch_98 : decode cX11_timeSearch 98 = .ok (.aload_n 0, 1) := by decide +kernel
theorem dX11_timeSearch_99 : decode cX11_timeSearch 99 = .ok (.getfield 34, 3) := by decide +kernel
theorem dX11_timeSearch_102 : decode cX11_timeSearch 102 = .ok (.getfield 227, 3) := by decide +kernel
theorem dX11_timeSearch_105 : decode cX11_timeSearch 105 = .ok (.aload_n 0, 1) := by decide +kernel
theorem dX11_timeSearch_106 : decode cX11_timeSearch 106 = .ok (.getfield 82, 3) := by decide +kernel
theorem dX11_timeSearch_109 : decode cX11_timeSearch 109 = .ok (.iload 7, 2) := by decide +kernel
theorem dX11_timeSearch_111 : decode cX11_timeSearch 111 = .ok (.iaload, 1) := by decide +kernel
theorem dX11_timeSearch_112 : decode cX11_timeSearch 112 = .ok (.iconst 2, 1) := by decide +kernel
theorem dX11_timeSearch_113 : decode cX11_timeSearch 113 = .ok (.invokevirtual 128, 3) := by decide +kernel
theorem dX11_timeSearch_116 : decode cX11_timeSearch 116 = .ok (.iadd, 1) := by decide +kernel
theorem dX11_timeSearch_117 : decode cX11_timeSearch 117 = .ok (.istore 6, 2) := by decide +kernel
theorem dX11_timeSearch_119 : decode cX11_timeSearch 119 = .ok (.aload_n 0, 1) := by decide +kernel
theorem dX11_timeSearch_120 : decode cX11_timeSearch 120 = .ok (.getfield 34, 3) := by decide +kernel
theorem dX11_timeSearch_123 : decode cX11_timeSearch 123 = .ok (.getfield 227, 3) := by decide +kernel
theorem dX11_timeSearch_126 : decode cX11_timeSearch 126 = .ok (.aload_n 0, 1) := by decide +kernel
theorem dX11_timeSearch_127 : decode cX11_timeSearch 127 = .ok (.getfield 82, 3) := by decide +kernel
theorem dX11_timeSearch_130 : decode cX11_timeSearch 130 = .ok (.iload 7, 2) := by decide +kernel
theorem dX11_timeSearch_132 : decode cX11_timeSearch 132 = .ok (.iaload, 1) := by decide +kernel
theorem dX11_timeSearch_133 : decode cX11_timeSearch 133 = .ok (.iconst 3, 1) := by decide +kernel
theorem dX11_timeSearch_134 : decode cX11_timeSearch 134 = .ok (.invokevirtual 128, 3) := by decide +kernel
theorem dX11_timeSearch_137 : decode cX11_timeSearch 137 = .ok (.istore 8, 2) := by decide +kernel
theorem dX11_timeSearch_139 : decode cX11_timeSearch 139 = .ok (.lload 4, 2) := by decide +kernel
theorem dX11_timeSearch_141 : decode cX11_timeSearch 141 = .ok (.aload_n 0, 1) := by decide +kernel
theorem dX11_timeSearch_142 : decode cX11_timeSearch 142 = .ok (.getfield 34, 3) := by decide +kernel
theorem dX11_timeSearch_145 : decode cX11_timeSearch 145 = .ok (.getfield 227, 3) := by decide +kernel
theorem dX11_timeSearch_148 : decode cX11_timeSearch 148 = .ok (.aload_n 0, 1) := by decide +kernel
theorem dX11_timeSearch_149 : decode cX11_timeSearch 149 = .ok (.getfield 82, 3) := by decide +kernel
theorem dX11_timeSearch_152 : decode cX11_timeSearch 152 = .ok (.iload 7, 2) := by decide +kernel
theorem dX11_timeSearch_154 : decode cX11_timeSearch 154 = .ok (.iaload, 1) := by decide +kernel
theorem dX11_timeSearch_155 : decode cX11_timeSearch 155 = .ok (.iconst 1, 1) := by decide +kernel
theorem dX11_timeSearch_156 : decode cX11_timeSearch 156 = .ok (.invokevirtual 128, 3) := by decide +kernel
theorem dX11_timeSearch_159 : decode cX11_timeSearch 159 = .ok (.iload 8, 2) := by decide +kernel
theorem dX11_timeSearch_161 : decode cX11_timeSearch 161 = .ok (.iload 6, 2) := by decide +kernel
theorem dX11_timeSearch_163 : decode cX11_timeSearch 163 = .ok (.imul, 1) := by decide +kernel
theorem dX11_timeSearch_164 : decode cX11_timeSearch 164 = .ok (.bipush 10, 2) := by decide +kernel
theorem dX11_timeSearch_166 : decode cX11_timeSearch 166 = .ok (.iload 8, 2) := by decide +kernel
theorem dX11_timeSearch_168 : decode cX11_timeSearch 168 = .ok (.isub, 1) := by decide +kernel
theorem dX11_timeSearch_169 : decode cX11_timeSearch 169 = .ok (.iload_n 2, 1) := by decide +kernel
theorem dX11_timeSearch_170 : decode cX11_timeSearch 170 = .ok (.imul, 1) := by decide +kernel
theorem dX11_timeSearch_171 : decode cX11_timeSearch 171 = .ok (.iadd, 1) := by decide +kernel
theorem dX11_timeSearch_172 : decode cX11_timeSearch 172 = .ok (.imul, 1) := by decide +kernel
theorem dX11_timeSearch_173 : decode cX11_timeSearch 173 = .ok (.i2l, 1) := by decide +kernel
theorem dX11_timeSearch_174 : decode cX11_timeSearch 174 = .ok (.ladd, 1) := by decide +kernel
theorem dX11_timeSearch_175 : decode cX11_timeSearch 175 = .ok (.lstore 4, 2) := by decide +kernel
theorem dX11_timeSearch_177 : decode cX11_timeSearch 177 = .ok (.iinc 7 1, 3) := by decide +kernel
theorem dX11_timeSearch_180 : decode cX11_timeSearch 180 = .ok (.goto (-100), 3) := by decide +kernel
theorem dX11_timeSearch_183 : decode cX11_timeSearch 183 = .ok (.aload_n 0, 1) := by decide +kernel
theorem dX11_timeSearch_184 : decode cX11_timeSearch 184 = .ok (.getfield 63, 3) := by decide +kernel
theorem dX11_timeSearch_187 : decode cX11_timeSearch 187 = .ok (.lload 4, 2) := by decide +kernel
theorem dX11_timeSearch_189 : decode cX11_timeSearch 189 = .ok (.ldc2_w 211, 3) := by decide +kernel
theorem dX11_timeSearch_192 : decode cX11_timeSearch 192 = .ok (.iload_n 3, 1) := by decide +kernel
theorem dX11_timeSearch_193 : decode cX11_timeSearch 193 = .ok (.i2l, 1) := by decide +kernel
theorem dX11_timeSearch_194 : decode cX11_timeSearch 194 = .ok (.lmul, 1) := by decide +kernel
theorem dX11_timeSearch_195 : decode cX11_timeSearch 195 = .ok (.invokevirtual 98, 3) := by decide +kernel
theorem dX11_timeSearch_198 : decode cX11_timeSearch 198 = .ok (.return_, 1) := by decide +kernel
set_option maxRecDepth 20000 in
theorem iw_x_timeSearch_X11 : ∀ w ∈ wsX110, w ∈ wsX11_timeSearch := by decide +kernel
set_option maxRecDepth 20000 in
theorem iw_x_timeSearch_X0 : ∀ w ∈ wsX00, w ∈ wsX11_timeSearch := by decide +kernel
set_option maxHeartbeats 4000000 in
set_option maxRecDepth 100000 in
theorem x_timeSearch (l : Launch) (dC : Nat → ClassId) (dI : Nat → Nat → Nat) (o : Nat) (aw : Nat) (ab : Nat → Nat) (ai : Nat) (ak : Nat) (sc : Nat) (rd : Nat) (fo : Nat) (tx : Nat) (ty : Int32) (ar : Nat) (at_ : Nat) (ao : Nat) (co_ : ClassId) (fo_ : Nat → Int32) (la : Int64) (lb : Int64) (ub : Nat) (zb : Nat → Nat) (cb : Nat → ClassId) (fb : Nat → Nat → Int32) (jm : Nat) (sz : Nat) (hB : (∀ i, zb i ≤ tz_lim i) ∧ ub ≤ 8) (hjm : jm ≤ 6) : Met l yX11_timeSearch wsX11_timeSearch ({ frames := 2, cells := 0, slots := 0, locals := 56 }) (va_Pc [.ref o, .int (nI jm)] (fun U => U.heap.size = sz ∧ va_P (dC, dI) vwCl [(o, .inr (11, [.ref aw, .ref (ab 0), .ref ai, .ref ak, .ref sc, .ref rd, .ref fo, .ref tx, .int ty, .ref ar, .ref at_, .ref ao])), (ao, .inl (co_, 6, .inl fo_)), (fo, .inr (2, [.long la, .long lb])), ((ab 0), .inr (0, [.ref (ab 1), .ref (ab 3), .ref (ab 5), .ref (ab 7), .ref (ab 9), .int (nI ub)])), ((ab 7), .inr (6, [.int 4, .int 6, .ref (ab 8), .int (nI (zb 3))])), ((ab 8), .inl ((cb 3), 24, .inl (fb 3)))] U.heap ∧ va_K (dC, dI) vwCl [(co_, .int), ((cb 3), .int)] U ∧ va_D (fun _ => True) [(o, .inr (11, [.ref aw, .ref (ab 0), .ref ai, .ref ak, .ref sc, .ref rd, .ref fo, .ref tx, .int ty, .ref ar, .ref at_, .ref ao])), (ao, .inl (co_, 6, .inl fo_)), (fo, .inr (2, [.long la, .long lb])), ((ab 0), .inr (0, [.ref (ab 1), .ref (ab 3), .ref (ab 5), .ref (ab 7), .ref (ab 9), .int (nI ub)])), ((ab 7), .inr (6, [.int 4, .int 6, .ref (ab 8), .int (nI (zb 3))])), ((ab 8), .inl ((cb 3), 24, .inl (fb 3)))])) (va_Qv (fun (_ : Unit) => True) (fun _ t => ∃ (lg : Int64) (lh : Int64), va_P (dC, dI) vwCl [(o, .inr (11, [.ref aw, .ref (ab 0), .ref ai, .ref ak, .ref sc, .ref rd, .ref fo, .ref tx, .int ty, .ref ar, .ref at_, .ref ao])), (ao, .inl (co_, 6, .inl fo_)), (fo, .inr (2, [.long lg, .long lh])), ((ab 0), .inr (0, [.ref (ab 1), .ref (ab 3), .ref (ab 5), .ref (ab 7), .ref (ab 9), .int (nI ub)])), ((ab 7), .inr (6, [.int 4, .int 6, .ref (ab 8), .int (nI (zb 3))])), ((ab 8), .inl ((cb 3), 24, .inl (fb 3)))] t.heap ∧ va_K (dC, dI) vwCl [(co_, .int), ((cb 3), .int)] t ∧ va_D (va_A [(o, .inr (11, [.ref aw, .ref (ab 0), .ref ai, .ref ak, .ref sc, .ref rd, .ref fo, .ref tx, .int ty, .ref ar, .ref at_, .ref ao])), (ao, .inl (co_, 6, .inl fo_)), (fo, .inr (2, [.long la, .long lb])), ((ab 0), .inr (0, [.ref (ab 1), .ref (ab 3), .ref (ab 5), .ref (ab 7), .ref (ab 9), .int (nI ub)])), ((ab 7), .inr (6, [.int 4, .int 6, .ref (ab 8), .int (nI (zb 3))])), ((ab 8), .inl ((cb 3), 24, .inl (fb 3)))] sz) [(o, .inr (11, [.ref aw, .ref (ab 0), .ref ai, .ref ak, .ref sc, .ref rd, .ref fo, .ref tx, .int ty, .ref ar, .ref at_, .ref ao])), (ao, .inl (co_, 6, .inl fo_)), (fo, .inr (2, [.long lg, .long lh])), ((ab 0), .inr (0, [.ref (ab 1), .ref (ab 3), .ref (ab 5), .ref (ab 7), .ref (ab 9), .int (nI ub)])), ((ab 7), .inr (6, [.int 4, .int 6, .ref (ab 8), .int (nI (zb 3))])), ((ab 8), .inl ((cb 3), 24, .inl (fb 3)))]) (va_A [(o, .inr (11, [.ref aw, .ref (ab 0), .ref ai, .ref ak, .ref sc, .ref rd, .ref fo, .ref tx, .int ty, .ref ar, .ref at_, .ref ao])), (ao, .inl (co_, 6, .inl fo_)), (fo, .inr (2, [.long la, .long lb])), ((ab 0), .inr (0, [.ref (ab 1), .ref (ab 3), .ref (ab 5), .ref (ab 7), .ref (ab 9), .int (nI ub)])), ((ab 7), .inr (6, [.int 4, .int 6, .ref (ab 8), .int (nI (zb 3))])), ((ab 8), .inl ((cb 3), 24, .inl (fb 3)))] sz)) 0 0 (va_A [(o, .inr (11, [.ref aw, .ref (ab 0), .ref ai, .ref ak, .ref sc, .ref rd, .ref fo, .ref tx, .int ty, .ref ar, .ref at_, .ref ao])), (ao, .inl (co_, 6, .inl fo_)), (fo, .inr (2, [.long la, .long lb])), ((ab 0), .inr (0, [.ref (ab 1), .ref (ab 3), .ref (ab 5), .ref (ab 7), .ref (ab 9), .int (nI ub)])), ((ab 7), .inr (6, [.int 4, .int 6, .ref (ab 8), .int (nI (zb 3))])), ((ab 8), .inl ((cb 3), 24, .inl (fb 3)))] sz) := by
  refine Met.ofW (cc := cX11_timeSearch) (maxL := 9) (ret := none) (by decide) rfl ?_
  intro p e s m args below meth c s₁ B hml hv
  obtain ⟨rfl, hsz, hP, hK, hD0⟩ := hv
  have hx := B.exec
  have hb := B.bytes
  have hr := B.returns
  have hts := atoms_spec (ws := wsX11_timeSearch) B.pre
  have hown : s.vm.findClass RX11 = some m.cls := findClass_of_methodNamed B.named
  have hlocks := B.notSynchronized
  subst hsz
  have hD := hD0.self (sz := s.heap.size)
  generalize hAe : va_A [(o, .inr (11, [.ref aw, .ref (ab 0), .ref ai, .ref ak, .ref sc, .ref rd, .ref fo, .ref tx, .int ty, .ref ar, .ref at_, .ref ao])), (ao, .inl (co_, 6, .inl fo_)), (fo, .inr (2, [.long la, .long lb])), ((ab 0), .inr (0, [.ref (ab 1), .ref (ab 3), .ref (ab 5), .ref (ab 7), .ref (ab 9), .int (nI ub)])), ((ab 7), .inr (6, [.int 4, .int 6, .ref (ab 8), .int (nI (zb 3))])), ((ab 8), .inl ((cb 3), 24, .inl (fb 3)))] s.heap.size = A at hD ⊢
  have hA : ∀ q : Nat, s.heap.size ≤ q → A q := fun q h => by rw [← hAe]; exact Or.inr h
  have hS : va_S A s.heap s.heap [] := va_S.rf
  have hP : va_P (dC, dI) vwCl [(o, .inr (11, [.ref aw, .ref (ab 0), .ref ai, .ref ak, .ref sc, .ref rd, .ref fo, .ref tx, .int ty, .ref ar, .ref at_, .ref ao])), (ao, .inl (co_, 6, .inl fo_)), (fo, .inr (2, [.long la, .long lb])), ((ab 0), .inr (0, [.ref (ab 1), .ref (ab 3), .ref (ab 5), .ref (ab 7), .ref (ab 9), .int (nI ub)])), ((ab 7), .inr (6, [.int 4, .int 6, .ref (ab 8), .int (nI (zb 3))])), ((ab 8), .inl ((cb 3), 24, .inl (fb 3)))] s.heap := hP
  have hl := lv_entry ([.ref o, .int (nI jm)]) (n := 9) (Nat.le_of_ble_eq_true rfl)
  rw [lg_entry_eq]
  generalize (lg_sl ([.ref o, .int (nI jm)]) ++ List.replicate (9 - (lg_sl ([.ref o, .int (nI jm)])).length) Slot.unset).toArray = ls at hl ⊢
  have hl : lv_has ls 9 [(0, .ref o), (1, .int (nI jm))] := hl
  have hz_zb_0 : zb 0 ≤ 5 := hB.1 0
  have hz_zb_1 : zb 1 ≤ 5 := hB.1 1
  have hz_zb_2 : zb 2 ≤ 8 := hB.1 2
  have hz_zb_3 : zb 3 ≤ 6 := hB.1 3
  have hz_zb_4 : zb 4 ≤ 8 := hB.1 4
  have hz_zb_5 : zb 5 ≤ 8 := hB.1 5
  have hz_zb_6 : zb 6 ≤ 8 := hB.1 6
  have hz_zb_7 : zb 7 ≤ 8 := hB.1 7
  have hz_zb_8 : zb 8 ≤ 8 := hB.1 8
  have hz_zb_9 : zb 9 ≤ 8 := hB.1 9
  have hz_zb_10 : zb 10 ≤ 8 := hB.1 10
  have hz_zb_11 : zb 11 ≤ 8 := hB.1 11
  have hu_zb := hB.2
  refine lv_iconst (v := 0) hx hb dX11_timeSearch_0 (by decide) ?_
  refine lv_istore_n (lv' := [(2, .int 0), (0, .ref o), (1, .int (nI jm))]) hx hb dX11_timeSearch_1 rfl hl (by decide) rfl (fun ls hl => ?_)
  refine lv_iconst (v := 0) hx hb dX11_timeSearch_2 (by decide) ?_
  refine lv_istore_n (lv' := [(3, .int 0), (2, .int 0), (0, .ref o), (1, .int (nI jm))]) hx hb dX11_timeSearch_3 rfl hl (by decide) rfl (fun ls hl => ?_)
  refine lv_iconst (v := 0) hx hb dX11_timeSearch_4 (by decide) ?_
  refine lv_istore (lv' := [(4, .int 0), (3, .int 0), (2, .int 0), (0, .ref o), (1, .int (nI jm))]) hx hb dX11_timeSearch_5 hl (by decide) rfl (fun ls hl => ?_)
  refine tz_while (σ := Nat × Int32 × Int32 × Array Slot) (fun x => W p l e _ s m _ below meth c _ _ _ _ _ (F0 m 7 x.2.2.2 [])) (fun x => x.1 ≤ jm ∧ lv_has x.2.2.2 9 [(4, .int (nI x.1)), (3, .int x.2.1), (2, .int x.2.2.1), (0, .ref o), (1, .int (nI jm))]) (fun x => jm - x.1) ?_ (0, 0, 0, ls) ⟨by (try dsimp only); omega, hl⟩
  rintro ⟨k_1, v_20, v_21, ls⟩ ⟨hi_40_0, hl⟩ ih_41
  dsimp only at hi_40_0 hl ih_41 ⊢
  refine lv_iload hx hb dX11_timeSearch_7 (lv_at hl 0 rfl) ?_
  refine lv_iload_n hx hb dX11_timeSearch_9 rfl (lv_at hl 4 rfl) ?_
  refine lv_icmp_ge (tgt := 71) hx hb dX11_timeSearch_10 (by decide) (fun c_42 => ?_) (fun c_42 => ?_)
  · have hn_43 : jm ≤ k_1 := (nI_leI (a := jm) (b := k_1) (by omega) (by omega)).mp c_42
    refine lv_lconst (v := 0) hx hb dX11_timeSearch_71 (by decide) ?_
    refine lv_lstore (lv' := [(4, .long 0), (3, .int v_20), (2, .int v_21), (0, .ref o), (1, .int (nI jm))]) hx hb dX11_timeSearch_72 hl (by decide) rfl (fun ls hl => ?_)
    refine lv_iconst (v := 0) hx hb dX11_timeSearch_74 (by decide) ?_
    refine lv_istore (lv' := [(6, .int 0), (4, .long 0), (3, .int v_20), (2, .int v_21), (0, .ref o), (1, .int (nI jm))]) hx hb dX11_timeSearch_75 hl (by decide) rfl (fun ls hl => ?_)
    refine lv_iconst (v := 0) hx hb dX11_timeSearch_77 (by decide) ?_
    refine lv_istore (lv' := [(7, .int 0), (6, .int 0), (4, .long 0), (3, .int v_20), (2, .int v_21), (0, .ref o), (1, .int (nI jm))]) hx hb dX11_timeSearch_78 hl (by decide) rfl (fun ls hl => ?_)
    refine tz_while (σ := Nat × Int32 × Int64 × Array Slot) (fun x => W p l e _ s m _ below meth c _ _ _ _ _ (F0 m 80 x.2.2.2 [])) (fun x => x.1 ≤ jm ∧ lv_has x.2.2.2 9 [(7, .int (nI x.1)), (6, .int x.2.1), (4, .long x.2.2.1), (3, .int v_20), (2, .int v_21), (0, .ref o), (1, .int (nI jm))]) (fun x => jm - x.1) ?_ (0, 0, 0, ls) ⟨by (try dsimp only); omega, hl⟩
    rintro ⟨k_44, v_73, v_74, ls⟩ ⟨hi_103_0, hl⟩ ih_104
    dsimp only at hi_103_0 hl ih_104 ⊢
    refine lv_iload hx hb dX11_timeSearch_80 (lv_at hl 0 rfl) ?_
    refine lv_iload_n hx hb dX11_timeSearch_82 rfl (lv_at hl 6 rfl) ?_
    refine lv_icmp_ge (tgt := 183) hx hb dX11_timeSearch_83 (by decide) (fun c_105 => ?_) (fun c_105 => ?_)
    · have hn_106 : jm ≤ k_44 := (nI_leI (a := jm) (b := k_44) (by omega) (by omega)).mp c_105
      refine lv_aload_n hx hb dX11_timeSearch_183 rfl (lv_at hl 5 rfl) ?_
      refine va_get (D := (dC, dI)) (ci := 11) (v := .ref fo) (C := RX11) (T := TX11) (N := 12) hx hb hts iw_x_timeSearch_X11 hown hK hP 0 rfl rfl 6 (by decide) (hts (.fieldLink RX11 63 "ThriceCounted" "fraction" "LThriceCounted$Fraction;") (by decide +kernel)) (fun _ h9 => h9) rfl dX11_timeSearch_184 ?_
      refine lv_lload hx hb dX11_timeSearch_187 (lv_at hl 2 rfl) ?_
      refine lv_ldc2 hx hb hown (hts (.constantLong RX11 211 (10)) (by decide +kernel)) dX11_timeSearch_189 ?_
      refine lv_iload_n hx hb dX11_timeSearch_192 rfl (lv_at hl 3 rfl) ?_
      refine lv_i2l (v := v_20.toInt64) hx hb dX11_timeSearch_193 rfl ?_
      refine lv_lmul hx hb dX11_timeSearch_194 ?_
      refine lv_topl (fun x_107 _ => ?_)
      have hPc := hP.sub (ws' := [(fo, .inr (2, [.long la, .long lb]))]) [2] rfl
      have hDc := hD.sub (ws' := [(fo, .inr (2, [.long la, .long lb]))]) [2] (by decide) rfl
      have hKc := hK.sub (tys' := []) [] rfl
      have hFc := va_free (wc := [(fo, .inr (2, [.long la, .long lb]))]) hD hS hA [2] rfl
      refine va_callv (va_runV (As := [.long v_74, .long x_107]) (rest := []) ⟨hx, hb, hml, hown, hts⟩ (f_become l dC dI fo la lb v_74 x_107 s.heap.size) (cwV 2 hts gX11_timeSearch_X2_become rfl rfl rfl (by decide +kernel) ⟨Nat.le_of_ble_eq_true rfl, Nat.le_of_ble_eq_true rfl⟩) ⟨fun a U g mk q => by obtain ⟨q0, q1, qP, qK, qD⟩ := q; exact ⟨q0, q1, qP, va_K.moved (u := U) (U := U.calling g mk a) (Vm.Alike.refl U.vm) qK, qD⟩, va_recv hK hP (ci := 2) (q0 := 2) rfl rfl, fun U hU hW => ⟨rfl, by rw [hU], by rw [hU]; exact hPc, va_K.moved hW.alike hKc, hDc.weaken (fun _ _ _ _ => trivial)⟩⟩ rfl rfl hl.1 rfl (lv_room (Nat.le_of_ble_eq_true rfl)) dX11_timeSearch_195 ⟨Nat.le_of_ble_eq_true rfl, Nat.le_of_ble_eq_true rfl⟩) hS (fun q _ h => hFc q h) hFc (fun u_ t H1 locs ht hvm hw_109 hB hz1 hk1 hS => ?_)
      obtain ⟨lg_110, lh_111, hP1, hK1, hD1⟩ := hB
      rw [ht] at hP1
      have hK1 := va_K.moved hvm.symm hK1
      obtain ⟨hP, hD⟩ := va_join (wr := [(o, .inr (11, [.ref aw, .ref (ab 0), .ref ai, .ref ak, .ref sc, .ref rd, .ref fo, .ref tx, .int ty, .ref ar, .ref at_, .ref ao])), (ao, .inl (co_, 6, .inl fo_)), ((ab 0), .inr (0, [.ref (ab 1), .ref (ab 3), .ref (ab 5), .ref (ab 7), .ref (ab 9), .int (nI ub)])), ((ab 7), .inr (6, [.int 4, .int 6, .ref (ab 8), .int (nI (zb 3))])), ((ab 8), .inl ((cb 3), 24, .inl (fb 3)))]) (w1 := [(fo, .inr (2, [.long lg_110, .long lh_111]))]) hP hD [2] [0, 1, 3, 4, 5] rfl rfl (by decide) (by decide) hk1 hFc hP1 hD1
      generalize H1 = H at hP hS ⊢
      have hP : va_P (dC, dI) vwCl [(o, .inr (11, [.ref aw, .ref (ab 0), .ref ai, .ref ak, .ref sc, .ref rd, .ref fo, .ref tx, .int ty, .ref ar, .ref at_, .ref ao])), (ao, .inl (co_, 6, .inl fo_)), ((ab 0), .inr (0, [.ref (ab 1), .ref (ab 3), .ref (ab 5), .ref (ab 7), .ref (ab 9), .int (nI ub)])), ((ab 7), .inr (6, [.int 4, .int 6, .ref (ab 8), .int (nI (zb 3))])), ((ab 8), .inl ((cb 3), 24, .inl (fb 3))), (fo, .inr (2, [.long lg_110, .long lh_111]))] H := hP
      have hD : va_D A [(o, .inr (11, [.ref aw, .ref (ab 0), .ref ai, .ref ak, .ref sc, .ref rd, .ref fo, .ref tx, .int ty, .ref ar, .ref at_, .ref ao])), (ao, .inl (co_, 6, .inl fo_)), ((ab 0), .inr (0, [.ref (ab 1), .ref (ab 3), .ref (ab 5), .ref (ab 7), .ref (ab 9), .int (nI ub)])), ((ab 7), .inr (6, [.int 4, .int 6, .ref (ab 8), .int (nI (zb 3))])), ((ab 8), .inl ((cb 3), 24, .inl (fb 3))), (fo, .inr (2, [.long lg_110, .long lh_111]))] := hD
      have hP9 := hP.sub (ws' := [(o, .inr (11, [.ref aw, .ref (ab 0), .ref ai, .ref ak, .ref sc, .ref rd, .ref fo, .ref tx, .int ty, .ref ar, .ref at_, .ref ao])), (ao, .inl (co_, 6, .inl fo_)), (fo, .inr (2, [.long lg_110, .long lh_111])), ((ab 0), .inr (0, [.ref (ab 1), .ref (ab 3), .ref (ab 5), .ref (ab 7), .ref (ab 9), .int (nI ub)])), ((ab 7), .inr (6, [.int 4, .int 6, .ref (ab 8), .int (nI (zb 3))])), ((ab 8), .inl ((cb 3), 24, .inl (fb 3)))]) [0, 1, 5, 2, 3, 4] rfl
      have hD9 := hD.sub (ws' := [(o, .inr (11, [.ref aw, .ref (ab 0), .ref ai, .ref ak, .ref sc, .ref rd, .ref fo, .ref tx, .int ty, .ref ar, .ref at_, .ref ao])), (ao, .inl (co_, 6, .inl fo_)), (fo, .inr (2, [.long lg_110, .long lh_111])), ((ab 0), .inr (0, [.ref (ab 1), .ref (ab 3), .ref (ab 5), .ref (ab 7), .ref (ab 9), .int (nI ub)])), ((ab 7), .inr (6, [.int 4, .int 6, .ref (ab 8), .int (nI (zb 3))])), ((ab 8), .inl ((cb 3), 24, .inl (fb 3)))]) [0, 1, 5, 2, 3, 4] (by decide) rfl
      have hK9 := hK.sub (tys' := [(co_, .int), ((cb 3), .int)]) [0, 1] rfl
      exact W.vret hx hb hr (fun t ht hW => ⟨⟨(), rfl, trivial, lg_110, lh_111, by rw [ht]; exact hP9, va_K.moved hW.alike hK9, hD9⟩, hS.F ht⟩) hS.2.2 dX11_timeSearch_198
    · have hn_112 : ¬ jm ≤ k_44 := fun q => c_105 ((nI_leI (a := jm) (b := k_44) (by omega) (by omega)).mpr q)
      refine lv_iload hx hb dX11_timeSearch_86 (lv_at hl 0 rfl) ?_
      refine lv_aload_n hx hb dX11_timeSearch_88 rfl (lv_at hl 5 rfl) ?_
      refine va_get (D := (dC, dI)) (ci := 11) (v := .ref ao) (C := RX11) (T := TX11) (N := 12) hx hb hts iw_x_timeSearch_X11 hown hK hP 0 rfl rfl 11 (by decide) (hts (.fieldLink RX11 82 "ThriceCounted" "order" "[I") (by decide +kernel)) (fun _ h9 => h9) rfl dX11_timeSearch_89 ?_
      refine va_alen (v := 6) hx hb hK hP 1 0 rfl rfl rfl dX11_timeSearch_92 ?_
      refine lv_icmp_ge (tgt := 183) hx hb dX11_timeSearch_93 (by decide) (fun c_113 => ?_) (fun c_113 => ?_)
      · have hn_114 : 6 ≤ k_44 := (nI_leI (a := 6) (b := k_44) (by omega) (by omega)).mp c_113
        refine lv_aload_n hx hb dX11_timeSearch_183 rfl (lv_at hl 5 rfl) ?_
        refine va_get (D := (dC, dI)) (ci := 11) (v := .ref fo) (C := RX11) (T := TX11) (N := 12) hx hb hts iw_x_timeSearch_X11 hown hK hP 0 rfl rfl 6 (by decide) (hts (.fieldLink RX11 63 "ThriceCounted" "fraction" "LThriceCounted$Fraction;") (by decide +kernel)) (fun _ h9 => h9) rfl dX11_timeSearch_184 ?_
        refine lv_lload hx hb dX11_timeSearch_187 (lv_at hl 2 rfl) ?_
        refine lv_ldc2 hx hb hown (hts (.constantLong RX11 211 (10)) (by decide +kernel)) dX11_timeSearch_189 ?_
        refine lv_iload_n hx hb dX11_timeSearch_192 rfl (lv_at hl 3 rfl) ?_
        refine lv_i2l (v := v_20.toInt64) hx hb dX11_timeSearch_193 rfl ?_
        refine lv_lmul hx hb dX11_timeSearch_194 ?_
        refine lv_topl (fun x_115 _ => ?_)
        have hPc := hP.sub (ws' := [(fo, .inr (2, [.long la, .long lb]))]) [2] rfl
        have hDc := hD.sub (ws' := [(fo, .inr (2, [.long la, .long lb]))]) [2] (by decide) rfl
        have hKc := hK.sub (tys' := []) [] rfl
        have hFc := va_free (wc := [(fo, .inr (2, [.long la, .long lb]))]) hD hS hA [2] rfl
        refine va_callv (va_runV (As := [.long v_74, .long x_115]) (rest := []) ⟨hx, hb, hml, hown, hts⟩ (f_become l dC dI fo la lb v_74 x_115 s.heap.size) (cwV 2 hts gX11_timeSearch_X2_become rfl rfl rfl (by decide +kernel) ⟨Nat.le_of_ble_eq_true rfl, Nat.le_of_ble_eq_true rfl⟩) ⟨fun a U g mk q => by obtain ⟨q0, q1, qP, qK, qD⟩ := q; exact ⟨q0, q1, qP, va_K.moved (u := U) (U := U.calling g mk a) (Vm.Alike.refl U.vm) qK, qD⟩, va_recv hK hP (ci := 2) (q0 := 2) rfl rfl, fun U hU hW => ⟨rfl, by rw [hU], by rw [hU]; exact hPc, va_K.moved hW.alike hKc, hDc.weaken (fun _ _ _ _ => trivial)⟩⟩ rfl rfl hl.1 rfl (lv_room (Nat.le_of_ble_eq_true rfl)) dX11_timeSearch_195 ⟨Nat.le_of_ble_eq_true rfl, Nat.le_of_ble_eq_true rfl⟩) hS (fun q _ h => hFc q h) hFc (fun u_ t H1 locs ht hvm hw_117 hB hz1 hk1 hS => ?_)
        obtain ⟨lg_118, lh_119, hP1, hK1, hD1⟩ := hB
        rw [ht] at hP1
        have hK1 := va_K.moved hvm.symm hK1
        obtain ⟨hP, hD⟩ := va_join (wr := [(o, .inr (11, [.ref aw, .ref (ab 0), .ref ai, .ref ak, .ref sc, .ref rd, .ref fo, .ref tx, .int ty, .ref ar, .ref at_, .ref ao])), (ao, .inl (co_, 6, .inl fo_)), ((ab 0), .inr (0, [.ref (ab 1), .ref (ab 3), .ref (ab 5), .ref (ab 7), .ref (ab 9), .int (nI ub)])), ((ab 7), .inr (6, [.int 4, .int 6, .ref (ab 8), .int (nI (zb 3))])), ((ab 8), .inl ((cb 3), 24, .inl (fb 3)))]) (w1 := [(fo, .inr (2, [.long lg_118, .long lh_119]))]) hP hD [2] [0, 1, 3, 4, 5] rfl rfl (by decide) (by decide) hk1 hFc hP1 hD1
        generalize H1 = H at hP hS ⊢
        have hP : va_P (dC, dI) vwCl [(o, .inr (11, [.ref aw, .ref (ab 0), .ref ai, .ref ak, .ref sc, .ref rd, .ref fo, .ref tx, .int ty, .ref ar, .ref at_, .ref ao])), (ao, .inl (co_, 6, .inl fo_)), ((ab 0), .inr (0, [.ref (ab 1), .ref (ab 3), .ref (ab 5), .ref (ab 7), .ref (ab 9), .int (nI ub)])), ((ab 7), .inr (6, [.int 4, .int 6, .ref (ab 8), .int (nI (zb 3))])), ((ab 8), .inl ((cb 3), 24, .inl (fb 3))), (fo, .inr (2, [.long lg_118, .long lh_119]))] H := hP
        have hD : va_D A [(o, .inr (11, [.ref aw, .ref (ab 0), .ref ai, .ref ak, .ref sc, .ref rd, .ref fo, .ref tx, .int ty, .ref ar, .ref at_, .ref ao])), (ao, .inl (co_, 6, .inl fo_)), ((ab 0), .inr (0, [.ref (ab 1), .ref (ab 3), .ref (ab 5), .ref (ab 7), .ref (ab 9), .int (nI ub)])), ((ab 7), .inr (6, [.int 4, .int 6, .ref (ab 8), .int (nI (zb 3))])), ((ab 8), .inl ((cb 3), 24, .inl (fb 3))), (fo, .inr (2, [.long lg_118, .long lh_119]))] := hD
        have hP9 := hP.sub (ws' := [(o, .inr (11, [.ref aw, .ref (ab 0), .ref ai, .ref ak, .ref sc, .ref rd, .ref fo, .ref tx, .int ty, .ref ar, .ref at_, .ref ao])), (ao, .inl (co_, 6, .inl fo_)), (fo, .inr (2, [.long lg_118, .long lh_119])), ((ab 0), .inr (0, [.ref (ab 1), .ref (ab 3), .ref (ab 5), .ref (ab 7), .ref (ab 9), .int (nI ub)])), ((ab 7), .inr (6, [.int 4, .int 6, .ref (ab 8), .int (nI (zb 3))])), ((ab 8), .inl ((cb 3), 24, .inl (fb 3)))]) [0, 1, 5, 2, 3, 4] rfl
        have hD9 := hD.sub (ws' := [(o, .inr (11, [.ref aw, .ref (ab 0), .ref ai, .ref ak, .ref sc, .ref rd, .ref fo, .ref tx, .int ty, .ref ar, .ref at_, .ref ao])), (ao, .inl (co_, 6, .inl fo_)), (fo, .inr (2, [.long lg_118, .long lh_119])), ((ab 0), .inr (0, [.ref (ab 1), .ref (ab 3), .ref (ab 5), .ref (ab 7), .ref (ab 9), .int (nI ub)])), ((ab 7), .inr (6, [.int 4, .int 6, .ref (ab 8), .int (nI (zb 3))])), ((ab 8), .inl ((cb 3), 24, .inl (fb 3)))]) [0, 1, 5, 2, 3, 4] (by decide) rfl
        have hK9 := hK.sub (tys' := [(co_, .int), ((cb 3), .int)]) [0, 1] rfl
        exact W.vret hx hb hr (fun t ht hW => ⟨⟨(), rfl, trivial, lg_118, lh_119, by rw [ht]; exact hP9, va_K.moved hW.alike hK9, hD9⟩, hS.F ht⟩) hS.2.2 dX11_timeSearch_198
      · have hn_120 : ¬ 6 ≤ k_44 := fun q => c_113 ((nI_leI (a := 6) (b := k_44) (by omega) (by omega)).mpr q)
        refine lv_iload hx hb dX11_timeSearch_96 (lv_at hl 1 rfl) ?_
        refine lv_aload_n hx hb dX11_timeSearch_98 rfl (lv_at hl 5 rfl) ?_
        refine va_get (D := (dC, dI)) (ci := 11) (v := .ref (ab 0)) (C := RX11) (T := TX11) (N := 12) hx hb hts iw_x_timeSearch_X11 hown hK hP 0 rfl rfl 1 (by decide) (hts (.fieldLink RX11 34 "ThriceCounted" "bank" "LThriceCounted$Bank;") (by decide +kernel)) (fun _ h9 => h9) rfl dX11_timeSearch_99 ?_
        refine va_get (D := (dC, dI)) (ci := 0) (v := .ref (ab 7)) (C := RX0) (T := TX0) (N := 6) hx hb hts iw_x_timeSearch_X0 hown hK hP 3 rfl rfl 3 (by decide) (hts (.fieldLink RX11 227 "ThriceCounted$Bank" "causes" "LThriceCounted$Rows;") (by decide +kernel)) (fun _ h9 => h9) rfl dX11_timeSearch_102 ?_
        refine lv_aload_n hx hb dX11_timeSearch_105 rfl (lv_at hl 5 rfl) ?_
        refine va_get (D := (dC, dI)) (ci := 11) (v := .ref ao) (C := RX11) (T := TX11) (N := 12) hx hb hts iw_x_timeSearch_X11 hown hK hP 0 rfl rfl 11 (by decide) (hts (.fieldLink RX11 82 "ThriceCounted" "order" "[I") (by decide +kernel)) (fun _ h9 => h9) rfl dX11_timeSearch_106 ?_
        refine lv_iload hx hb dX11_timeSearch_109 (lv_at hl 0 rfl) ?_
        refine va_iald hx hb hK hP 1 0 rfl rfl (vp_in_nI (n := k_44) (N := 6) (by omega) (by decide)) dX11_timeSearch_111 ?_
        refine lv_topi (fun x_121 _ => ?_)
        refine lv_iconst (v := 2) hx hb dX11_timeSearch_112 (by decide) ?_
        have hPc_122 := hP.sub (ws' := [((ab 7), .inr (6, [.int 4, .int 6, .ref (ab 8), .int (nI (zb 3))])), ((ab 8), .inl ((cb 3), 24, .inl (fb 3)))]) [4, 5] rfl
        have hKc_123 := hK.sub (tys' := [((cb 3), .int)]) [1] rfl
        refine vp_callSi (va_Run.run (va_runV (As := [.int x_121, .int 2]) (rest := [.int v_73]) ⟨hx, hb, hml, hown, hts⟩ (r_get_24 l dC dI (ab 7) (ab 8) (zb 3) (cb 3) (fb 3) x_121 2 (by omega)) (cwV 2 hts gX11_timeSearch_X6_get rfl rfl rfl (by decide +kernel) ⟨Nat.le_of_ble_eq_true rfl, Nat.le_of_ble_eq_true rfl⟩) ⟨fun a U g mk q => by obtain ⟨q0, qP, qK⟩ := q; exact ⟨q0, qP, va_K.moved (u := U) (U := U.calling g mk a) (Vm.Alike.refl U.vm) qK⟩, va_recv hK hP (ci := 6) (q0 := 4) rfl rfl, fun U hU hW => ⟨rfl, by rw [hU]; exact hPc_122, va_K.moved hW.alike hKc_123⟩⟩ rfl rfl hl.1 rfl (lv_room (Nat.le_of_ble_eq_true rfl)) dX11_timeSearch_113 ⟨Nat.le_of_ble_eq_true rfl, Nat.le_of_ble_eq_true rfl⟩)) (fun r_124 hw_125 => ?_)
        refine lv_iadd hx hb dX11_timeSearch_116 ?_
        refine lv_topi (fun x_126 _ => ?_)
        refine lv_istore (lv' := [(6, .int x_126), (7, .int (nI k_44)), (4, .long v_74), (3, .int v_20), (2, .int v_21), (0, .ref o), (1, .int (nI jm))]) hx hb dX11_timeSearch_117 hl (by decide) rfl (fun ls hl => ?_)
        refine lv_aload_n hx hb dX11_timeSearch_119 rfl (lv_at hl 5 rfl) ?_
        refine va_get (D := (dC, dI)) (ci := 11) (v := .ref (ab 0)) (C := RX11) (T := TX11) (N := 12) hx hb hts iw_x_timeSearch_X11 hown hK hP 0 rfl rfl 1 (by decide) (hts (.fieldLink RX11 34 "ThriceCounted" "bank" "LThriceCounted$Bank;") (by decide +kernel)) (fun _ h9 => h9) rfl dX11_timeSearch_120 ?_
        refine va_get (D := (dC, dI)) (ci := 0) (v := .ref (ab 7)) (C := RX0) (T := TX0) (N := 6) hx hb hts iw_x_timeSearch_X0 hown hK hP 3 rfl rfl 3 (by decide) (hts (.fieldLink RX11 227 "ThriceCounted$Bank" "causes" "LThriceCounted$Rows;") (by decide +kernel)) (fun _ h9 => h9) rfl dX11_timeSearch_123 ?_
        refine lv_aload_n hx hb dX11_timeSearch_126 rfl (lv_at hl 5 rfl) ?_
        refine va_get (D := (dC, dI)) (ci := 11) (v := .ref ao) (C := RX11) (T := TX11) (N := 12) hx hb hts iw_x_timeSearch_X11 hown hK hP 0 rfl rfl 11 (by decide) (hts (.fieldLink RX11 82 "ThriceCounted" "order" "[I") (by decide +kernel)) (fun _ h9 => h9) rfl dX11_timeSearch_127 ?_
        refine lv_iload hx hb dX11_timeSearch_130 (lv_at hl 1 rfl) ?_
        refine va_iald hx hb hK hP 1 0 rfl rfl (vp_in_nI (n := k_44) (N := 6) (by omega) (by decide)) dX11_timeSearch_132 ?_
        refine lv_topi (fun x_127 _ => ?_)
        refine lv_iconst (v := 3) hx hb dX11_timeSearch_133 (by decide) ?_
        have hPc_128 := hP.sub (ws' := [((ab 7), .inr (6, [.int 4, .int 6, .ref (ab 8), .int (nI (zb 3))])), ((ab 8), .inl ((cb 3), 24, .inl (fb 3)))]) [4, 5] rfl
        have hKc_129 := hK.sub (tys' := [((cb 3), .int)]) [1] rfl
        refine vp_callSi (va_Run.run (va_runV (As := [.int x_127, .int 3]) (rest := []) ⟨hx, hb, hml, hown, hts⟩ (r_get_24 l dC dI (ab 7) (ab 8) (zb 3) (cb 3) (fb 3) x_127 3 (by omega)) (cwV 2 hts gX11_timeSearch_X6_get rfl rfl rfl (by decide +kernel) ⟨Nat.le_of_ble_eq_true rfl, Nat.le_of_ble_eq_true rfl⟩) ⟨fun a U g mk q => by obtain ⟨q0, qP, qK⟩ := q; exact ⟨q0, qP, va_K.moved (u := U) (U := U.calling g mk a) (Vm.Alike.refl U.vm) qK⟩, va_recv hK hP (ci := 6) (q0 := 4) rfl rfl, fun U hU hW => ⟨rfl, by rw [hU]; exact hPc_128, va_K.moved hW.alike hKc_129⟩⟩ rfl rfl hl.1 rfl (lv_room (Nat.le_of_ble_eq_true rfl)) dX11_timeSearch_134 ⟨Nat.le_of_ble_eq_true rfl, Nat.le_of_ble_eq_true rfl⟩)) (fun r_130 hw_131 => ?_)
        refine lv_istore (lv' := [(8, .int r_130), (6, .int x_126), (7, .int (nI k_44)), (4, .long v_74), (3, .int v_20), (2, .int v_21), (0, .ref o), (1, .int (nI jm))]) hx hb dX11_timeSearch_137 hl (by decide) rfl (fun ls hl => ?_)
        refine lv_lload hx hb dX11_timeSearch_139 (lv_at hl 3 rfl) ?_
        refine lv_aload_n hx hb dX11_timeSearch_141 rfl (lv_at hl 6 rfl) ?_
        refine va_get (D := (dC, dI)) (ci := 11) (v := .ref (ab 0)) (C := RX11) (T := TX11) (N := 12) hx hb hts iw_x_timeSearch_X11 hown hK hP 0 rfl rfl 1 (by decide) (hts (.fieldLink RX11 34 "ThriceCounted" "bank" "LThriceCounted$Bank;") (by decide +kernel)) (fun _ h9 => h9) rfl dX11_timeSearch_142 ?_
        refine va_get (D := (dC, dI)) (ci := 0) (v := .ref (ab 7)) (C := RX0) (T := TX0) (N := 6) hx hb hts iw_x_timeSearch_X0 hown hK hP 3 rfl rfl 3 (by decide) (hts (.fieldLink RX11 227 "ThriceCounted$Bank" "causes" "LThriceCounted$Rows;") (by decide +kernel)) (fun _ h9 => h9) rfl dX11_timeSearch_145 ?_
        refine lv_aload_n hx hb dX11_timeSearch_148 rfl (lv_at hl 6 rfl) ?_
        refine va_get (D := (dC, dI)) (ci := 11) (v := .ref ao) (C := RX11) (T := TX11) (N := 12) hx hb hts iw_x_timeSearch_X11 hown hK hP 0 rfl rfl 11 (by decide) (hts (.fieldLink RX11 82 "ThriceCounted" "order" "[I") (by decide +kernel)) (fun _ h9 => h9) rfl dX11_timeSearch_149 ?_
        refine lv_iload hx hb dX11_timeSearch_152 (lv_at hl 2 rfl) ?_
        refine va_iald hx hb hK hP 1 0 rfl rfl (vp_in_nI (n := k_44) (N := 6) (by omega) (by decide)) dX11_timeSearch_154 ?_
        refine lv_topi (fun x_132 _ => ?_)
        refine lv_iconst (v := 1) hx hb dX11_timeSearch_155 (by decide) ?_
        have hPc_133 := hP.sub (ws' := [((ab 7), .inr (6, [.int 4, .int 6, .ref (ab 8), .int (nI (zb 3))])), ((ab 8), .inl ((cb 3), 24, .inl (fb 3)))]) [4, 5] rfl
        have hKc_134 := hK.sub (tys' := [((cb 3), .int)]) [1] rfl
        refine vp_callSi (va_Run.run (va_runV (As := [.int x_132, .int 1]) (rest := [.long v_74]) ⟨hx, hb, hml, hown, hts⟩ (r_get_24 l dC dI (ab 7) (ab 8) (zb 3) (cb 3) (fb 3) x_132 1 (by omega)) (cwV 2 hts gX11_timeSearch_X6_get rfl rfl rfl (by decide +kernel) ⟨Nat.le_of_ble_eq_true rfl, Nat.le_of_ble_eq_true rfl⟩) ⟨fun a U g mk q => by obtain ⟨q0, qP, qK⟩ := q; exact ⟨q0, qP, va_K.moved (u := U) (U := U.calling g mk a) (Vm.Alike.refl U.vm) qK⟩, va_recv hK hP (ci := 6) (q0 := 4) rfl rfl, fun U hU hW => ⟨rfl, by rw [hU]; exact hPc_133, va_K.moved hW.alike hKc_134⟩⟩ rfl rfl hl.1 rfl (lv_room (Nat.le_of_ble_eq_true rfl)) dX11_timeSearch_156 ⟨Nat.le_of_ble_eq_true rfl, Nat.le_of_ble_eq_true rfl⟩)) (fun r_135 hw_136 => ?_)
        refine lv_iload hx hb dX11_timeSearch_159 (lv_at hl 0 rfl) ?_
        refine lv_iload hx hb dX11_timeSearch_161 (lv_at hl 1 rfl) ?_
        refine lv_imul hx hb dX11_timeSearch_163 ?_
        refine lv_topi (fun x_137 _ => ?_)
        refine lv_bipush (v := 10) hx hb dX11_timeSearch_164 (by decide) ?_
        refine lv_iload hx hb dX11_timeSearch_166 (lv_at hl 0 rfl) ?_
        refine lv_isub hx hb dX11_timeSearch_168 ?_
        refine lv_topi (fun x_138 _ => ?_)
        refine lv_iload_n hx hb dX11_timeSearch_169 rfl (lv_at hl 5 rfl) ?_
        refine lv_imul hx hb dX11_timeSearch_170 ?_
        refine lv_topi (fun x_139 _ => ?_)
        refine lv_iadd hx hb dX11_timeSearch_171 ?_
        refine lv_topi (fun x_140 _ => ?_)
        refine lv_imul hx hb dX11_timeSearch_172 ?_
        refine lv_topi (fun x_141 _ => ?_)
        refine lv_i2l (v := x_141.toInt64) hx hb dX11_timeSearch_173 rfl ?_
        refine lv_ladd hx hb dX11_timeSearch_174 ?_
        refine lv_topl (fun x_142 _ => ?_)
        refine lv_lstore (lv' := [(4, .long x_142), (8, .int r_130), (6, .int x_126), (7, .int (nI k_44)), (3, .int v_20), (2, .int v_21), (0, .ref o), (1, .int (nI jm))]) hx hb dX11_timeSearch_175 hl (by decide) rfl (fun ls hl => ?_)
        refine lv_iinc (v := (nI (k_44 + 1))) (lv' := [(7, .int (nI (k_44 + 1))), (4, .long x_142), (8, .int r_130), (6, .int x_126), (3, .int v_20), (2, .int v_21), (0, .ref o), (1, .int (nI jm))]) hx hb dX11_timeSearch_177 hl (k := 3) rfl (nI_add k_44 1) (by decide) rfl (fun ls hl => ?_)
        refine lv_goto (tgt := 80) hx hb dX11_timeSearch_180 (by decide) ?_
        exact ih_104 ((k_44 + 1), x_126, x_142, ls) ⟨by dsimp only; omega, lv_sub hl [0, 3, 1, 4, 5, 6, 7] rfl⟩ (by dsimp only; omega)
  · have hn_143 : ¬ jm ≤ k_1 := fun q => c_42 ((nI_leI (a := jm) (b := k_1) (by omega) (by omega)).mpr q)
    refine lv_iload hx hb dX11_timeSearch_13 (lv_at hl 0 rfl) ?_
    refine lv_aload_n hx hb dX11_timeSearch_15 rfl (lv_at hl 3 rfl) ?_
    refine va_get (D := (dC, dI)) (ci := 11) (v := .ref ao) (C := RX11) (T := TX11) (N := 12) hx hb hts iw_x_timeSearch_X11 hown hK hP 0 rfl rfl 11 (by decide) (hts (.fieldLink RX11 82 "ThriceCounted" "order" "[I") (by decide +kernel)) (fun _ h9 => h9) rfl dX11_timeSearch_16 ?_
    refine va_alen (v := 6) hx hb hK hP 1 0 rfl rfl rfl dX11_timeSearch_19 ?_
    refine lv_icmp_ge (tgt := 71) hx hb dX11_timeSearch_20 (by decide) (fun c_144 => ?_) (fun c_144 => ?_)
    · have hn_145 : 6 ≤ k_1 := (nI_leI (a := 6) (b := k_1) (by omega) (by omega)).mp c_144
      refine lv_lconst (v := 0) hx hb dX11_timeSearch_71 (by decide) ?_
      refine lv_lstore (lv' := [(4, .long 0), (3, .int v_20), (2, .int v_21), (0, .ref o), (1, .int (nI jm))]) hx hb dX11_timeSearch_72 hl (by decide) rfl (fun ls hl => ?_)
      refine lv_iconst (v := 0) hx hb dX11_timeSearch_74 (by decide) ?_
      refine lv_istore (lv' := [(6, .int 0), (4, .long 0), (3, .int v_20), (2, .int v_21), (0, .ref o), (1, .int (nI jm))]) hx hb dX11_timeSearch_75 hl (by decide) rfl (fun ls hl => ?_)
      refine lv_iconst (v := 0) hx hb dX11_timeSearch_77 (by decide) ?_
      refine lv_istore (lv' := [(7, .int 0), (6, .int 0), (4, .long 0), (3, .int v_20), (2, .int v_21), (0, .ref o), (1, .int (nI jm))]) hx hb dX11_timeSearch_78 hl (by decide) rfl (fun ls hl => ?_)
      refine tz_while (σ := Nat × Int32 × Int64 × Array Slot) (fun x => W p l e _ s m _ below meth c _ _ _ _ _ (F0 m 80 x.2.2.2 [])) (fun x => x.1 ≤ jm ∧ lv_has x.2.2.2 9 [(7, .int (nI x.1)), (6, .int x.2.1), (4, .long x.2.2.1), (3, .int v_20), (2, .int v_21), (0, .ref o), (1, .int (nI jm))]) (fun x => jm - x.1) ?_ (0, 0, 0, ls) ⟨by (try dsimp only); omega, hl⟩
      rintro ⟨k_146, v_175, v_176, ls⟩ ⟨hi_205_0, hl⟩ ih_206
      dsimp only at hi_205_0 hl ih_206 ⊢
      refine lv_iload hx hb dX11_timeSearch_80 (lv_at hl 0 rfl) ?_
      refine lv_iload_n hx hb dX11_timeSearch_82 rfl (lv_at hl 6 rfl) ?_
      refine lv_icmp_ge (tgt := 183) hx hb dX11_timeSearch_83 (by decide) (fun c_207 => ?_) (fun c_207 => ?_)
      · have hn_208 : jm ≤ k_146 := (nI_leI (a := jm) (b := k_146) (by omega) (by omega)).mp c_207
        refine lv_aload_n hx hb dX11_timeSearch_183 rfl (lv_at hl 5 rfl) ?_
        refine va_get (D := (dC, dI)) (ci := 11) (v := .ref fo) (C := RX11) (T := TX11) (N := 12) hx hb hts iw_x_timeSearch_X11 hown hK hP 0 rfl rfl 6 (by decide) (hts (.fieldLink RX11 63 "ThriceCounted" "fraction" "LThriceCounted$Fraction;") (by decide +kernel)) (fun _ h9 => h9) rfl dX11_timeSearch_184 ?_
        refine lv_lload hx hb dX11_timeSearch_187 (lv_at hl 2 rfl) ?_
        refine lv_ldc2 hx hb hown (hts (.constantLong RX11 211 (10)) (by decide +kernel)) dX11_timeSearch_189 ?_
        refine lv_iload_n hx hb dX11_timeSearch_192 rfl (lv_at hl 3 rfl) ?_
        refine lv_i2l (v := v_20.toInt64) hx hb dX11_timeSearch_193 rfl ?_
        refine lv_lmul hx hb dX11_timeSearch_194 ?_
        refine lv_topl (fun x_209 _ => ?_)
        have hPc := hP.sub (ws' := [(fo, .inr (2, [.long la, .long lb]))]) [2] rfl
        have hDc := hD.sub (ws' := [(fo, .inr (2, [.long la, .long lb]))]) [2] (by decide) rfl
        have hKc := hK.sub (tys' := []) [] rfl
        have hFc := va_free (wc := [(fo, .inr (2, [.long la, .long lb]))]) hD hS hA [2] rfl
        refine va_callv (va_runV (As := [.long v_176, .long x_209]) (rest := []) ⟨hx, hb, hml, hown, hts⟩ (f_become l dC dI fo la lb v_176 x_209 s.heap.size) (cwV 2 hts gX11_timeSearch_X2_become rfl rfl rfl (by decide +kernel) ⟨Nat.le_of_ble_eq_true rfl, Nat.le_of_ble_eq_true rfl⟩) ⟨fun a U g mk q => by obtain ⟨q0, q1, qP, qK, qD⟩ := q; exact ⟨q0, q1, qP, va_K.moved (u := U) (U := U.calling g mk a) (Vm.Alike.refl U.vm) qK, qD⟩, va_recv hK hP (ci := 2) (q0 := 2) rfl rfl, fun U hU hW => ⟨rfl, by rw [hU], by rw [hU]; exact hPc, va_K.moved hW.alike hKc, hDc.weaken (fun _ _ _ _ => trivial)⟩⟩ rfl rfl hl.1 rfl (lv_room (Nat.le_of_ble_eq_true rfl)) dX11_timeSearch_195 ⟨Nat.le_of_ble_eq_true rfl, Nat.le_of_ble_eq_true rfl⟩) hS (fun q _ h => hFc q h) hFc (fun u_ t H1 locs ht hvm hw_211 hB hz1 hk1 hS => ?_)
        obtain ⟨lg_212, lh_213, hP1, hK1, hD1⟩ := hB
        rw [ht] at hP1
        have hK1 := va_K.moved hvm.symm hK1
        obtain ⟨hP, hD⟩ := va_join (wr := [(o, .inr (11, [.ref aw, .ref (ab 0), .ref ai, .ref ak, .ref sc, .ref rd, .ref fo, .ref tx, .int ty, .ref ar, .ref at_, .ref ao])), (ao, .inl (co_, 6, .inl fo_)), ((ab 0), .inr (0, [.ref (ab 1), .ref (ab 3), .ref (ab 5), .ref (ab 7), .ref (ab 9), .int (nI ub)])), ((ab 7), .inr (6, [.int 4, .int 6, .ref (ab 8), .int (nI (zb 3))])), ((ab 8), .inl ((cb 3), 24, .inl (fb 3)))]) (w1 := [(fo, .inr (2, [.long lg_212, .long lh_213]))]) hP hD [2] [0, 1, 3, 4, 5] rfl rfl (by decide) (by decide) hk1 hFc hP1 hD1
        generalize H1 = H at hP hS ⊢
        have hP : va_P (dC, dI) vwCl [(o, .inr (11, [.ref aw, .ref (ab 0), .ref ai, .ref ak, .ref sc, .ref rd, .ref fo, .ref tx, .int ty, .ref ar, .ref at_, .ref ao])), (ao, .inl (co_, 6, .inl fo_)), ((ab 0), .inr (0, [.ref (ab 1), .ref (ab 3), .ref (ab 5), .ref (ab 7), .ref (ab 9), .int (nI ub)])), ((ab 7), .inr (6, [.int 4, .int 6, .ref (ab 8), .int (nI (zb 3))])), ((ab 8), .inl ((cb 3), 24, .inl (fb 3))), (fo, .inr (2, [.long lg_212, .long lh_213]))] H := hP
        have hD : va_D A [(o, .inr (11, [.ref aw, .ref (ab 0), .ref ai, .ref ak, .ref sc, .ref rd, .ref fo, .ref tx, .int ty, .ref ar, .ref at_, .ref ao])), (ao, .inl (co_, 6, .inl fo_)), ((ab 0), .inr (0, [.ref (ab 1), .ref (ab 3), .ref (ab 5), .ref (ab 7), .ref (ab 9), .int (nI ub)])), ((ab 7), .inr (6, [.int 4, .int 6, .ref (ab 8), .int (nI (zb 3))])), ((ab 8), .inl ((cb 3), 24, .inl (fb 3))), (fo, .inr (2, [.long lg_212, .long lh_213]))] := hD
        have hP9 := hP.sub (ws' := [(o, .inr (11, [.ref aw, .ref (ab 0), .ref ai, .ref ak, .ref sc, .ref rd, .ref fo, .ref tx, .int ty, .ref ar, .ref at_, .ref ao])), (ao, .inl (co_, 6, .inl fo_)), (fo, .inr (2, [.long lg_212, .long lh_213])), ((ab 0), .inr (0, [.ref (ab 1), .ref (ab 3), .ref (ab 5), .ref (ab 7), .ref (ab 9), .int (nI ub)])), ((ab 7), .inr (6, [.int 4, .int 6, .ref (ab 8), .int (nI (zb 3))])), ((ab 8), .inl ((cb 3), 24, .inl (fb 3)))]) [0, 1, 5, 2, 3, 4] rfl
        have hD9 := hD.sub (ws' := [(o, .inr (11, [.ref aw, .ref (ab 0), .ref ai, .ref ak, .ref sc, .ref rd, .ref fo, .ref tx, .int ty, .ref ar, .ref at_, .ref ao])), (ao, .inl (co_, 6, .inl fo_)), (fo, .inr (2, [.long lg_212, .long lh_213])), ((ab 0), .inr (0, [.ref (ab 1), .ref (ab 3), .ref (ab 5), .ref (ab 7), .ref (ab 9), .int (nI ub)])), ((ab 7), .inr (6, [.int 4, .int 6, .ref (ab 8), .int (nI (zb 3))])), ((ab 8), .inl ((cb 3), 24, .inl (fb 3)))]) [0, 1, 5, 2, 3, 4] (by decide) rfl
        have hK9 := hK.sub (tys' := [(co_, .int), ((cb 3), .int)]) [0, 1] rfl
        exact W.vret hx hb hr (fun t ht hW => ⟨⟨(), rfl, trivial, lg_212, lh_213, by rw [ht]; exact hP9, va_K.moved hW.alike hK9, hD9⟩, hS.F ht⟩) hS.2.2 dX11_timeSearch_198
      · have hn_214 : ¬ jm ≤ k_146 := fun q => c_207 ((nI_leI (a := jm) (b := k_146) (by omega) (by omega)).mpr q)
        refine lv_iload hx hb dX11_timeSearch_86 (lv_at hl 0 rfl) ?_
        refine lv_aload_n hx hb dX11_timeSearch_88 rfl (lv_at hl 5 rfl) ?_
        refine va_get (D := (dC, dI)) (ci := 11) (v := .ref ao) (C := RX11) (T := TX11) (N := 12) hx hb hts iw_x_timeSearch_X11 hown hK hP 0 rfl rfl 11 (by decide) (hts (.fieldLink RX11 82 "ThriceCounted" "order" "[I") (by decide +kernel)) (fun _ h9 => h9) rfl dX11_timeSearch_89 ?_
        refine va_alen (v := 6) hx hb hK hP 1 0 rfl rfl rfl dX11_timeSearch_92 ?_
        refine lv_icmp_ge (tgt := 183) hx hb dX11_timeSearch_93 (by decide) (fun c_215 => ?_) (fun c_215 => ?_)
        · have hn_216 : 6 ≤ k_146 := (nI_leI (a := 6) (b := k_146) (by omega) (by omega)).mp c_215
          refine lv_aload_n hx hb dX11_timeSearch_183 rfl (lv_at hl 5 rfl) ?_
          refine va_get (D := (dC, dI)) (ci := 11) (v := .ref fo) (C := RX11) (T := TX11) (N := 12) hx hb hts iw_x_timeSearch_X11 hown hK hP 0 rfl rfl 6 (by decide) (hts (.fieldLink RX11 63 "ThriceCounted" "fraction" "LThriceCounted$Fraction;") (by decide +kernel)) (fun _ h9 => h9) rfl dX11_timeSearch_184 ?_
          refine lv_lload hx hb dX11_timeSearch_187 (lv_at hl 2 rfl) ?_
          refine lv_ldc2 hx hb hown (hts (.constantLong RX11 211 (10)) (by decide +kernel)) dX11_timeSearch_189 ?_
          refine lv_iload_n hx hb dX11_timeSearch_192 rfl (lv_at hl 3 rfl) ?_
          refine lv_i2l (v := v_20.toInt64) hx hb dX11_timeSearch_193 rfl ?_
          refine lv_lmul hx hb dX11_timeSearch_194 ?_
          refine lv_topl (fun x_217 _ => ?_)
          have hPc := hP.sub (ws' := [(fo, .inr (2, [.long la, .long lb]))]) [2] rfl
          have hDc := hD.sub (ws' := [(fo, .inr (2, [.long la, .long lb]))]) [2] (by decide) rfl
          have hKc := hK.sub (tys' := []) [] rfl
          have hFc := va_free (wc := [(fo, .inr (2, [.long la, .long lb]))]) hD hS hA [2] rfl
          refine va_callv (va_runV (As := [.long v_176, .long x_217]) (rest := []) ⟨hx, hb, hml, hown, hts⟩ (f_become l dC dI fo la lb v_176 x_217 s.heap.size) (cwV 2 hts gX11_timeSearch_X2_become rfl rfl rfl (by decide +kernel) ⟨Nat.le_of_ble_eq_true rfl, Nat.le_of_ble_eq_true rfl⟩) ⟨fun a U g mk q => by obtain ⟨q0, q1, qP, qK, qD⟩ := q; exact ⟨q0, q1, qP, va_K.moved (u := U) (U := U.calling g mk a) (Vm.Alike.refl U.vm) qK, qD⟩, va_recv hK hP (ci := 2) (q0 := 2) rfl rfl, fun U hU hW => ⟨rfl, by rw [hU], by rw [hU]; exact hPc, va_K.moved hW.alike hKc, hDc.weaken (fun _ _ _ _ => trivial)⟩⟩ rfl rfl hl.1 rfl (lv_room (Nat.le_of_ble_eq_true rfl)) dX11_timeSearch_195 ⟨Nat.le_of_ble_eq_true rfl, Nat.le_of_ble_eq_true rfl⟩) hS (fun q _ h => hFc q h) hFc (fun u_ t H1 locs ht hvm hw_219 hB hz1 hk1 hS => ?_)
          obtain ⟨lg_220, lh_221, hP1, hK1, hD1⟩ := hB
          rw [ht] at hP1
          have hK1 := va_K.moved hvm.symm hK1
          obtain ⟨hP, hD⟩ := va_join (wr := [(o, .inr (11, [.ref aw, .ref (ab 0), .ref ai, .ref ak, .ref sc, .ref rd, .ref fo, .ref tx, .int ty, .ref ar, .ref at_, .ref ao])), (ao, .inl (co_, 6, .inl fo_)), ((ab 0), .inr (0, [.ref (ab 1), .ref (ab 3), .ref (ab 5), .ref (ab 7), .ref (ab 9), .int (nI ub)])), ((ab 7), .inr (6, [.int 4, .int 6, .ref (ab 8), .int (nI (zb 3))])), ((ab 8), .inl ((cb 3), 24, .inl (fb 3)))]) (w1 := [(fo, .inr (2, [.long lg_220, .long lh_221]))]) hP hD [2] [0, 1, 3, 4, 5] rfl rfl (by decide) (by decide) hk1 hFc hP1 hD1
          generalize H1 = H at hP hS ⊢
          have hP : va_P (dC, dI) vwCl [(o, .inr (11, [.ref aw, .ref (ab 0), .ref ai, .ref ak, .ref sc, .ref rd, .ref fo, .ref tx, .int ty, .ref ar, .ref at_, .ref ao])), (ao, .inl (co_, 6, .inl fo_)), ((ab 0), .inr (0, [.ref (ab 1), .ref (ab 3), .ref (ab 5), .ref (ab 7), .ref (ab 9), .int (nI ub)])), ((ab 7), .inr (6, [.int 4, .int 6, .ref (ab 8), .int (nI (zb 3))])), ((ab 8), .inl ((cb 3), 24, .inl (fb 3))), (fo, .inr (2, [.long lg_220, .long lh_221]))] H := hP
          have hD : va_D A [(o, .inr (11, [.ref aw, .ref (ab 0), .ref ai, .ref ak, .ref sc, .ref rd, .ref fo, .ref tx, .int ty, .ref ar, .ref at_, .ref ao])), (ao, .inl (co_, 6, .inl fo_)), ((ab 0), .inr (0, [.ref (ab 1), .ref (ab 3), .ref (ab 5), .ref (ab 7), .ref (ab 9), .int (nI ub)])), ((ab 7), .inr (6, [.int 4, .int 6, .ref (ab 8), .int (nI (zb 3))])), ((ab 8), .inl ((cb 3), 24, .inl (fb 3))), (fo, .inr (2, [.long lg_220, .long lh_221]))] := hD
          have hP9 := hP.sub (ws' := [(o, .inr (11, [.ref aw, .ref (ab 0), .ref ai, .ref ak, .ref sc, .ref rd, .ref fo, .ref tx, .int ty, .ref ar, .ref at_, .ref ao])), (ao, .inl (co_, 6, .inl fo_)), (fo, .inr (2, [.long lg_220, .long lh_221])), ((ab 0), .inr (0, [.ref (ab 1), .ref (ab 3), .ref (ab 5), .ref (ab 7), .ref (ab 9), .int (nI ub)])), ((ab 7), .inr (6, [.int 4, .int 6, .ref (ab 8), .int (nI (zb 3))])), ((ab 8), .inl ((cb 3), 24, .inl (fb 3)))]) [0, 1, 5, 2, 3, 4] rfl
          have hD9 := hD.sub (ws' := [(o, .inr (11, [.ref aw, .ref (ab 0), .ref ai, .ref ak, .ref sc, .ref rd, .ref fo, .ref tx, .int ty, .ref ar, .ref at_, .ref ao])), (ao, .inl (co_, 6, .inl fo_)), (fo, .inr (2, [.long lg_220, .long lh_221])), ((ab 0), .inr (0, [.ref (ab 1), .ref (ab 3), .ref (ab 5), .ref (ab 7), .ref (ab 9), .int (nI ub)])), ((ab 7), .inr (6, [.int 4, .int 6, .ref (ab 8), .int (nI (zb 3))])), ((ab 8), .inl ((cb 3), 24, .inl (fb 3)))]) [0, 1, 5, 2, 3, 4] (by decide) rfl
          have hK9 := hK.sub (tys' := [(co_, .int), ((cb 3), .int)]) [0, 1] rfl
          exact W.vret hx hb hr (fun t ht hW => ⟨⟨(), rfl, trivial, lg_220, lh_221, by rw [ht]; exact hP9, va_K.moved hW.alike hK9, hD9⟩, hS.F ht⟩) hS.2.2 dX11_timeSearch_198
        · have hn_222 : ¬ 6 ≤ k_146 := fun q => c_215 ((nI_leI (a := 6) (b := k_146) (by omega) (by omega)).mpr q)
          refine lv_iload hx hb dX11_timeSearch_96 (lv_at hl 1 rfl) ?_
          refine lv_aload_n hx hb dX11_timeSearch_98 rfl (lv_at hl 5 rfl) ?_
          refine va_get (D := (dC, dI)) (ci := 11) (v := .ref (ab 0)) (C := RX11) (T := TX11) (N := 12) hx hb hts iw_x_timeSearch_X11 hown hK hP 0 rfl rfl 1 (by decide) (hts (.fieldLink RX11 34 "ThriceCounted" "bank" "LThriceCounted$Bank;") (by decide +kernel)) (fun _ h9 => h9) rfl dX11_timeSearch_99 ?_
          refine va_get (D := (dC, dI)) (ci := 0) (v := .ref (ab 7)) (C := RX0) (T := TX0) (N := 6) hx hb hts iw_x_timeSearch_X0 hown hK hP 3 rfl rfl 3 (by decide) (hts (.fieldLink RX11 227 "ThriceCounted$Bank" "causes" "LThriceCounted$Rows;") (by decide +kernel)) (fun _ h9 => h9) rfl dX11_timeSearch_102 ?_
          refine lv_aload_n hx hb dX11_timeSearch_105 rfl (lv_at hl 5 rfl) ?_
          refine va_get (D := (dC, dI)) (ci := 11) (v := .ref ao) (C := RX11) (T := TX11) (N := 12) hx hb hts iw_x_timeSearch_X11 hown hK hP 0 rfl rfl 11 (by decide) (hts (.fieldLink RX11 82 "ThriceCounted" "order" "[I") (by decide +kernel)) (fun _ h9 => h9) rfl dX11_timeSearch_106 ?_
          refine lv_iload hx hb dX11_timeSearch_109 (lv_at hl 0 rfl) ?_
          refine va_iald hx hb hK hP 1 0 rfl rfl (vp_in_nI (n := k_146) (N := 6) (by omega) (by decide)) dX11_timeSearch_111 ?_
          refine lv_topi (fun x_223 _ => ?_)
          refine lv_iconst (v := 2) hx hb dX11_timeSearch_112 (by decide) ?_
          have hPc_224 := hP.sub (ws' := [((ab 7), .inr (6, [.int 4, .int 6, .ref (ab 8), .int (nI (zb 3))])), ((ab 8), .inl ((cb 3), 24, .inl (fb 3)))]) [4, 5] rfl
          have hKc_225 := hK.sub (tys' := [((cb 3), .int)]) [1] rfl
          refine vp_callSi (va_Run.run (va_runV (As := [.int x_223, .int 2]) (rest := [.int v_175]) ⟨hx, hb, hml, hown, hts⟩ (r_get_24 l dC dI (ab 7) (ab 8) (zb 3) (cb 3) (fb 3) x_223 2 (by omega)) (cwV 2 hts gX11_timeSearch_X6_get rfl rfl rfl (by decide +kernel) ⟨Nat.le_of_ble_eq_true rfl, Nat.le_of_ble_eq_true rfl⟩) ⟨fun a U g mk q => by obtain ⟨q0, qP, qK⟩ := q; exact ⟨q0, qP, va_K.moved (u := U) (U := U.calling g mk a) (Vm.Alike.refl U.vm) qK⟩, va_recv hK hP (ci := 6) (q0 := 4) rfl rfl, fun U hU hW => ⟨rfl, by rw [hU]; exact hPc_224, va_K.moved hW.alike hKc_225⟩⟩ rfl rfl hl.1 rfl (lv_room (Nat.le_of_ble_eq_true rfl)) dX11_timeSearch_113 ⟨Nat.le_of_ble_eq_true rfl, Nat.le_of_ble_eq_true rfl⟩)) (fun r_226 hw_227 => ?_)
          refine lv_iadd hx hb dX11_timeSearch_116 ?_
          refine lv_topi (fun x_228 _ => ?_)
          refine lv_istore (lv' := [(6, .int x_228), (7, .int (nI k_146)), (4, .long v_176), (3, .int v_20), (2, .int v_21), (0, .ref o), (1, .int (nI jm))]) hx hb dX11_timeSearch_117 hl (by decide) rfl (fun ls hl => ?_)
          refine lv_aload_n hx hb dX11_timeSearch_119 rfl (lv_at hl 5 rfl) ?_
          refine va_get (D := (dC, dI)) (ci := 11) (v := .ref (ab 0)) (C := RX11) (T := TX11) (N := 12) hx hb hts iw_x_timeSearch_X11 hown hK hP 0 rfl rfl 1 (by decide) (hts (.fieldLink RX11 34 "ThriceCounted" "bank" "LThriceCounted$Bank;") (by decide +kernel)) (fun _ h9 => h9) rfl dX11_timeSearch_120 ?_
          refine va_get (D := (dC, dI)) (ci := 0) (v := .ref (ab 7)) (C := RX0) (T := TX0) (N := 6) hx hb hts iw_x_timeSearch_X0 hown hK hP 3 rfl rfl 3 (by decide) (hts (.fieldLink RX11 227 "ThriceCounted$Bank" "causes" "LThriceCounted$Rows;") (by decide +kernel)) (fun _ h9 => h9) rfl dX11_timeSearch_123 ?_
          refine lv_aload_n hx hb dX11_timeSearch_126 rfl (lv_at hl 5 rfl) ?_
          refine va_get (D := (dC, dI)) (ci := 11) (v := .ref ao) (C := RX11) (T := TX11) (N := 12) hx hb hts iw_x_timeSearch_X11 hown hK hP 0 rfl rfl 11 (by decide) (hts (.fieldLink RX11 82 "ThriceCounted" "order" "[I") (by decide +kernel)) (fun _ h9 => h9) rfl dX11_timeSearch_127 ?_
          refine lv_iload hx hb dX11_timeSearch_130 (lv_at hl 1 rfl) ?_
          refine va_iald hx hb hK hP 1 0 rfl rfl (vp_in_nI (n := k_146) (N := 6) (by omega) (by decide)) dX11_timeSearch_132 ?_
          refine lv_topi (fun x_229 _ => ?_)
          refine lv_iconst (v := 3) hx hb dX11_timeSearch_133 (by decide) ?_
          have hPc_230 := hP.sub (ws' := [((ab 7), .inr (6, [.int 4, .int 6, .ref (ab 8), .int (nI (zb 3))])), ((ab 8), .inl ((cb 3), 24, .inl (fb 3)))]) [4, 5] rfl
          have hKc_231 := hK.sub (tys' := [((cb 3), .int)]) [1] rfl
          refine vp_callSi (va_Run.run (va_runV (As := [.int x_229, .int 3]) (rest := []) ⟨hx, hb, hml, hown, hts⟩ (r_get_24 l dC dI (ab 7) (ab 8) (zb 3) (cb 3) (fb 3) x_229 3 (by omega)) (cwV 2 hts gX11_timeSearch_X6_get rfl rfl rfl (by decide +kernel) ⟨Nat.le_of_ble_eq_true rfl, Nat.le_of_ble_eq_true rfl⟩) ⟨fun a U g mk q => by obtain ⟨q0, qP, qK⟩ := q; exact ⟨q0, qP, va_K.moved (u := U) (U := U.calling g mk a) (Vm.Alike.refl U.vm) qK⟩, va_recv hK hP (ci := 6) (q0 := 4) rfl rfl, fun U hU hW => ⟨rfl, by rw [hU]; exact hPc_230, va_K.moved hW.alike hKc_231⟩⟩ rfl rfl hl.1 rfl (lv_room (Nat.le_of_ble_eq_true rfl)) dX11_timeSearch_134 ⟨Nat.le_of_ble_eq_true rfl, Nat.le_of_ble_eq_true rfl⟩)) (fun r_232 hw_233 => ?_)
          refine lv_istore (lv' := [(8, .int r_232), (6, .int x_228), (7, .int (nI k_146)), (4, .long v_176), (3, .int v_20), (2, .int v_21), (0, .ref o), (1, .int (nI jm))]) hx hb dX11_timeSearch_137 hl (by decide) rfl (fun ls hl => ?_)
          refine lv_lload hx hb dX11_timeSearch_139 (lv_at hl 3 rfl) ?_
          refine lv_aload_n hx hb dX11_timeSearch_141 rfl (lv_at hl 6 rfl) ?_
          refine va_get (D := (dC, dI)) (ci := 11) (v := .ref (ab 0)) (C := RX11) (T := TX11) (N := 12) hx hb hts iw_x_timeSearch_X11 hown hK hP 0 rfl rfl 1 (by decide) (hts (.fieldLink RX11 34 "ThriceCounted" "bank" "LThriceCounted$Bank;") (by decide +kernel)) (fun _ h9 => h9) rfl dX11_timeSearch_142 ?_
          refine va_get (D := (dC, dI)) (ci := 0) (v := .ref (ab 7)) (C := RX0) (T := TX0) (N := 6) hx hb hts iw_x_timeSearch_X0 hown hK hP 3 rfl rfl 3 (by decide) (hts (.fieldLink RX11 227 "ThriceCounted$Bank" "causes" "LThriceCounted$Rows;") (by decide +kernel)) (fun _ h9 => h9) rfl dX11_timeSearch_145 ?_
          refine lv_aload_n hx hb dX11_timeSearch_148 rfl (lv_at hl 6 rfl) ?_
          refine va_get (D := (dC, dI)) (ci := 11) (v := .ref ao) (C := RX11) (T := TX11) (N := 12) hx hb hts iw_x_timeSearch_X11 hown hK hP 0 rfl rfl 11 (by decide) (hts (.fieldLink RX11 82 "ThriceCounted" "order" "[I") (by decide +kernel)) (fun _ h9 => h9) rfl dX11_timeSearch_149 ?_
          refine lv_iload hx hb dX11_timeSearch_152 (lv_at hl 2 rfl) ?_
          refine va_iald hx hb hK hP 1 0 rfl rfl (vp_in_nI (n := k_146) (N := 6) (by omega) (by decide)) dX11_timeSearch_154 ?_
          refine lv_topi (fun x_234 _ => ?_)
          refine lv_iconst (v := 1) hx hb dX11_timeSearch_155 (by decide) ?_
          have hPc_235 := hP.sub (ws' := [((ab 7), .inr (6, [.int 4, .int 6, .ref (ab 8), .int (nI (zb 3))])), ((ab 8), .inl ((cb 3), 24, .inl (fb 3)))]) [4, 5] rfl
          have hKc_236 := hK.sub (tys' := [((cb 3), .int)]) [1] rfl
          refine vp_callSi (va_Run.run (va_runV (As := [.int x_234, .int 1]) (rest := [.long v_176]) ⟨hx, hb, hml, hown, hts⟩ (r_get_24 l dC dI (ab 7) (ab 8) (zb 3) (cb 3) (fb 3) x_234 1 (by omega)) (cwV 2 hts gX11_timeSearch_X6_get rfl rfl rfl (by decide +kernel) ⟨Nat.le_of_ble_eq_true rfl, Nat.le_of_ble_eq_true rfl⟩) ⟨fun a U g mk q => by obtain ⟨q0, qP, qK⟩ := q; exact ⟨q0, qP, va_K.moved (u := U) (U := U.calling g mk a) (Vm.Alike.refl U.vm) qK⟩, va_recv hK hP (ci := 6) (q0 := 4) rfl rfl, fun U hU hW => ⟨rfl, by rw [hU]; exact hPc_235, va_K.moved hW.alike hKc_236⟩⟩ rfl rfl hl.1 rfl (lv_room (Nat.le_of_ble_eq_true rfl)) dX11_timeSearch_156 ⟨Nat.le_of_ble_eq_true rfl, Nat.le_of_ble_eq_true rfl⟩)) (fun r_237 hw_238 => ?_)
          refine lv_iload hx hb dX11_timeSearch_159 (lv_at hl 0 rfl) ?_
          refine lv_iload hx hb dX11_timeSearch_161 (lv_at hl 1 rfl) ?_
          refine lv_imul hx hb dX11_timeSearch_163 ?_
          refine lv_topi (fun x_239 _ => ?_)
          refine lv_bipush (v := 10) hx hb dX11_timeSearch_164 (by decide) ?_
          refine lv_iload hx hb dX11_timeSearch_166 (lv_at hl 0 rfl) ?_
          refine lv_isub hx hb dX11_timeSearch_168 ?_
          refine lv_topi (fun x_240 _ => ?_)
          refine lv_iload_n hx hb dX11_timeSearch_169 rfl (lv_at hl 5 rfl) ?_
          refine lv_imul hx hb dX11_timeSearch_170 ?_
          refine lv_topi (fun x_241 _ => ?_)
          refine lv_iadd hx hb dX11_timeSearch_171 ?_
          refine lv_topi (fun x_242 _ => ?_)
          refine lv_imul hx hb dX11_timeSearch_172 ?_
          refine lv_topi (fun x_243 _ => ?_)
          refine lv_i2l (v := x_243.toInt64) hx hb dX11_timeSearch_173 rfl ?_
          refine lv_ladd hx hb dX11_timeSearch_174 ?_
          refine lv_topl (fun x_244 _ => ?_)
          refine lv_lstore (lv' := [(4, .long x_244), (8, .int r_232), (6, .int x_228), (7, .int (nI k_146)), (3, .int v_20), (2, .int v_21), (0, .ref o), (1, .int (nI jm))]) hx hb dX11_timeSearch_175 hl (by decide) rfl (fun ls hl => ?_)
          refine lv_iinc (v := (nI (k_146 + 1))) (lv' := [(7, .int (nI (k_146 + 1))), (4, .long x_244), (8, .int r_232), (6, .int x_228), (3, .int v_20), (2, .int v_21), (0, .ref o), (1, .int (nI jm))]) hx hb dX11_timeSearch_177 hl (k := 3) rfl (nI_add k_146 1) (by decide) rfl (fun ls hl => ?_)
          refine lv_goto (tgt := 80) hx hb dX11_timeSearch_180 (by decide) ?_
          exact ih_206 ((k_146 + 1), x_228, x_244, ls) ⟨by dsimp only; omega, lv_sub hl [0, 3, 1, 4, 5, 6, 7] rfl⟩ (by dsimp only; omega)
    · have hn_245 : ¬ 6 ≤ k_1 := fun q => c_144 ((nI_leI (a := 6) (b := k_1) (by omega) (by omega)).mpr q)
      refine lv_iload_n hx hb dX11_timeSearch_23 rfl (lv_at hl 2 rfl) ?_
      refine lv_aload_n hx hb dX11_timeSearch_24 rfl (lv_at hl 3 rfl) ?_
      refine va_get (D := (dC, dI)) (ci := 11) (v := .ref (ab 0)) (C := RX11) (T := TX11) (N := 12) hx hb hts iw_x_timeSearch_X11 hown hK hP 0 rfl rfl 1 (by decide) (hts (.fieldLink RX11 34 "ThriceCounted" "bank" "LThriceCounted$Bank;") (by decide +kernel)) (fun _ h9 => h9) rfl dX11_timeSearch_25 ?_
      refine va_get (D := (dC, dI)) (ci := 0) (v := .ref (ab 7)) (C := RX0) (T := TX0) (N := 6) hx hb hts iw_x_timeSearch_X0 hown hK hP 3 rfl rfl 3 (by decide) (hts (.fieldLink RX11 227 "ThriceCounted$Bank" "causes" "LThriceCounted$Rows;") (by decide +kernel)) (fun _ h9 => h9) rfl dX11_timeSearch_28 ?_
      refine lv_aload_n hx hb dX11_timeSearch_31 rfl (lv_at hl 3 rfl) ?_
      refine va_get (D := (dC, dI)) (ci := 11) (v := .ref ao) (C := RX11) (T := TX11) (N := 12) hx hb hts iw_x_timeSearch_X11 hown hK hP 0 rfl rfl 11 (by decide) (hts (.fieldLink RX11 82 "ThriceCounted" "order" "[I") (by decide +kernel)) (fun _ h9 => h9) rfl dX11_timeSearch_32 ?_
      refine lv_iload hx hb dX11_timeSearch_35 (lv_at hl 0 rfl) ?_
      refine va_iald hx hb hK hP 1 0 rfl rfl (vp_in_nI (n := k_1) (N := 6) (by omega) (by decide)) dX11_timeSearch_37 ?_
      refine lv_topi (fun x_246 _ => ?_)
      refine lv_iconst (v := 2) hx hb dX11_timeSearch_38 (by decide) ?_
      have hPc_247 := hP.sub (ws' := [((ab 7), .inr (6, [.int 4, .int 6, .ref (ab 8), .int (nI (zb 3))])), ((ab 8), .inl ((cb 3), 24, .inl (fb 3)))]) [4, 5] rfl
      have hKc_248 := hK.sub (tys' := [((cb 3), .int)]) [1] rfl
      refine vp_callSi (va_Run.run (va_runV (As := [.int x_246, .int 2]) (rest := [.int v_21]) ⟨hx, hb, hml, hown, hts⟩ (r_get_24 l dC dI (ab 7) (ab 8) (zb 3) (cb 3) (fb 3) x_246 2 (by omega)) (cwV 2 hts gX11_timeSearch_X6_get rfl rfl rfl (by decide +kernel) ⟨Nat.le_of_ble_eq_true rfl, Nat.le_of_ble_eq_true rfl⟩) ⟨fun a U g mk q => by obtain ⟨q0, qP, qK⟩ := q; exact ⟨q0, qP, va_K.moved (u := U) (U := U.calling g mk a) (Vm.Alike.refl U.vm) qK⟩, va_recv hK hP (ci := 6) (q0 := 4) rfl rfl, fun U hU hW => ⟨rfl, by rw [hU]; exact hPc_247, va_K.moved hW.alike hKc_248⟩⟩ rfl rfl hl.1 rfl (lv_room (Nat.le_of_ble_eq_true rfl)) dX11_timeSearch_39 ⟨Nat.le_of_ble_eq_true rfl, Nat.le_of_ble_eq_true rfl⟩)) (fun r_249 hw_250 => ?_)
      refine lv_iadd hx hb dX11_timeSearch_42 ?_
      refine lv_topi (fun x_251 _ => ?_)
      refine lv_istore_n (lv' := [(2, .int x_251), (4, .int (nI k_1)), (3, .int v_20), (0, .ref o), (1, .int (nI jm))]) hx hb dX11_timeSearch_43 rfl hl (by decide) rfl (fun ls hl => ?_)
      refine lv_iload_n hx hb dX11_timeSearch_44 rfl (lv_at hl 2 rfl) ?_
      refine lv_aload_n hx hb dX11_timeSearch_45 rfl (lv_at hl 3 rfl) ?_
      refine va_get (D := (dC, dI)) (ci := 11) (v := .ref (ab 0)) (C := RX11) (T := TX11) (N := 12) hx hb hts iw_x_timeSearch_X11 hown hK hP 0 rfl rfl 1 (by decide) (hts (.fieldLink RX11 34 "ThriceCounted" "bank" "LThriceCounted$Bank;") (by decide +kernel)) (fun _ h9 => h9) rfl dX11_timeSearch_46 ?_
      refine va_get (D := (dC, dI)) (ci := 0) (v := .ref (ab 7)) (C := RX0) (T := TX0) (N := 6) hx hb hts iw_x_timeSearch_X0 hown hK hP 3 rfl rfl 3 (by decide) (hts (.fieldLink RX11 227 "ThriceCounted$Bank" "causes" "LThriceCounted$Rows;") (by decide +kernel)) (fun _ h9 => h9) rfl dX11_timeSearch_49 ?_
      refine lv_aload_n hx hb dX11_timeSearch_52 rfl (lv_at hl 3 rfl) ?_
      refine va_get (D := (dC, dI)) (ci := 11) (v := .ref ao) (C := RX11) (T := TX11) (N := 12) hx hb hts iw_x_timeSearch_X11 hown hK hP 0 rfl rfl 11 (by decide) (hts (.fieldLink RX11 82 "ThriceCounted" "order" "[I") (by decide +kernel)) (fun _ h9 => h9) rfl dX11_timeSearch_53 ?_
      refine lv_iload hx hb dX11_timeSearch_56 (lv_at hl 1 rfl) ?_
      refine va_iald hx hb hK hP 1 0 rfl rfl (vp_in_nI (n := k_1) (N := 6) (by omega) (by decide)) dX11_timeSearch_58 ?_
      refine lv_topi (fun x_252 _ => ?_)
      refine lv_iconst (v := 1) hx hb dX11_timeSearch_59 (by decide) ?_
      have hPc_253 := hP.sub (ws' := [((ab 7), .inr (6, [.int 4, .int 6, .ref (ab 8), .int (nI (zb 3))])), ((ab 8), .inl ((cb 3), 24, .inl (fb 3)))]) [4, 5] rfl
      have hKc_254 := hK.sub (tys' := [((cb 3), .int)]) [1] rfl
      refine vp_callSi (va_Run.run (va_runV (As := [.int x_252, .int 1]) (rest := [.int v_20]) ⟨hx, hb, hml, hown, hts⟩ (r_get_24 l dC dI (ab 7) (ab 8) (zb 3) (cb 3) (fb 3) x_252 1 (by omega)) (cwV 2 hts gX11_timeSearch_X6_get rfl rfl rfl (by decide +kernel) ⟨Nat.le_of_ble_eq_true rfl, Nat.le_of_ble_eq_true rfl⟩) ⟨fun a U g mk q => by obtain ⟨q0, qP, qK⟩ := q; exact ⟨q0, qP, va_K.moved (u := U) (U := U.calling g mk a) (Vm.Alike.refl U.vm) qK⟩, va_recv hK hP (ci := 6) (q0 := 4) rfl rfl, fun U hU hW => ⟨rfl, by rw [hU]; exact hPc_253, va_K.moved hW.alike hKc_254⟩⟩ rfl rfl hl.1 rfl (lv_room (Nat.le_of_ble_eq_true rfl)) dX11_timeSearch_60 ⟨Nat.le_of_ble_eq_true rfl, Nat.le_of_ble_eq_true rfl⟩)) (fun r_255 hw_256 => ?_)
      refine lv_iadd hx hb dX11_timeSearch_63 ?_
      refine lv_topi (fun x_257 _ => ?_)
      refine lv_istore_n (lv' := [(3, .int x_257), (2, .int x_251), (4, .int (nI k_1)), (0, .ref o), (1, .int (nI jm))]) hx hb dX11_timeSearch_64 rfl hl (by decide) rfl (fun ls hl => ?_)
      refine lv_iinc (v := (nI (k_1 + 1))) (lv' := [(4, .int (nI (k_1 + 1))), (3, .int x_257), (2, .int x_251), (0, .ref o), (1, .int (nI jm))]) hx hb dX11_timeSearch_65 hl (k := 2) rfl (nI_add k_1 1) (by decide) rfl (fun ls hl => ?_)
      refine lv_goto (tgt := 7) hx hb dX11_timeSearch_68 (by decide) ?_
      exact ih_41 ((k_1 + 1), x_257, x_251, ls) ⟨by dsimp only; omega, lv_sub hl [0, 1, 2, 3, 4] rfl⟩ (by dsimp only; omega)
