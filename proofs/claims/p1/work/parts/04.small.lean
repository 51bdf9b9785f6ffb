theorem dX11_within_0 : decode cX11_within 0 = .ok (.iload_n 0, 1) := by decide +kernel
theorem dX11_within_1 : decode cX11_within 1 = .ok (.iload_n 1, 1) := by decide +kernel
theorem dX11_within_2 : decode cX11_within 2 = .ok (.if_icmp .lt 12, 3) := by decide +kernel
theorem dX11_within_14 : decode cX11_within 14 = .ok (.iconst 0, 1) := by decide +kernel
theorem dX11_within_15 : decode cX11_within 15 = .ok (.ireturn, 1) := by decide +kernel
theorem dX11_within_5 : decode cX11_within 5 = .ok (.iload_n 0, 1) := by decide +kernel
theorem dX11_within_6 : decode cX11_within 6 = .ok (.iload_n 2, 1) := by decide +kernel
theorem dX11_within_7 : decode cX11_within 7 = .ok (.if_icmp .gt 7, 3) := by decide +kernel
theorem dX11_within_10 : decode cX11_within 10 = .ok (.iconst 1, 1) := by decide +kernel
theorem dX11_within_11 : decode cX11_within 11 = .ok (.goto 4, 3) := by decide +kernel
set_option maxHeartbeats 4000000 in
set_option maxRecDepth 100000 in
theorem k_within (l : Launch) (dC : Nat → ClassId) (dI : Nat → Nat → Nat) (na : Int32) (nb : Int32) (nc : Int32) : Met l yX11_within wsX11_within ({ frames := 0, cells := 0, slots := 0, locals := 0 }) (va_Pc [.int na, .int nb, .int nc] (fun _ => True)) (vp_Si (fun r => r = if nb ≤ na ∧ na ≤ nc then 1 else 0)) 0 0 (fun _ => False) := by
  refine Met.ofW (cc := cX11_within) (maxL := 3) (ret := (some .boolean)) (by decide) rfl ?_
  intro p e s m args below meth c s₁ B hml hv
  obtain ⟨rfl, -⟩ := hv
  have hx := B.exec
  have hb := B.bytes
  have hr := B.returns
  have hts := atoms_spec (ws := wsX11_within) B.pre
  have hown : s.vm.findClass RX11 = some m.cls := findClass_of_methodNamed B.named
  have hlocks := B.notSynchronized
  have hl := lv_entry ([.int na, .int nb, .int nc]) (n := 3) (Nat.le_of_ble_eq_true rfl)
  rw [lg_entry_eq]
  generalize (lg_sl ([.int na, .int nb, .int nc]) ++ List.replicate (3 - (lg_sl ([.int na, .int nb, .int nc])).length) Slot.unset).toArray = ls at hl ⊢
  have hl : lv_has ls 3 [(0, .int na), (1, .int nb), (2, .int nc)] := hl
  refine lv_iload_n hx hb dX11_within_0 rfl (lv_at hl 0 rfl) ?_
  refine lv_iload_n hx hb dX11_within_1 rfl (lv_at hl 1 rfl) ?_
  refine lv_icmp_lt (tgt := 14) hx hb dX11_within_2 (by decide) (fun c_1 => ?_) (fun c_1 => ?_)
  · refine lv_iconst (v := 0) hx hb dX11_within_14 (by decide) ?_
    exact W.zret (v := 0) hx hb hr (by decide) (fun t ht hW => ⟨0, rfl, (if_neg (fun z => tz_ltn c_1 z.1)).symm, ht⟩) (fun _ h => absurd h List.not_mem_nil) dX11_within_15
  · refine lv_iload_n hx hb dX11_within_5 rfl (lv_at hl 0 rfl) ?_
    refine lv_iload_n hx hb dX11_within_6 rfl (lv_at hl 2 rfl) ?_
    refine lv_icmp_gt (tgt := 14) hx hb dX11_within_7 (by decide) (fun c_2 => ?_) (fun c_2 => ?_)
    · refine lv_iconst (v := 0) hx hb dX11_within_14 (by decide) ?_
      exact W.zret (v := 0) hx hb hr (by decide) (fun t ht hW => ⟨0, rfl, (if_neg (fun z => tz_ltn c_2 z.2)).symm, ht⟩) (fun _ h => absurd h List.not_mem_nil) dX11_within_15
    · refine lv_iconst (v := 1) hx hb dX11_within_10 (by decide) ?_
      refine lv_goto (tgt := 15) hx hb dX11_within_11 (by decide) ?_
      exact W.zret (v := 1) hx hb hr (by decide) (fun t ht hW => ⟨1, rfl, (if_pos ⟨tz_nlt c_1, tz_nlt c_2⟩).symm, ht⟩) (fun _ h => absurd h List.not_mem_nil) dX11_within_15
theorem dX11_refuseAs_0 : decode cX11_refuseAs 0 = .ok (.bipush (-2), 2) := by decide +kernel
theorem dX11_refuseAs_2 : decode cX11_refuseAs 2 = .ok (.iload_n 1, 1) := by decide +kernel
theorem dX11_refuseAs_3 : decode cX11_refuseAs 3 = .ok (.isub, 1) := by decide +kernel
theorem dX11_refuseAs_4 : decode cX11_refuseAs 4 = .ok (.istore_n 3, 1) := by decide +kernel
theorem dX11_refuseAs_5 : decode cX11_refuseAs 5 = .ok (.iload_n 3, 1) := by decide +kernel
theorem dX11_refuseAs_6 : decode cX11_refuseAs 6 = .ok (.ifCond .lt 22, 3) := by decide +kernel
theorem dX11_refuseAs_28 : decode cX11_refuseAs 28 = .ok (.iload_n 2, 1) := by decide +kernel
theorem dX11_refuseAs_29 : decode cX11_refuseAs 29 = .ok (.ireturn, 1) := by decide +kernel
theorem dX11_refuseAs_9 : decode cX11_refuseAs 9 = .ok (.iload_n 3, 1) := by decide +kernel
theorem dX11_refuseAs_10 : decode cX11_refuseAs 10 = .ok (.aload_n 0, 1) := by decide +kernel
theorem dX11_refuseAs_11 : decode cX11_refuseAs 11 = .ok (.getfield 75, 3) := by decide +kernel
theorem dX11_refuseAs_14 : decode cX11_refuseAs 14 = .ok (.arraylength, 1) := by decide +kernel
theorem dX11_refuseAs_15 : decode cX11_refuseAs 15 = .ok (.if_icmp .ge 13, 3) := by decide +kernel
theorem dX11_refuseAs_18 : decode cX11_refuseAs 18 = .ok (.aload_n 0, 1) := by decide +kernel
theorem dX11_refuseAs_19 : decode cX11_refuseAs 19 = .ok (.getfield 75, 3) := by decide +kernel
theorem dX11_refuseAs_22 : decode cX11_refuseAs 22 = .ok (.iload_n 3, 1) := by decide +kernel
theorem dX11_refuseAs_23 : decode cX11_refuseAs 23 = .ok (.dup2, 1) := by decide +kernel
theorem dX11_refuseAs_24 : decode cX11_refuseAs 24 = .ok (.iaload, 1) := by decide +kernel
theorem dX11_refuseAs_25 : decode cX11_refuseAs 25 = .ok (.iconst 1, 1) := by decide +kernel
theorem dX11_refuseAs_26 : decode cX11_refuseAs 26 = .ok (.iadd, 1) := by decide +kernel
theorem dX11_refuseAs_27 : decode cX11_refuseAs 27 = .ok (.iastore, 1) := by decide +kernel
set_option maxRecDepth 20000 in
theorem iw_k_refuseAs_X11 : ∀ w ∈ wsX110, w ∈ wsX11_refuseAs := by decide +kernel
set_option maxHeartbeats 4000000 in
set_option maxRecDepth 100000 in
theorem k_refuseAs (l : Launch) (dC : Nat → ClassId) (dI : Nat → Nat → Nat) (o : Nat) (v0 : Value) (v1 : Value) (v2 : Value) (v3 : Value) (v4 : Value) (v5 : Value) (v6 : Value) (v7 : Value) (v8 : Value) (ar : Nat) (v10 : Value) (v11 : Value) (cr : ClassId) (fr : Nat → Int32) (rs : Int32) (an : Int32) (sz : Nat) : Met l yX11_refuseAs wsX11_refuseAs ({ frames := 0, cells := 0, slots := 0, locals := 0 }) (va_Pc [.ref o, .int rs, .int an] (fun U => U.heap.size = sz ∧ va_P (dC, dI) vwCl [(o, .inr (11, [v0, v1, v2, v3, v4, v5, v6, v7, v8, .ref ar, v10, v11])), (ar, .inl (cr, 3, .inl fr))] U.heap ∧ va_K (dC, dI) vwCl [(cr, .int)] U ∧ va_D (fun _ => True) [(o, .inr (11, [v0, v1, v2, v3, v4, v5, v6, v7, v8, .ref ar, v10, v11])), (ar, .inl (cr, 3, .inl fr))])) (va_Qi (fun (r : Int32) (_ : Unit) => r = an) (fun _ _ => True) (va_A [(o, .inr (11, [v0, v1, v2, v3, v4, v5, v6, v7, v8, .ref ar, v10, v11])), (ar, .inl (cr, 3, .inl fr))] sz)) 0 0 (va_A [(o, .inr (11, [v0, v1, v2, v3, v4, v5, v6, v7, v8, .ref ar, v10, v11])), (ar, .inl (cr, 3, .inl fr))] sz) := by
  refine Met.ofW (cc := cX11_refuseAs) (maxL := 4) (ret := (some .int)) (by decide) rfl ?_
  intro p e s m args below meth c s₁ B hml hv
  obtain ⟨rfl, hsz, hP, hK, hD0⟩ := hv
  have hx := B.exec
  have hb := B.bytes
  have hr := B.returns
  have hts := atoms_spec (ws := wsX11_refuseAs) B.pre
  have hown : s.vm.findClass RX11 = some m.cls := findClass_of_methodNamed B.named
  have hlocks := B.notSynchronized
  subst hsz
  have hD := hD0.self (sz := s.heap.size)
  generalize hAe : va_A [(o, .inr (11, [v0, v1, v2, v3, v4, v5, v6, v7, v8, .ref ar, v10, v11])), (ar, .inl (cr, 3, .inl fr))] s.heap.size = A at hD ⊢
  have hA : ∀ q : Nat, s.heap.size ≤ q → A q := fun q h => by rw [← hAe]; exact Or.inr h
  have hS : va_S A s.heap s.heap [] := va_S.rf
  have hP : va_P (dC, dI) vwCl [(o, .inr (11, [v0, v1, v2, v3, v4, v5, v6, v7, v8, .ref ar, v10, v11])), (ar, .inl (cr, 3, .inl fr))] s.heap := hP
  have hl := lv_entry ([.ref o, .int rs, .int an]) (n := 4) (Nat.le_of_ble_eq_true rfl)
  rw [lg_entry_eq]
  generalize (lg_sl ([.ref o, .int rs, .int an]) ++ List.replicate (4 - (lg_sl ([.ref o, .int rs, .int an])).length) Slot.unset).toArray = ls at hl ⊢
  have hl : lv_has ls 4 [(0, .ref o), (1, .int rs), (2, .int an)] := hl
  refine lv_bipush (v := (-2)) hx hb dX11_refuseAs_0 (by decide) ?_
  refine lv_iload_n hx hb dX11_refuseAs_2 rfl (lv_at hl 1 rfl) ?_
  refine lv_isub hx hb dX11_refuseAs_3 ?_
  refine lv_istore_n (lv' := [(3, .int ((-2) - rs)), (0, .ref o), (1, .int rs), (2, .int an)]) hx hb dX11_refuseAs_4 rfl hl (by decide) rfl (fun ls hl => ?_)
  refine lv_iload_n hx hb dX11_refuseAs_5 rfl (lv_at hl 0 rfl) ?_
  refine lv_if_lt (tgt := 28) hx hb dX11_refuseAs_6 (by decide) (fun c_1 => ?_) (fun c_1 => ?_)
  · refine lv_iload_n hx hb dX11_refuseAs_28 rfl (lv_at hl 3 rfl) ?_
    exact W.iret (v := an) hx hb hr (fun t ht hW => ⟨⟨an, (), rfl, rfl, trivial⟩, hS.F ht⟩) hS.2.2 dX11_refuseAs_29
  · refine lv_iload_n hx hb dX11_refuseAs_9 rfl (lv_at hl 0 rfl) ?_
    refine lv_aload_n hx hb dX11_refuseAs_10 rfl (lv_at hl 1 rfl) ?_
    refine va_get (D := (dC, dI)) (ci := 11) (v := .ref ar) (C := RX11) (T := TX11) (N := 12) hx hb hts iw_k_refuseAs_X11 hown hK hP 0 rfl rfl 9 (by decide) (hts (.fieldLink RX11 75 "ThriceCounted" "refused" "[I") (by decide +kernel)) (fun _ h9 => h9) rfl dX11_refuseAs_11 ?_
    refine va_alen (v := 3) hx hb hK hP 1 0 rfl rfl rfl dX11_refuseAs_14 ?_
    refine lv_icmp_ge (tgt := 28) hx hb dX11_refuseAs_15 (by decide) (fun c_2 => ?_) (fun c_2 => ?_)
    · refine lv_iload_n hx hb dX11_refuseAs_28 rfl (lv_at hl 3 rfl) ?_
      exact W.iret (v := an) hx hb hr (fun t ht hW => ⟨⟨an, (), rfl, rfl, trivial⟩, hS.F ht⟩) hS.2.2 dX11_refuseAs_29
    · refine lv_aload_n hx hb dX11_refuseAs_18 rfl (lv_at hl 1 rfl) ?_
      refine va_get (D := (dC, dI)) (ci := 11) (v := .ref ar) (C := RX11) (T := TX11) (N := 12) hx hb hts iw_k_refuseAs_X11 hown hK hP 0 rfl rfl 9 (by decide) (hts (.fieldLink RX11 75 "ThriceCounted" "refused" "[I") (by decide +kernel)) (fun _ h9 => h9) rfl dX11_refuseAs_19 ?_
      refine lv_iload_n hx hb dX11_refuseAs_22 rfl (lv_at hl 0 rfl) ?_
      refine lv_dup2_11 hx hb dX11_refuseAs_23 rfl rfl ?_
      refine va_iald hx hb hK hP 1 0 rfl rfl (tz_in c_1 c_2 (by decide)) dX11_refuseAs_24 ?_
      refine lv_iconst (v := 1) hx hb dX11_refuseAs_25 (by decide) ?_
      refine lv_iadd hx hb dX11_refuseAs_26 ?_
      refine va_iast hx hb hK hP hD hS 1 0 rfl rfl (tz_in c_1 c_2 (by decide)) dX11_refuseAs_27 (fun H locs hP hD hS => ?_)
      generalize (upd fr (Int32.toNatClampNeg ((-2) - rs)) ((fr (Int32.toNatClampNeg ((-2) - rs))) + 1)) = f_3 at hP hD
      have hP : va_P (dC, dI) vwCl [(o, .inr (11, [v0, v1, v2, v3, v4, v5, v6, v7, v8, .ref ar, v10, v11])), (ar, .inl (cr, 3, .inl f_3))] H := hP
      have hD : va_D A [(o, .inr (11, [v0, v1, v2, v3, v4, v5, v6, v7, v8, .ref ar, v10, v11])), (ar, .inl (cr, 3, .inl f_3))] := hD
      refine lv_iload_n hx hb dX11_refuseAs_28 rfl (lv_at hl 3 rfl) ?_
      exact W.iret (v := an) hx hb hr (fun t ht hW => ⟨⟨an, (), rfl, rfl, trivial⟩, hS.F ht⟩) hS.2.2 dX11_refuseAs_29
set_option maxRecDepth 20000 in
theorem ggX11_refuse_X11_refuseAs : GoodIn wsX11_refuse wsX11_refuseAs := goodIn_r _ [5, 6, 7, 8, 9, 10, 11, 12, 13, 14, 15, 16, 17, 18] (by decide +kernel) (by decide +kernel)
set_option maxRecDepth 20000 in
theorem gX11_refuse_X11_refuseAs : GoodIn wsX11_refuse (wsV RX11 172 RX11 yX11_refuseAs wsX11_refuseAs) := goodIn_app (goodIn_of _ (by decide +kernel)) ggX11_refuse_X11_refuseAs
theorem dX11_refuse_0 : decode cX11_refuse 0 = .ok (.aload_n 0, 1) := by decide +kernel
theorem dX11_refuse_1 : decode cX11_refuse 1 = .ok (.iload_n 1, 1) := by decide +kernel
theorem dX11_refuse_2 : decode cX11_refuse 2 = .ok (.iload_n 1, 1) := by decide +kernel
theorem dX11_refuse_3 : decode cX11_refuse 3 = .ok (.invokevirtual 172, 3) := by decide +kernel
theorem dX11_refuse_6 : decode cX11_refuse 6 = .ok (.ireturn, 1) := by decide +kernel
set_option maxHeartbeats 4000000 in
set_option maxRecDepth 100000 in
theorem k_refuse (l : Launch) (dC : Nat → ClassId) (dI : Nat → Nat → Nat) (o : Nat) (v0 : Value) (v1 : Value) (v2 : Value) (v3 : Value) (v4 : Value) (v5 : Value) (v6 : Value) (v7 : Value) (v8 : Value) (ar : Nat) (v10 : Value) (v11 : Value) (cr : ClassId) (fr : Nat → Int32) (rs : Int32) (sz : Nat) : Met l yX11_refuse wsX11_refuse ({ frames := 1, cells := 0, slots := 0, locals := 23 }) (va_Pc [.ref o, .int rs] (fun U => U.heap.size = sz ∧ va_P (dC, dI) vwCl [(o, .inr (11, [v0, v1, v2, v3, v4, v5, v6, v7, v8, .ref ar, v10, v11])), (ar, .inl (cr, 3, .inl fr))] U.heap ∧ va_K (dC, dI) vwCl [(cr, .int)] U ∧ va_D (fun _ => True) [(o, .inr (11, [v0, v1, v2, v3, v4, v5, v6, v7, v8, .ref ar, v10, v11])), (ar, .inl (cr, 3, .inl fr))])) (va_Qi (fun (r : Int32) (_ : Unit) => r = rs) (fun _ _ => True) (va_A [(o, .inr (11, [v0, v1, v2, v3, v4, v5, v6, v7, v8, .ref ar, v10, v11])), (ar, .inl (cr, 3, .inl fr))] sz)) 0 0 (va_A [(o, .inr (11, [v0, v1, v2, v3, v4, v5, v6, v7, v8, .ref ar, v10, v11])), (ar, .inl (cr, 3, .inl fr))] sz) := by
  refine Met.ofW (cc := cX11_refuse) (maxL := 2) (ret := (some .int)) (by decide) rfl ?_
  intro p e s m args below meth c s₁ B hml hv
  obtain ⟨rfl, hsz, hP, hK, hD0⟩ := hv
  have hx := B.exec
  have hb := B.bytes
  have hr := B.returns
  have hts := atoms_spec (ws := wsX11_refuse) B.pre
  have hown : s.vm.findClass RX11 = some m.cls := findClass_of_methodNamed B.named
  have hlocks := B.notSynchronized
  subst hsz
  have hD := hD0.self (sz := s.heap.size)
  generalize hAe : va_A [(o, .inr (11, [v0, v1, v2, v3, v4, v5, v6, v7, v8, .ref ar, v10, v11])), (ar, .inl (cr, 3, .inl fr))] s.heap.size = A at hD ⊢
  have hA : ∀ q : Nat, s.heap.size ≤ q → A q := fun q h => by rw [← hAe]; exact Or.inr h
  have hS : va_S A s.heap s.heap [] := va_S.rf
  have hP : va_P (dC, dI) vwCl [(o, .inr (11, [v0, v1, v2, v3, v4, v5, v6, v7, v8, .ref ar, v10, v11])), (ar, .inl (cr, 3, .inl fr))] s.heap := hP
  have hl := lv_entry ([.ref o, .int rs]) (n := 2) (Nat.le_of_ble_eq_true rfl)
  rw [lg_entry_eq]
  generalize (lg_sl ([.ref o, .int rs]) ++ List.replicate (2 - (lg_sl ([.ref o, .int rs])).length) Slot.unset).toArray = ls at hl ⊢
  have hl : lv_has ls 2 [(0, .ref o), (1, .int rs)] := hl
  refine lv_aload_n hx hb dX11_refuse_0 rfl (lv_at hl 0 rfl) ?_
  refine lv_iload_n hx hb dX11_refuse_1 rfl (lv_at hl 1 rfl) ?_
  refine lv_iload_n hx hb dX11_refuse_2 rfl (lv_at hl 1 rfl) ?_
  have hPc := hP.sub (ws' := [(o, .inr (11, [v0, v1, v2, v3, v4, v5, v6, v7, v8, .ref ar, v10, v11])), (ar, .inl (cr, 3, .inl fr))]) [0, 1] rfl
  have hDc := hD.sub (ws' := [(o, .inr (11, [v0, v1, v2, v3, v4, v5, v6, v7, v8, .ref ar, v10, v11])), (ar, .inl (cr, 3, .inl fr))]) [0, 1] (by decide) rfl
  have hKc := hK.sub (tys' := [(cr, .int)]) [0] rfl
  have hFc := va_free (wc := [(o, .inr (11, [v0, v1, v2, v3, v4, v5, v6, v7, v8, .ref ar, v10, v11])), (ar, .inl (cr, 3, .inl fr))]) hD hS hA [0, 1] rfl
  refine va_calli (va_runV (As := [.int rs, .int rs]) (rest := []) ⟨hx, hb, hml, hown, hts⟩ (k_refuseAs l dC dI o v0 v1 v2 v3 v4 v5 v6 v7 v8 ar v10 v11 cr fr rs rs s.heap.size) (cwV 2 hts gX11_refuse_X11_refuseAs rfl rfl rfl (by decide +kernel) ⟨Nat.le_of_ble_eq_true rfl, Nat.le_of_ble_eq_true rfl⟩) ⟨fun a U g mk q => by obtain ⟨q0, q1, qP, qK, qD⟩ := q; exact ⟨q0, q1, qP, va_K.moved (u := U) (U := U.calling g mk a) (Vm.Alike.refl U.vm) qK, qD⟩, va_recv hK hP (ci := 11) (q0 := 0) rfl rfl, fun U hU hW => ⟨rfl, by rw [hU], by rw [hU]; exact hPc, va_K.moved hW.alike hKc, hDc.weaken (fun _ _ _ _ => trivial)⟩⟩ rfl rfl hl.1 rfl (lv_room (Nat.le_of_ble_eq_true rfl)) dX11_refuse_3 ⟨Nat.le_of_ble_eq_true rfl, Nat.le_of_ble_eq_true rfl⟩) hS (fun q _ h => hFc q h) hFc (fun r_1 u_ t H1 locs ht hvm hw_2 hB hz1 hk1 hS => ?_)
  obtain ⟨hP, hD⟩ := va_join (wr := []) (w1 := []) hP hD [0, 1] [] rfl rfl (by decide) (by decide) hk1 hFc tz_P0 tz_D0
  generalize H1 = H at hP hS ⊢
  have hP : va_P (dC, dI) vwCl [] H := hP
  have hD : va_D A [] := hD
  obtain rfl : rs = r_1 := hw_2.symm
  exact W.iret (v := rs) hx hb hr (fun t ht hW => ⟨⟨rs, (), rfl, rfl, trivial⟩, hS.F ht⟩) hS.2.2 dX11_refuse_6
theorem dX11_isWay_0 : decode cX11_isWay 0 = .ok (.iload_n 1, 1) := by decide +kernel
theorem dX11_isWay_1 : decode cX11_isWay 1 = .ok (.ifCond .lt 16, 3) := by decide +kernel
theorem dX11_isWay_17 : decode cX11_isWay 17 = .ok (.iconst 0, 1) := by decide +kernel
theorem dX11_isWay_18 : decode cX11_isWay 18 = .ok (.ireturn, 1) := by decide +kernel
theorem dX11_isWay_4 : decode cX11_isWay 4 = .ok (.iload_n 1, 1) := by decide +kernel
theorem dX11_isWay_5 : decode cX11_isWay 5 = .ok (.aload_n 0, 1) := by decide +kernel
theorem dX11_isWay_6 : decode cX11_isWay 6 = .ok (.getfield 25, 3) := by decide +kernel
theorem dX11_isWay_9 : decode cX11_isWay 9 = .ok (.arraylength, 1) := by decide +kernel
theorem dX11_isWay_10 : decode cX11_isWay 10 = .ok (.if_icmp .ge 7, 3) := by decide +kernel
theorem dX11_isWay_13 : decode cX11_isWay 13 = .ok (.iconst 1, 1) := by decide +kernel
theorem dX11_isWay_14 : decode cX11_isWay 14 = .ok (.goto 4, 3) := by decide +kernel
set_option maxRecDepth 20000 in
theorem iw_k_isWay_X11 : ∀ w ∈ wsX110, w ∈ wsX11_isWay := by decide +kernel
set_option maxHeartbeats 4000000 in
set_option maxRecDepth 100000 in
theorem k_isWay (l : Launch) (dC : Nat → ClassId) (dI : Nat → Nat → Nat) (o : Nat) (aw : Nat) (v1 : Value) (v2 : Value) (v3 : Value) (v4 : Value) (v5 : Value) (v6 : Value) (v7 : Value) (v8 : Value) (v9 : Value) (v10 : Value) (v11 : Value) (cw : ClassId) (w0 : Nat) (w1 : Nat) (w2 : Nat) (w3 : Nat) (w4 : Nat) (w5 : Nat) (na : Int32) : Met l yX11_isWay wsX11_isWay ({ frames := 0, cells := 0, slots := 0, locals := 0 }) (va_Pc [.ref o, .int na] (fun U => va_P (dC, dI) vwCl [(o, .inr (11, [.ref aw, v1, v2, v3, v4, v5, v6, v7, v8, v9, v10, v11])), (aw, .inl (cw, 6, .inr (.inr (.inr (.inr (tz_w w0 w1 w2 w3 w4 w5))))))] U.heap ∧ va_K (dC, dI) vwCl [(cw, (.object "ThriceCounted$Ones"))] U)) (vp_Si (fun r => r = if 0 ≤ na ∧ na ≤ 5 then 1 else 0)) 0 0 (fun _ => False) := by
  refine Met.ofW (cc := cX11_isWay) (maxL := 2) (ret := (some .boolean)) (by decide) rfl ?_
  intro p e s m args below meth c s₁ B hml hv
  obtain ⟨rfl, hP, hK⟩ := hv
  have hx := B.exec
  have hb := B.bytes
  have hr := B.returns
  have hts := atoms_spec (ws := wsX11_isWay) B.pre
  have hown : s.vm.findClass RX11 = some m.cls := findClass_of_methodNamed B.named
  have hlocks := B.notSynchronized
  have hl := lv_entry ([.ref o, .int na]) (n := 2) (Nat.le_of_ble_eq_true rfl)
  rw [lg_entry_eq]
  generalize (lg_sl ([.ref o, .int na]) ++ List.replicate (2 - (lg_sl ([.ref o, .int na])).length) Slot.unset).toArray = ls at hl ⊢
  have hl : lv_has ls 2 [(0, .ref o), (1, .int na)] := hl
  refine lv_iload_n hx hb dX11_isWay_0 rfl (lv_at hl 1 rfl) ?_
  refine lv_if_lt (tgt := 17) hx hb dX11_isWay_1 (by decide) (fun c_1 => ?_) (fun c_1 => ?_)
  · refine lv_iconst (v := 0) hx hb dX11_isWay_17 (by decide) ?_
    exact W.zret (v := 0) hx hb hr (by decide) (fun t ht hW => ⟨0, rfl, (if_neg (fun z => tz_ltn c_1 z.1)).symm, ht⟩) (fun _ h => absurd h List.not_mem_nil) dX11_isWay_18
  · refine lv_iload_n hx hb dX11_isWay_4 rfl (lv_at hl 1 rfl) ?_
    refine lv_aload_n hx hb dX11_isWay_5 rfl (lv_at hl 0 rfl) ?_
    refine va_get (D := (dC, dI)) (ci := 11) (v := .ref aw) (C := RX11) (T := TX11) (N := 12) hx hb hts iw_k_isWay_X11 hown hK hP 0 rfl rfl 0 (by decide) (hts (.fieldLink RX11 25 "ThriceCounted" "ways" "[LThriceCounted$Ones;") (by decide +kernel)) (fun _ h9 => h9) rfl dX11_isWay_6 ?_
    refine va_alen (v := 6) hx hb hK hP 1 0 rfl rfl rfl dX11_isWay_9 ?_
    refine lv_icmp_ge (tgt := 17) hx hb dX11_isWay_10 (by decide) (fun c_2 => ?_) (fun c_2 => ?_)
    · refine lv_iconst (v := 0) hx hb dX11_isWay_17 (by decide) ?_
      exact W.zret (v := 0) hx hb hr (by decide) (fun t ht hW => ⟨0, rfl, (if_neg (fun z => tz_gele c_2 (by decide) z.2)).symm, ht⟩) (fun _ h => absurd h List.not_mem_nil) dX11_isWay_18
    · refine lv_iconst (v := 1) hx hb dX11_isWay_13 (by decide) ?_
      refine lv_goto (tgt := 18) hx hb dX11_isWay_14 (by decide) ?_
      exact W.zret (v := 1) hx hb hr (by decide) (fun t ht hW => ⟨1, rfl, (if_pos ⟨tz_nlt c_1, tz_ltle c_2 (by decide)⟩).symm, ht⟩) (fun _ h => absurd h List.not_mem_nil) dX11_isWay_18
theorem dX11_isImage_0 : decode cX11_isImage 0 = .ok (.iload_n 1, 1) := by decide +kernel
theorem dX11_isImage_1 : decode cX11_isImage 1 = .ok (.ifCond .lt 25, 3) := by decide +kernel
theorem dX11_isImage_26 : decode cX11_isImage 26 = .ok (.iconst 0, 1) := by decide +kernel
theorem dX11_isImage_27 : decode cX11_isImage 27 = .ok (.ireturn, 1) := by decide +kernel
theorem dX11_isImage_4 : decode cX11_isImage 4 = .ok (.iload_n 1, 1) := by decide +kernel
theorem dX11_isImage_5 : decode cX11_isImage 5 = .ok (.aload_n 0, 1) := by decide +kernel
theorem dX11_isImage_6 : decode cX11_isImage 6 = .ok (.getfield 38, 3) := by decide +kernel
theorem dX11_isImage_9 : decode cX11_isImage 9 = .ok (.arraylength, 1) := by decide +kernel
theorem dX11_isImage_10 : decode cX11_isImage 10 = .ok (.if_icmp .ge 16, 3) := by decide +kernel
theorem dX11_isImage_13 : decode cX11_isImage 13 = .ok (.iload_n 1, 1) := by decide +kernel
theorem dX11_isImage_14 : decode cX11_isImage 14 = .ok (.aload_n 0, 1) := by decide +kernel
theorem dX11_isImage_15 : decode cX11_isImage 15 = .ok (.getfield 42, 3) := by decide +kernel
theorem dX11_isImage_18 : decode cX11_isImage 18 = .ok (.arraylength, 1) := by decide +kernel
theorem dX11_isImage_19 : decode cX11_isImage 19 = .ok (.if_icmp .ge 7, 3) := by decide +kernel
theorem dX11_isImage_22 : decode cX11_isImage 22 = .ok (.iconst 1, 1) := by decide +kernel
theorem dX11_isImage_23 : decode cX11_isImage 23 = .ok (.goto 4, 3) := by decide +kernel
set_option maxRecDepth 20000 in
theorem iw_k_isImage_X11 : ∀ w ∈ wsX110, w ∈ wsX11_isImage := by decide +kernel
set_option maxHeartbeats 4000000 in
set_option maxRecDepth 100000 in
theorem k_isImage (l : Launch) (dC : Nat → ClassId) (dI : Nat → Nat → Nat) (o : Nat) (v0 : Value) (v1 : Value) (ai : Nat) (ak : Nat) (v4 : Value) (v5 : Value) (v6 : Value) (v7 : Value) (v8 : Value) (v9 : Value) (v10 : Value) (v11 : Value) (ci : ClassId) (i0 : Nat) (i1 : Nat) (ck : ClassId) (na : Int32) : Met l yX11_isImage wsX11_isImage ({ frames := 0, cells := 0, slots := 0, locals := 0 }) (va_Pc [.ref o, .int na] (fun U => va_P (dC, dI) vwCl [(o, .inr (11, [v0, v1, .ref ai, .ref ak, v4, v5, v6, v7, v8, v9, v10, v11])), (ai, .inl (ci, 2, .inr (.inr (.inr (.inr (tz_w2 i0 i1)))))), (ak, .inl (ck, 2, .inl (fun _ => 0)))] U.heap ∧ va_K (dC, dI) vwCl [(ci, (.object "ThriceCounted$Bank")), (ck, .boolean)] U)) (vp_Si (fun r => r = if 0 ≤ na ∧ na ≤ 1 then 1 else 0)) 0 0 (fun _ => False) := by
  refine Met.ofW (cc := cX11_isImage) (maxL := 2) (ret := (some .boolean)) (by decide) rfl ?_
  intro p e s m args below meth c s₁ B hml hv
  obtain ⟨rfl, hP, hK⟩ := hv
  have hx := B.exec
  have hb := B.bytes
  have hr := B.returns
  have hts := atoms_spec (ws := wsX11_isImage) B.pre
  have hown : s.vm.findClass RX11 = some m.cls := findClass_of_methodNamed B.named
  have hlocks := B.notSynchronized
  have hl := lv_entry ([.ref o, .int na]) (n := 2) (Nat.le_of_ble_eq_true rfl)
  rw [lg_entry_eq]
  generalize (lg_sl ([.ref o, .int na]) ++ List.replicate (2 - (lg_sl ([.ref o, .int na])).length) Slot.unset).toArray = ls at hl ⊢
  have hl : lv_has ls 2 [(0, .ref o), (1, .int na)] := hl
  refine lv_iload_n hx hb dX11_isImage_0 rfl (lv_at hl 1 rfl) ?_
  refine lv_if_lt (tgt := 26) hx hb dX11_isImage_1 (by decide) (fun c_1 => ?_) (fun c_1 => ?_)
  · refine lv_iconst (v := 0) hx hb dX11_isImage_26 (by decide) ?_
    exact W.zret (v := 0) hx hb hr (by decide) (fun t ht hW => ⟨0, rfl, (if_neg (fun z => tz_ltn c_1 z.1)).symm, ht⟩) (fun _ h => absurd h List.not_mem_nil) dX11_isImage_27
  · refine lv_iload_n hx hb dX11_isImage_4 rfl (lv_at hl 1 rfl) ?_
    refine lv_aload_n hx hb dX11_isImage_5 rfl (lv_at hl 0 rfl) ?_
    refine va_get (D := (dC, dI)) (ci := 11) (v := .ref ai) (C := RX11) (T := TX11) (N := 12) hx hb hts iw_k_isImage_X11 hown hK hP 0 rfl rfl 2 (by decide) (hts (.fieldLink RX11 38 "ThriceCounted" "images" "[LThriceCounted$Bank;") (by decide +kernel)) (fun _ h9 => h9) rfl dX11_isImage_6 ?_
    refine va_alen (v := 2) hx hb hK hP 1 0 rfl rfl rfl dX11_isImage_9 ?_
    refine lv_icmp_ge (tgt := 26) hx hb dX11_isImage_10 (by decide) (fun c_2 => ?_) (fun c_2 => ?_)
    · refine lv_iconst (v := 0) hx hb dX11_isImage_26 (by decide) ?_
      exact W.zret (v := 0) hx hb hr (by decide) (fun t ht hW => ⟨0, rfl, (if_neg (fun z => tz_gele c_2 (by decide) z.2)).symm, ht⟩) (fun _ h => absurd h List.not_mem_nil) dX11_isImage_27
    · refine lv_iload_n hx hb dX11_isImage_13 rfl (lv_at hl 1 rfl) ?_
      refine lv_aload_n hx hb dX11_isImage_14 rfl (lv_at hl 0 rfl) ?_
      refine va_get (D := (dC, dI)) (ci := 11) (v := .ref ak) (C := RX11) (T := TX11) (N := 12) hx hb hts iw_k_isImage_X11 hown hK hP 0 rfl rfl 3 (by decide) (hts (.fieldLink RX11 42 "ThriceCounted" "kept" "[Z") (by decide +kernel)) (fun _ h9 => h9) rfl dX11_isImage_15 ?_
      refine va_alen (v := 2) hx hb hK hP 2 1 rfl rfl rfl dX11_isImage_18 ?_
      refine lv_icmp_ge (tgt := 26) hx hb dX11_isImage_19 (by decide) (fun c_3 => ?_) (fun c_3 => ?_)
      · refine lv_iconst (v := 0) hx hb dX11_isImage_26 (by decide) ?_
        exact W.zret (v := 0) hx hb hr (by decide) (fun t ht hW => ⟨0, rfl, (if_neg (fun z => tz_gele c_3 (by decide) z.2)).symm, ht⟩) (fun _ h => absurd h List.not_mem_nil) dX11_isImage_27
      · refine lv_iconst (v := 1) hx hb dX11_isImage_22 (by decide) ?_
        refine lv_goto (tgt := 27) hx hb dX11_isImage_23 (by decide) ?_
        exact W.zret (v := 1) hx hb hr (by decide) (fun t ht hW => ⟨1, rfl, (if_pos ⟨tz_nlt c_1, tz_ltle c_2 (by decide)⟩).symm, ht⟩) (fun _ h => absurd h List.not_mem_nil) dX11_isImage_27
theorem dX6_has_0 : decode cX6_has 0 = .ok (.iload_n 1, 1) := by decide +kernel
theorem dX6_has_1 : decode cX6_has 1 = .ok (.ifCond .lt 15, 3) := by decide +kernel
theorem dX6_has_16 : decode cX6_has 16 = .ok (.iconst 0, 1) := by decide +kernel
theorem dX6_has_17 : decode cX6_has 17 = .ok (.ireturn, 1) := by decide +kernel
theorem dX6_has_4 : decode cX6_has 4 = .ok (.iload_n 1, 1) := by decide +kernel
theorem dX6_has_5 : decode cX6_has 5 = .ok (.aload_n 0, 1) := by decide +kernel
theorem dX6_has_6 : decode cX6_has 6 = .ok (.getfield 9, 3) := by decide +kernel
theorem dX6_has_9 : decode cX6_has 9 = .ok (.if_icmp .ge 7, 3) := by decide +kernel
set_option maxRecDepth 20000 in
theorem iw_k_has0_X6 : ∀ w ∈ wsX60, w ∈ wsX6_has := by decide +kernel
set_option maxHeartbeats 4000000 in
set_option maxRecDepth 100000 in
theorem k_has0 (l : Launch) (dC : Nat → ClassId) (dI : Nat → Nat → Nat) (ro : Nat) (w0 : Value) (w1 : Value) (w2 : Value) (na : Int32) : Met l yX6_has wsX6_has ({ frames := 0, cells := 0, slots := 0, locals := 0 }) (va_Pc [.ref ro, .int na] (fun U => va_P (dC, dI) vwCl [(ro, .inr (6, [w0, w1, w2, .int 0]))] U.heap ∧ va_K (dC, dI) vwCl [] U)) (vp_Si (fun r => r = 0)) 0 0 (fun _ => False) := by
  refine Met.ofW (cc := cX6_has) (maxL := 2) (ret := (some .boolean)) (by decide) rfl ?_
  intro p e s m args below meth c s₁ B hml hv
  obtain ⟨rfl, hP, hK⟩ := hv
  have hx := B.exec
  have hb := B.bytes
  have hr := B.returns
  have hts := atoms_spec (ws := wsX6_has) B.pre
  have hown : s.vm.findClass RX6 = some m.cls := findClass_of_methodNamed B.named
  have hlocks := B.notSynchronized
  have hl := lv_entry ([.ref ro, .int na]) (n := 2) (Nat.le_of_ble_eq_true rfl)
  rw [lg_entry_eq]
  generalize (lg_sl ([.ref ro, .int na]) ++ List.replicate (2 - (lg_sl ([.ref ro, .int na])).length) Slot.unset).toArray = ls at hl ⊢
  have hl : lv_has ls 2 [(0, .ref ro), (1, .int na)] := hl
  refine lv_iload_n hx hb dX6_has_0 rfl (lv_at hl 1 rfl) ?_
  refine lv_if_lt (tgt := 16) hx hb dX6_has_1 (by decide) (fun c_1 => ?_) (fun c_1 => ?_)
  · refine lv_iconst (v := 0) hx hb dX6_has_16 (by decide) ?_
    exact W.zret (v := 0) hx hb hr (by decide) (fun t ht hW => ⟨0, rfl, rfl, ht⟩) (fun _ h => absurd h List.not_mem_nil) dX6_has_17
  · refine lv_iload_n hx hb dX6_has_4 rfl (lv_at hl 1 rfl) ?_
    refine lv_aload_n hx hb dX6_has_5 rfl (lv_at hl 0 rfl) ?_
    refine va_get (D := (dC, dI)) (ci := 6) (v := .int 0) (C := RX6) (T := TX6) (N := 4) hx hb hts iw_k_has0_X6 hown hK hP 0 rfl rfl 3 (by decide) (hts (.fieldLink RX6 9 "ThriceCounted$Rows" "size" "I") (by decide +kernel)) (fun _ h9 => h9) rfl dX6_has_6 ?_
    refine lv_icmp_ge (tgt := 16) hx hb dX6_has_9 (by decide) (fun c_2 => ?_) (fun c_2 => ?_)
    · refine lv_iconst (v := 0) hx hb dX6_has_16 (by decide) ?_
      exact W.zret (v := 0) hx hb hr (by decide) (fun t ht hW => ⟨0, rfl, rfl, ht⟩) (fun _ h => absurd h List.not_mem_nil) dX6_has_17
    · exact absurd (tz_nlt c_1) c_2
theorem dX6_isFull_0 : decode cX6_isFull 0 = .ok (.aload_n 0, 1) := by decide +kernel
theorem dX6_isFull_1 : decode cX6_isFull 1 = .ok (.getfield 9, 3) := by decide +kernel
theorem dX6_isFull_4 : decode cX6_isFull 4 = .ok (.aload_n 0, 1) := by decide +kernel
theorem dX6_isFull_5 : decode cX6_isFull 5 = .ok (.getfield 21, 3) := by decide +kernel
theorem dX6_isFull_8 : decode cX6_isFull 8 = .ok (.if_icmp .lt 7, 3) := by decide +kernel
theorem dX6_isFull_15 : decode cX6_isFull 15 = .ok (.iconst 0, 1) := by decide +kernel
theorem dX6_isFull_16 : decode cX6_isFull 16 = .ok (.ireturn, 1) := by decide +kernel
set_option maxRecDepth 20000 in
theorem iw_k_isFull0_X6 : ∀ w ∈ wsX60, w ∈ wsX6_isFull := by decide +kernel
set_option maxHeartbeats 4000000 in
set_option maxRecDepth 100000 in
theorem k_isFull0 (l : Launch) (dC : Nat → ClassId) (dI : Nat → Nat → Nat) (ro : Nat) (w0 : Value) (nl : Int32) (w2 : Value) (hL : ¬ nl ≤ 0) : Met l yX6_isFull wsX6_isFull ({ frames := 0, cells := 0, slots := 0, locals := 0 }) (va_Pc [.ref ro] (fun U => va_P (dC, dI) vwCl [(ro, .inr (6, [w0, .int nl, w2, .int 0]))] U.heap ∧ va_K (dC, dI) vwCl [] U)) (vp_Si (fun r => r = 0)) 0 0 (fun _ => False) := by
  refine Met.ofW (cc := cX6_isFull) (maxL := 1) (ret := (some .boolean)) (by decide) rfl ?_
  intro p e s m args below meth c s₁ B hml hv
  obtain ⟨rfl, hP, hK⟩ := hv
  have hx := B.exec
  have hb := B.bytes
  have hr := B.returns
  have hts := atoms_spec (ws := wsX6_isFull) B.pre
  have hown : s.vm.findClass RX6 = some m.cls := findClass_of_methodNamed B.named
  have hlocks := B.notSynchronized
  have hl := lv_entry ([.ref ro]) (n := 1) (Nat.le_of_ble_eq_true rfl)
  rw [lg_entry_eq]
  generalize (lg_sl ([.ref ro]) ++ List.replicate (1 - (lg_sl ([.ref ro])).length) Slot.unset).toArray = ls at hl ⊢
  have hl : lv_has ls 1 [(0, .ref ro)] := hl
  refine lv_aload_n hx hb dX6_isFull_0 rfl (lv_at hl 0 rfl) ?_
  refine va_get (D := (dC, dI)) (ci := 6) (v := .int 0) (C := RX6) (T := TX6) (N := 4) hx hb hts iw_k_isFull0_X6 hown hK hP 0 rfl rfl 3 (by decide) (hts (.fieldLink RX6 9 "ThriceCounted$Rows" "size" "I") (by decide +kernel)) (fun _ h9 => h9) rfl dX6_isFull_1 ?_
  refine lv_aload_n hx hb dX6_isFull_4 rfl (lv_at hl 0 rfl) ?_
  refine va_get (D := (dC, dI)) (ci := 6) (v := .int nl) (C := RX6) (T := TX6) (N := 4) hx hb hts iw_k_isFull0_X6 hown hK hP 0 rfl rfl 1 (by decide) (hts (.fieldLink RX6 21 "ThriceCounted$Rows" "limit" "I") (by decide +kernel)) (fun _ h9 => h9) rfl dX6_isFull_5 ?_
  refine lv_icmp_lt (tgt := 15) hx hb dX6_isFull_8 (by decide) (fun c_1 => ?_) (fun c_1 => ?_)
  · refine lv_iconst (v := 0) hx hb dX6_isFull_15 (by decide) ?_
    exact W.zret (v := 0) hx hb hr (by decide) (fun t ht hW => ⟨0, rfl, rfl, ht⟩) (fun _ h => absurd h List.not_mem_nil) dX6_isFull_16
  · exact absurd (tz_nle hL) c_1
theorem dX6_size_0 : decode cX6_size 0 = .ok (.aload_n 0, 1) := by decide +kernel
theorem dX6_size_1 : decode cX6_size 1 = .ok (.getfield 9, 3) := by decide +kernel
theorem dX6_size_4 : decode cX6_size 4 = .ok (.ireturn, 1) := by decide +kernel
set_option maxRecDepth 20000 in
theorem iw_k_size_X6 : ∀ w ∈ wsX60, w ∈ wsX6_size := by decide +kernel
set_option maxHeartbeats 4000000 in
set_option maxRecDepth 100000 in
theorem k_size (l : Launch) (dC : Nat → ClassId) (dI : Nat → Nat → Nat) (ro : Nat) (w0 : Value) (w1 : Value) (w2 : Value) (nz : Int32) : Met l yX6_size wsX6_size ({ frames := 0, cells := 0, slots := 0, locals := 0 }) (va_Pc [.ref ro] (fun U => va_P (dC, dI) vwCl [(ro, .inr (6, [w0, w1, w2, .int nz]))] U.heap ∧ va_K (dC, dI) vwCl [] U)) (vp_Si (fun r => r = nz)) 0 0 (fun _ => False) := by
  refine Met.ofW (cc := cX6_size) (maxL := 1) (ret := (some .int)) (by decide) rfl ?_
  intro p e s m args below meth c s₁ B hml hv
  obtain ⟨rfl, hP, hK⟩ := hv
  have hx := B.exec
  have hb := B.bytes
  have hr := B.returns
  have hts := atoms_spec (ws := wsX6_size) B.pre
  have hown : s.vm.findClass RX6 = some m.cls := findClass_of_methodNamed B.named
  have hlocks := B.notSynchronized
  have hl := lv_entry ([.ref ro]) (n := 1) (Nat.le_of_ble_eq_true rfl)
  rw [lg_entry_eq]
  generalize (lg_sl ([.ref ro]) ++ List.replicate (1 - (lg_sl ([.ref ro])).length) Slot.unset).toArray = ls at hl ⊢
  have hl : lv_has ls 1 [(0, .ref ro)] := hl
  refine lv_aload_n hx hb dX6_size_0 rfl (lv_at hl 0 rfl) ?_
  refine va_get (D := (dC, dI)) (ci := 6) (v := .int nz) (C := RX6) (T := TX6) (N := 4) hx hb hts iw_k_size_X6 hown hK hP 0 rfl rfl 3 (by decide) (hts (.fieldLink RX6 9 "ThriceCounted$Rows" "size" "I") (by decide +kernel)) (fun _ h9 => h9) rfl dX6_size_1 ?_
  exact W.iret (v := nz) hx hb hr (fun t ht hW => ⟨nz, rfl, rfl, ht⟩) (fun _ h => absurd h List.not_mem_nil) dX6_size_4
theorem dX6_empty_0 : decode cX6_empty 0 = .ok (.aload_n 0, 1) := by decide +kernel
theorem dX6_empty_1 : decode cX6_empty 1 = .ok (.iconst 0, 1) := by decide +kernel
theorem dX6_empty_2 : decode cX6_empty 2 = .ok (.putfield 9, 3) := by decide +kernel
theorem dX6_empty_5 : decode cX6_empty 5 = .ok (.return_, 1) := by decide +kernel
set_option maxRecDepth 20000 in
theorem iw_k_empty_X6 : ∀ w ∈ wsX60, w ∈ wsX6_empty := by decide +kernel
set_option maxHeartbeats 4000000 in
set_option maxRecDepth 100000 in
theorem k_empty (l : Launch) (dC : Nat → ClassId) (dI : Nat → Nat → Nat) (ro : Nat) (w0 : Value) (w1 : Value) (w2 : Value) (w3 : Value) (sz : Nat) : Met l yX6_empty wsX6_empty ({ frames := 0, cells := 0, slots := 0, locals := 0 }) (va_Pc [.ref ro] (fun U => U.heap.size = sz ∧ va_P (dC, dI) vwCl [(ro, .inr (6, [w0, w1, w2, w3]))] U.heap ∧ va_K (dC, dI) vwCl [] U ∧ va_D (fun _ => True) [(ro, .inr (6, [w0, w1, w2, w3]))])) (va_Qv (fun (_ : Unit) => True) (fun _ _ => True) (va_A [(ro, .inr (6, [w0, w1, w2, w3]))] sz)) 0 0 (va_A [(ro, .inr (6, [w0, w1, w2, w3]))] sz) := by
  refine Met.ofW (cc := cX6_empty) (maxL := 1) (ret := none) (by decide) rfl ?_
  intro p e s m args below meth c s₁ B hml hv
  obtain ⟨rfl, hsz, hP, hK, hD0⟩ := hv
  have hx := B.exec
  have hb := B.bytes
  have hr := B.returns
  have hts := atoms_spec (ws := wsX6_empty) B.pre
  have hown : s.vm.findClass RX6 = some m.cls := findClass_of_methodNamed B.named
  have hlocks := B.notSynchronized
  subst hsz
  have hD := hD0.self (sz := s.heap.size)
  generalize hAe : va_A [(ro, .inr (6, [w0, w1, w2, w3]))] s.heap.size = A at hD ⊢
  have hA : ∀ q : Nat, s.heap.size ≤ q → A q := fun q h => by rw [← hAe]; exact Or.inr h
  have hS : va_S A s.heap s.heap [] := va_S.rf
  have hP : va_P (dC, dI) vwCl [(ro, .inr (6, [w0, w1, w2, w3]))] s.heap := hP
  have hl := lv_entry ([.ref ro]) (n := 1) (Nat.le_of_ble_eq_true rfl)
  rw [lg_entry_eq]
  generalize (lg_sl ([.ref ro]) ++ List.replicate (1 - (lg_sl ([.ref ro])).length) Slot.unset).toArray = ls at hl ⊢
  have hl : lv_has ls 1 [(0, .ref ro)] := hl
  refine lv_aload_n hx hb dX6_empty_0 rfl (lv_at hl 0 rfl) ?_
  refine lv_iconst (v := 0) hx hb dX6_empty_1 (by decide) ?_
  refine va_put (D := (dC, dI)) (ci := 6) (v := .int 0) (ty := .int) (C := RX6) (T := TX6) (N := 4) hx hb hts iw_k_empty_X6 tyX6 tyX6_ok nmX6 hown hK hP hD hS 0 rfl rfl 3 (by decide) (hts (.fieldLink RX6 9 "ThriceCounted$Rows" "size" "I") (by decide +kernel)) (fun _ h9 => h9) rfl (by decide +kernel) rfl rfl (Nat.le_of_ble_eq_true rfl) dX6_empty_2 (fun H locs hP hD hS => ?_)
  have hP : va_P (dC, dI) vwCl [(ro, .inr (6, [w0, w1, w2, .int 0]))] H := hP
  have hD : va_D A [(ro, .inr (6, [w0, w1, w2, .int 0]))] := hD
  exact W.vret hx hb hr (fun t ht hW => ⟨⟨(), rfl, trivial, trivial⟩, hS.F ht⟩) hS.2.2 dX6_empty_5
set_option maxRecDepth 20000 in
theorem ggX6_grow_X6_isFull : GoodIn wsX6_grow wsX6_isFull := goodIn_r _ [6, 1, 7, 8, 9, 10, 11] (by decide +kernel) (by decide +kernel)
set_option maxRecDepth 20000 in
theorem gX6_grow_X6_isFull : GoodIn wsX6_grow (wsV RX6 35 RX6 yX6_isFull wsX6_isFull) := goodIn_app (goodIn_of _ (by decide +kernel)) ggX6_grow_X6_isFull
theorem dX6_grow_0 : decode cX6_grow 0 = .ok (.aload_n 0, 1) := by decide +kernel
theorem dX6_grow_1 : decode cX6_grow 1 = .ok (.invokevirtual 35, 3) := by decide +kernel
theorem dX6_grow_4 : decode cX6_grow 4 = .ok (.ifCond .eq 6, 3) := by decide +kernel
theorem dX6_grow_10 : decode cX6_grow 10 = .ok (.aload_n 0, 1) := by decide +kernel
theorem dX6_grow_11 : decode cX6_grow 11 = .ok (.dup, 1) := by decide +kernel
theorem dX6_grow_12 : decode cX6_grow 12 = .ok (.getfield 9, 3) := by decide +kernel
theorem dX6_grow_15 : decode cX6_grow 15 = .ok (.iconst 1, 1) := by decide +kernel
theorem dX6_grow_16 : decode cX6_grow 16 = .ok (.iadd, 1) := by decide +kernel
theorem dX6_grow_17 : decode cX6_grow 17 = .ok (.putfield 9, 3) := by decide +kernel
theorem dX6_grow_20 : decode cX6_grow 20 = .ok (.aload_n 0, 1) := by decide +kernel
theorem dX6_grow_21 : decode cX6_grow 21 = .ok (.getfield 9, 3) := by decide +kernel
theorem dX6_grow_24 : decode cX6_grow 24 = .ok (.iconst 1, 1) := by decide +kernel
theorem dX6_grow_25 : decode cX6_grow 25 = .ok (.isub, 1) := by decide +kernel
theorem dX6_grow_26 : decode cX6_grow 26 = .ok (.ireturn, 1) := by decide +kernel
set_option maxRecDepth 20000 in
theorem iw_k_grow_X6 : ∀ w ∈ wsX60, w ∈ wsX6_grow := by decide +kernel
set_option maxHeartbeats 4000000 in
set_option maxRecDepth 100000 in
theorem k_grow (l : Launch) (dC : Nat → ClassId) (dI : Nat → Nat → Nat) (ro : Nat) (w0 : Value) (nl : Int32) (w2 : Value) (sz : Nat) (hL : ¬ nl ≤ 0) : Met l yX6_grow wsX6_grow ({ frames := 1, cells := 0, slots := 0, locals := 20 }) (va_Pc [.ref ro] (fun U => U.heap.size = sz ∧ va_P (dC, dI) vwCl [(ro, .inr (6, [w0, .int nl, w2, .int 0]))] U.heap ∧ va_K (dC, dI) vwCl [] U ∧ va_D (fun _ => True) [(ro, .inr (6, [w0, .int nl, w2, .int 0]))])) (va_Qi (fun (r : Int32) (_ : Unit) => r = 0) (fun _ t => va_P (dC, dI) vwCl [(ro, .inr (6, [w0, .int nl, w2, .int 1]))] t.heap ∧ va_K (dC, dI) vwCl [] t ∧ va_D (va_A [(ro, .inr (6, [w0, .int nl, w2, .int 0]))] sz) [(ro, .inr (6, [w0, .int nl, w2, .int 1]))]) (va_A [(ro, .inr (6, [w0, .int nl, w2, .int 0]))] sz)) 0 0 (va_A [(ro, .inr (6, [w0, .int nl, w2, .int 0]))] sz) := by
  refine Met.ofW (cc := cX6_grow) (maxL := 1) (ret := (some .int)) (by decide) rfl ?_
  intro p e s m args below meth c s₁ B hml hv
  obtain ⟨rfl, hsz, hP, hK, hD0⟩ := hv
  have hx := B.exec
  have hb := B.bytes
  have hr := B.returns
  have hts := atoms_spec (ws := wsX6_grow) B.pre
  have hown : s.vm.findClass RX6 = some m.cls := findClass_of_methodNamed B.named
  have hlocks := B.notSynchronized
  subst hsz
  have hD := hD0.self (sz := s.heap.size)
  generalize hAe : va_A [(ro, .inr (6, [w0, .int nl, w2, .int 0]))] s.heap.size = A at hD ⊢
  have hA : ∀ q : Nat, s.heap.size ≤ q → A q := fun q h => by rw [← hAe]; exact Or.inr h
  have hS : va_S A s.heap s.heap [] := va_S.rf
  have hP : va_P (dC, dI) vwCl [(ro, .inr (6, [w0, .int nl, w2, .int 0]))] s.heap := hP
  have hl := lv_entry ([.ref ro]) (n := 1) (Nat.le_of_ble_eq_true rfl)
  rw [lg_entry_eq]
  generalize (lg_sl ([.ref ro]) ++ List.replicate (1 - (lg_sl ([.ref ro])).length) Slot.unset).toArray = ls at hl ⊢
  have hl : lv_has ls 1 [(0, .ref ro)] := hl
  refine lv_aload_n hx hb dX6_grow_0 rfl (lv_at hl 0 rfl) ?_
  have hPc_1 := hP.sub (ws' := [(ro, .inr (6, [w0, .int nl, w2, .int 0]))]) [0] rfl
  have hKc_2 := hK.sub (tys' := []) [] rfl
  refine vp_callSi (va_Run.run (va_runV (As := []) (rest := []) ⟨hx, hb, hml, hown, hts⟩ (k_isFull0 l dC dI ro w0 nl w2 hL) (cwV 0 hts gX6_grow_X6_isFull rfl rfl rfl (by decide +kernel) ⟨Nat.le_of_ble_eq_true rfl, Nat.le_of_ble_eq_true rfl⟩) ⟨fun a U g mk q => by obtain ⟨q0, qP, qK⟩ := q; exact ⟨q0, qP, va_K.moved (u := U) (U := U.calling g mk a) (Vm.Alike.refl U.vm) qK⟩, va_recv hK hP (ci := 6) (q0 := 0) rfl rfl, fun U hU hW => ⟨rfl, by rw [hU]; exact hPc_1, va_K.moved hW.alike hKc_2⟩⟩ rfl rfl hl.1 rfl (lv_room (Nat.le_of_ble_eq_true rfl)) dX6_grow_1 ⟨Nat.le_of_ble_eq_true rfl, Nat.le_of_ble_eq_true rfl⟩)) (fun r_3 hw_4 => ?_)
  obtain rfl : 0 = r_3 := hw_4.symm
  refine lv_if_eq (tgt := 10) hx hb dX6_grow_4 (by decide) (fun c_5 => ?_) (fun c_5 => ?_)
  · refine lv_aload_n hx hb dX6_grow_10 rfl (lv_at hl 0 rfl) ?_
    refine lv_dup hx hb dX6_grow_11 rfl ?_
    refine va_get (D := (dC, dI)) (ci := 6) (v := .int 0) (C := RX6) (T := TX6) (N := 4) hx hb hts iw_k_grow_X6 hown hK hP 0 rfl rfl 3 (by decide) (hts (.fieldLink RX6 9 "ThriceCounted$Rows" "size" "I") (by decide +kernel)) (fun _ h9 => h9) rfl dX6_grow_12 ?_
    refine lv_iconst (v := 1) hx hb dX6_grow_15 (by decide) ?_
    refine lv_iadd hx hb dX6_grow_16 ?_
    refine tz_i 1 (by decide) ?_
    refine va_put (D := (dC, dI)) (ci := 6) (v := .int 1) (ty := .int) (C := RX6) (T := TX6) (N := 4) hx hb hts iw_k_grow_X6 tyX6 tyX6_ok nmX6 hown hK hP hD hS 0 rfl rfl 3 (by decide) (hts (.fieldLink RX6 9 "ThriceCounted$Rows" "size" "I") (by decide +kernel)) (fun _ h9 => h9) rfl (by decide +kernel) rfl rfl (Nat.le_of_ble_eq_true rfl) dX6_grow_17 (fun H locs hP hD hS => ?_)
    have hP : va_P (dC, dI) vwCl [(ro, .inr (6, [w0, .int nl, w2, .int 1]))] H := hP
    have hD : va_D A [(ro, .inr (6, [w0, .int nl, w2, .int 1]))] := hD
    refine lv_aload_n hx hb dX6_grow_20 rfl (lv_at hl 0 rfl) ?_
    refine va_get (D := (dC, dI)) (ci := 6) (v := .int 1) (C := RX6) (T := TX6) (N := 4) hx hb hts iw_k_grow_X6 hown hK hP 0 rfl rfl 3 (by decide) (hts (.fieldLink RX6 9 "ThriceCounted$Rows" "size" "I") (by decide +kernel)) (fun _ h9 => h9) rfl dX6_grow_21 ?_
    refine lv_iconst (v := 1) hx hb dX6_grow_24 (by decide) ?_
    refine lv_isub hx hb dX6_grow_25 ?_
    refine tz_i 0 (by decide) ?_
    have hP9 := hP.sub (ws' := [(ro, .inr (6, [w0, .int nl, w2, .int 1]))]) [0] rfl
    have hD9 := hD.sub (ws' := [(ro, .inr (6, [w0, .int nl, w2, .int 1]))]) [0] (by decide) rfl
    have hK9 := hK.sub (tys' := []) [] rfl
    exact W.iret (v := 0) hx hb hr (fun t ht hW => ⟨⟨0, (), rfl, rfl, by rw [ht]; exact hP9, va_K.moved hW.alike hK9, hD9⟩, hS.F ht⟩) hS.2.2 dX6_grow_26
  · exact absurd c_5 (by decide)
theorem dX6_hasCell_0 : decode cX6_hasCell 0 = .ok (.iload_n 1, 1) := by decide +kernel
theorem dX6_hasCell_1 : decode cX6_hasCell 1 = .ok (.ifCond .lt 43, 3) := by decide +kernel
theorem dX6_hasCell_4 : decode cX6_hasCell 4 = .ok (.iload_n 1, 1) := by decide +kernel
theorem dX6_hasCell_5 : decode cX6_hasCell 5 = .ok (.aload_n 0, 1) := by decide +kernel
theorem dX6_hasCell_6 : decode cX6_hasCell 6 = .ok (.getfield 9, 3) := by decide +kernel
theorem dX6_hasCell_9 : decode cX6_hasCell 9 = .ok (.if_icmp .ge 35, 3) := by decide +kernel
theorem dX6_hasCell_12 : decode cX6_hasCell 12 = .ok (.iload_n 2, 1) := by decide +kernel
theorem dX6_hasCell_13 : decode cX6_hasCell 13 = .ok (.ifCond .lt 31, 3) := by decide +kernel
theorem dX6_hasCell_16 : decode cX6_hasCell 16 = .ok (.iload_n 2, 1) := by decide +kernel
theorem dX6_hasCell_17 : decode cX6_hasCell 17 = .ok (.aload_n 0, 1) := by decide +kernel
theorem dX6_hasCell_18 : decode cX6_hasCell 18 = .ok (.getfield 24, 3) := by decide +kernel
theorem dX6_hasCell_21 : decode cX6_hasCell 21 = .ok (.if_icmp .ge 23, 3) := by decide +kernel
theorem dX6_hasCell_24 : decode cX6_hasCell 24 = .ok (.iload_n 1, 1) := by decide +kernel
theorem dX6_hasCell_25 : decode cX6_hasCell 25 = .ok (.aload_n 0, 1) := by decide +kernel
theorem dX6_hasCell_26 : decode cX6_hasCell 26 = .ok (.getfield 24, 3) := by decide +kernel
theorem dX6_hasCell_29 : decode cX6_hasCell 29 = .ok (.imul, 1) := by decide +kernel
theorem dX6_hasCell_30 : decode cX6_hasCell 30 = .ok (.iload_n 2, 1) := by decide +kernel
theorem dX6_hasCell_31 : decode cX6_hasCell 31 = .ok (.iadd, 1) := by decide +kernel
theorem dX6_hasCell_32 : decode cX6_hasCell 32 = .ok (.aload_n 0, 1) := by decide +kernel
theorem dX6_hasCell_33 : decode cX6_hasCell 33 = .ok (.getfield 27, 3) := by decide +kernel
theorem dX6_hasCell_36 : decode cX6_hasCell 36 = .ok (.arraylength, 1) := by decide +kernel
theorem dX6_hasCell_37 : decode cX6_hasCell 37 = .ok (.if_icmp .ge 7, 3) := by decide +kernel
theorem dX6_hasCell_40 : decode cX6_hasCell 40 = .ok (.iconst 1, 1) := by decide +kernel
theorem dX6_hasCell_41 : decode cX6_hasCell 41 = .ok (.goto 4, 3) := by decide +kernel
theorem dX6_hasCell_45 : decode cX6_hasCell 45 = .ok (.ireturn, 1) := by decide +kernel
set_option maxRecDepth 20000 in
theorem iw_k_hasCell_5_0_X6 : ∀ w ∈ wsX60, w ∈ wsX6_hasCell := by decide +kernel
set_option maxHeartbeats 4000000 in
set_option maxRecDepth 100000 in
theorem k_hasCell_5_0 (l : Launch) (dC : Nat → ClassId) (dI : Nat → Nat → Nat) (ro : Nat) (ca : Nat) (cc0 : ClassId) (ff : Nat → Int32) : Met l yX6_hasCell wsX6_hasCell ({ frames := 0, cells := 0, slots := 0, locals := 0 }) (va_Pc [.ref ro, .int 0, .int 0] (fun U => va_P (dC, dI) vwCl [(ro, .inr (6, [.int 1, .int 5, .ref ca, .int 1])), (ca, .inl (cc0, 5, .inl ff))] U.heap ∧ va_K (dC, dI) vwCl [(cc0, .int)] U)) (vp_Si (fun r => r = 1)) 0 0 (fun _ => False) := by
  refine Met.ofW (cc := cX6_hasCell) (maxL := 3) (ret := (some .boolean)) (by decide) rfl ?_
  intro p e s m args below meth c s₁ B hml hv
  obtain ⟨rfl, hP, hK⟩ := hv
  have hx := B.exec
  have hb := B.bytes
  have hr := B.returns
  have hts := atoms_spec (ws := wsX6_hasCell) B.pre
  have hown : s.vm.findClass RX6 = some m.cls := findClass_of_methodNamed B.named
  have hlocks := B.notSynchronized
  have hl := lv_entry ([.ref ro, .int 0, .int 0]) (n := 3) (Nat.le_of_ble_eq_true rfl)
  rw [lg_entry_eq]
  generalize (lg_sl ([.ref ro, .int 0, .int 0]) ++ List.replicate (3 - (lg_sl ([.ref ro, .int 0, .int 0])).length) Slot.unset).toArray = ls at hl ⊢
  have hl : lv_has ls 3 [(0, .ref ro), (1, .int 0), (2, .int 0)] := hl
  refine lv_iload_n hx hb dX6_hasCell_0 rfl (lv_at hl 1 rfl) ?_
  refine lv_if_lt (tgt := 44) hx hb dX6_hasCell_1 (by decide) (fun c_1 => ?_) (fun c_1 => ?_)
  · exact absurd c_1 (by decide)
  · refine lv_iload_n hx hb dX6_hasCell_4 rfl (lv_at hl 1 rfl) ?_
    refine lv_aload_n hx hb dX6_hasCell_5 rfl (lv_at hl 0 rfl) ?_
    refine va_get (D := (dC, dI)) (ci := 6) (v := .int 1) (C := RX6) (T := TX6) (N := 4) hx hb hts iw_k_hasCell_5_0_X6 hown hK hP 0 rfl rfl 3 (by decide) (hts (.fieldLink RX6 9 "ThriceCounted$Rows" "size" "I") (by decide +kernel)) (fun _ h9 => h9) rfl dX6_hasCell_6 ?_
    refine lv_icmp_ge (tgt := 44) hx hb dX6_hasCell_9 (by decide) (fun c_2 => ?_) (fun c_2 => ?_)
    · exact absurd c_2 (by decide)
    · refine lv_iload_n hx hb dX6_hasCell_12 rfl (lv_at hl 2 rfl) ?_
      refine lv_if_lt (tgt := 44) hx hb dX6_hasCell_13 (by decide) (fun c_3 => ?_) (fun c_3 => ?_)
      · exact absurd c_3 (by decide)
      · refine lv_iload_n hx hb dX6_hasCell_16 rfl (lv_at hl 2 rfl) ?_
        refine lv_aload_n hx hb dX6_hasCell_17 rfl (lv_at hl 0 rfl) ?_
        refine va_get (D := (dC, dI)) (ci := 6) (v := .int 1) (C := RX6) (T := TX6) (N := 4) hx hb hts iw_k_hasCell_5_0_X6 hown hK hP 0 rfl rfl 0 (by decide) (hts (.fieldLink RX6 24 "ThriceCounted$Rows" "width" "I") (by decide +kernel)) (fun _ h9 => h9) rfl dX6_hasCell_18 ?_
        refine lv_icmp_ge (tgt := 44) hx hb dX6_hasCell_21 (by decide) (fun c_4 => ?_) (fun c_4 => ?_)
        · exact absurd c_4 (by decide)
        · refine lv_iload_n hx hb dX6_hasCell_24 rfl (lv_at hl 1 rfl) ?_
          refine lv_aload_n hx hb dX6_hasCell_25 rfl (lv_at hl 0 rfl) ?_
          refine va_get (D := (dC, dI)) (ci := 6) (v := .int 1) (C := RX6) (T := TX6) (N := 4) hx hb hts iw_k_hasCell_5_0_X6 hown hK hP 0 rfl rfl 0 (by decide) (hts (.fieldLink RX6 24 "ThriceCounted$Rows" "width" "I") (by decide +kernel)) (fun _ h9 => h9) rfl dX6_hasCell_26 ?_
          refine lv_imul hx hb dX6_hasCell_29 ?_
          refine tz_i 0 (by decide) ?_
          refine lv_iload_n hx hb dX6_hasCell_30 rfl (lv_at hl 2 rfl) ?_
          refine lv_iadd hx hb dX6_hasCell_31 ?_
          refine tz_i 0 (by decide) ?_
          refine lv_aload_n hx hb dX6_hasCell_32 rfl (lv_at hl 0 rfl) ?_
          refine va_get (D := (dC, dI)) (ci := 6) (v := .ref ca) (C := RX6) (T := TX6) (N := 4) hx hb hts iw_k_hasCell_5_0_X6 hown hK hP 0 rfl rfl 2 (by decide) (hts (.fieldLink RX6 27 "ThriceCounted$Rows" "cells" "[I") (by decide +kernel)) (fun _ h9 => h9) rfl dX6_hasCell_33 ?_
          refine va_alen (v := 5) hx hb hK hP 1 0 rfl rfl rfl dX6_hasCell_36 ?_
          refine lv_icmp_ge (tgt := 44) hx hb dX6_hasCell_37 (by decide) (fun c_5 => ?_) (fun c_5 => ?_)
          · exact absurd c_5 (by decide)
          · refine lv_iconst (v := 1) hx hb dX6_hasCell_40 (by decide) ?_
            refine lv_goto (tgt := 45) hx hb dX6_hasCell_41 (by decide) ?_
            exact W.zret (v := 1) hx hb hr (by decide) (fun t ht hW => ⟨1, rfl, rfl, ht⟩) (fun _ h => absurd h List.not_mem_nil) dX6_hasCell_45
set_option maxRecDepth 20000 in
theorem ggX6_put_X6_hasCell : GoodIn wsX6_put wsX6_hasCell := goodIn_r _ [7, 8, 2, 1, 9, 10, 11, 12] (by decide +kernel) (by decide +kernel)
set_option maxRecDepth 20000 in
theorem gX6_put_X6_hasCell : GoodIn wsX6_put (wsV RX6 31 RX6 yX6_hasCell wsX6_hasCell) := goodIn_app (goodIn_of _ (by decide +kernel)) ggX6_put_X6_hasCell
theorem dX6_put_0 : decode cX6_put 0 = .ok (.aload_n 0, 1) := by decide +kernel
theorem dX6_put_1 : decode cX6_put 1 = .ok (.iload_n 1, 1) := by decide +kernel
theorem dX6_put_2 : decode cX6_put 2 = .ok (.iload_n 2, 1) := by decide +kernel
theorem dX6_put_3 : decode cX6_put 3 = .ok (.invokevirtual 31, 3) := by decide +kernel
theorem dX6_put_6 : decode cX6_put 6 = .ok (.ifCond .eq 17, 3) := by decide +kernel
theorem dX6_put_9 : decode cX6_put 9 = .ok (.aload_n 0, 1) := by decide +kernel
theorem dX6_put_10 : decode cX6_put 10 = .ok (.getfield 27, 3) := by decide +kernel
theorem dX6_put_13 : decode cX6_put 13 = .ok (.iload_n 1, 1) := by decide +kernel
theorem dX6_put_14 : decode cX6_put 14 = .ok (.aload_n 0, 1) := by decide +kernel
theorem dX6_put_15 : decode cX6_put 15 = .ok (.getfield 24, 3) := by decide +kernel
theorem dX6_put_18 : decode cX6_put 18 = .ok (.imul, 1) := by decide +kernel
theorem dX6_put_19 : decode cX6_put 19 = .ok (.iload_n 2, 1) := by decide +kernel
theorem dX6_put_20 : decode cX6_put 20 = .ok (.iadd, 1) := by decide +kernel
theorem dX6_put_21 : decode cX6_put 21 = .ok (.iload_n 3, 1) := by decide +kernel
theorem dX6_put_22 : decode cX6_put 22 = .ok (.iastore, 1) := by decide +kernel
theorem dX6_put_23 : decode cX6_put 23 = .ok (.return_, 1) := by decide +kernel
set_option maxRecDepth 20000 in
theorem iw_k_put_5_0_X6 : ∀ w ∈ wsX60, w ∈ wsX6_put := by decide +kernel
set_option maxHeartbeats 4000000 in
set_option maxRecDepth 100000 in
theorem k_put_5_0 (l : Launch) (dC : Nat → ClassId) (dI : Nat → Nat → Nat) (ro : Nat) (ca : Nat) (cc0 : ClassId) (ff : Nat → Int32) (nv : Int32) (sz : Nat) : Met l yX6_put wsX6_put ({ frames := 1, cells := 0, slots := 0, locals := 22 }) (va_Pc [.ref ro, .int 0, .int 0, .int nv] (fun U => U.heap.size = sz ∧ va_P (dC, dI) vwCl [(ro, .inr (6, [.int 1, .int 5, .ref ca, .int 1])), (ca, .inl (cc0, 5, .inl ff))] U.heap ∧ va_K (dC, dI) vwCl [(cc0, .int)] U ∧ va_D (fun _ => True) [(ro, .inr (6, [.int 1, .int 5, .ref ca, .int 1])), (ca, .inl (cc0, 5, .inl ff))])) (va_Qv (fun (_ : Unit) => True) (fun _ t => ∃ (fg : Nat → Int32), va_P (dC, dI) vwCl [(ro, .inr (6, [.int 1, .int 5, .ref ca, .int 1])), (ca, .inl (cc0, 5, .inl fg))] t.heap ∧ va_K (dC, dI) vwCl [(cc0, .int)] t ∧ va_D (va_A [(ro, .inr (6, [.int 1, .int 5, .ref ca, .int 1])), (ca, .inl (cc0, 5, .inl ff))] sz) [(ro, .inr (6, [.int 1, .int 5, .ref ca, .int 1])), (ca, .inl (cc0, 5, .inl fg))]) (va_A [(ro, .inr (6, [.int 1, .int 5, .ref ca, .int 1])), (ca, .inl (cc0, 5, .inl ff))] sz)) 0 0 (va_A [(ro, .inr (6, [.int 1, .int 5, .ref ca, .int 1])), (ca, .inl (cc0, 5, .inl ff))] sz) := by
  refine Met.ofW (cc := cX6_put) (maxL := 4) (ret := none) (by decide) rfl ?_
  intro p e s m args below meth c s₁ B hml hv
  obtain ⟨rfl, hsz, hP, hK, hD0⟩ := hv
  have hx := B.exec
  have hb := B.bytes
  have hr := B.returns
  have hts := atoms_spec (ws := wsX6_put) B.pre
  have hown : s.vm.findClass RX6 = some m.cls := findClass_of_methodNamed B.named
  have hlocks := B.notSynchronized
  subst hsz
  have hD := hD0.self (sz := s.heap.size)
  generalize hAe : va_A [(ro, .inr (6, [.int 1, .int 5, .ref ca, .int 1])), (ca, .inl (cc0, 5, .inl ff))] s.heap.size = A at hD ⊢
  have hA : ∀ q : Nat, s.heap.size ≤ q → A q := fun q h => by rw [← hAe]; exact Or.inr h
  have hS : va_S A s.heap s.heap [] := va_S.rf
  have hP : va_P (dC, dI) vwCl [(ro, .inr (6, [.int 1, .int 5, .ref ca, .int 1])), (ca, .inl (cc0, 5, .inl ff))] s.heap := hP
  have hl := lv_entry ([.ref ro, .int 0, .int 0, .int nv]) (n := 4) (Nat.le_of_ble_eq_true rfl)
  rw [lg_entry_eq]
  generalize (lg_sl ([.ref ro, .int 0, .int 0, .int nv]) ++ List.replicate (4 - (lg_sl ([.ref ro, .int 0, .int 0, .int nv])).length) Slot.unset).toArray = ls at hl ⊢
  have hl : lv_has ls 4 [(0, .ref ro), (1, .int 0), (2, .int 0), (3, .int nv)] := hl
  refine lv_aload_n hx hb dX6_put_0 rfl (lv_at hl 0 rfl) ?_
  refine lv_iload_n hx hb dX6_put_1 rfl (lv_at hl 1 rfl) ?_
  refine lv_iload_n hx hb dX6_put_2 rfl (lv_at hl 2 rfl) ?_
  have hPc_1 := hP.sub (ws' := [(ro, .inr (6, [.int 1, .int 5, .ref ca, .int 1])), (ca, .inl (cc0, 5, .inl ff))]) [0, 1] rfl
  have hKc_2 := hK.sub (tys' := [(cc0, .int)]) [0] rfl
  refine vp_callSi (va_Run.run (va_runV (As := [.int 0, .int 0]) (rest := []) ⟨hx, hb, hml, hown, hts⟩ (k_hasCell_5_0 l dC dI ro ca cc0 ff) (cwV 2 hts gX6_put_X6_hasCell rfl rfl rfl (by decide +kernel) ⟨Nat.le_of_ble_eq_true rfl, Nat.le_of_ble_eq_true rfl⟩) ⟨fun a U g mk q => by obtain ⟨q0, qP, qK⟩ := q; exact ⟨q0, qP, va_K.moved (u := U) (U := U.calling g mk a) (Vm.Alike.refl U.vm) qK⟩, va_recv hK hP (ci := 6) (q0 := 0) rfl rfl, fun U hU hW => ⟨rfl, by rw [hU]; exact hPc_1, va_K.moved hW.alike hKc_2⟩⟩ rfl rfl hl.1 rfl (lv_room (Nat.le_of_ble_eq_true rfl)) dX6_put_3 ⟨Nat.le_of_ble_eq_true rfl, Nat.le_of_ble_eq_true rfl⟩)) (fun r_3 hw_4 => ?_)
  obtain rfl : 1 = r_3 := hw_4.symm
  refine lv_if_eq (tgt := 23) hx hb dX6_put_6 (by decide) (fun c_5 => ?_) (fun c_5 => ?_)
  · exact absurd c_5 (by decide)
  · refine lv_aload_n hx hb dX6_put_9 rfl (lv_at hl 0 rfl) ?_
    refine va_get (D := (dC, dI)) (ci := 6) (v := .ref ca) (C := RX6) (T := TX6) (N := 4) hx hb hts iw_k_put_5_0_X6 hown hK hP 0 rfl rfl 2 (by decide) (hts (.fieldLink RX6 27 "ThriceCounted$Rows" "cells" "[I") (by decide +kernel)) (fun _ h9 => h9) rfl dX6_put_10 ?_
    refine lv_iload_n hx hb dX6_put_13 rfl (lv_at hl 1 rfl) ?_
    refine lv_aload_n hx hb dX6_put_14 rfl (lv_at hl 0 rfl) ?_
    refine va_get (D := (dC, dI)) (ci := 6) (v := .int 1) (C := RX6) (T := TX6) (N := 4) hx hb hts iw_k_put_5_0_X6 hown hK hP 0 rfl rfl 0 (by decide) (hts (.fieldLink RX6 24 "ThriceCounted$Rows" "width" "I") (by decide +kernel)) (fun _ h9 => h9) rfl dX6_put_15 ?_
    refine lv_imul hx hb dX6_put_18 ?_
    refine tz_i 0 (by decide) ?_
    refine lv_iload_n hx hb dX6_put_19 rfl (lv_at hl 2 rfl) ?_
    refine lv_iadd hx hb dX6_put_20 ?_
    refine tz_i 0 (by decide) ?_
    refine lv_iload_n hx hb dX6_put_21 rfl (lv_at hl 3 rfl) ?_
    refine va_iast hx hb hK hP hD hS 1 0 rfl rfl (show ¬ ((0 : Int32) < 0 ∨ 5 ≤ (0 : Int32).toNatClampNeg) by decide) dX6_put_22 (fun H locs hP hD hS => ?_)
    generalize (upd ff (Int32.toNatClampNeg 0) nv) = f_6 at hP hD
    have hP : va_P (dC, dI) vwCl [(ro, .inr (6, [.int 1, .int 5, .ref ca, .int 1])), (ca, .inl (cc0, 5, .inl f_6))] H := hP
    have hD : va_D A [(ro, .inr (6, [.int 1, .int 5, .ref ca, .int 1])), (ca, .inl (cc0, 5, .inl f_6))] := hD
    have hP9 := hP.sub (ws' := [(ro, .inr (6, [.int 1, .int 5, .ref ca, .int 1])), (ca, .inl (cc0, 5, .inl f_6))]) [0, 1] rfl
    have hD9 := hD.sub (ws' := [(ro, .inr (6, [.int 1, .int 5, .ref ca, .int 1])), (ca, .inl (cc0, 5, .inl f_6))]) [0, 1] (by decide) rfl
    have hK9 := hK.sub (tys' := [(cc0, .int)]) [0] rfl
    exact W.vret hx hb hr (fun t ht hW => ⟨⟨(), rfl, trivial, f_6, by rw [ht]; exact hP9, va_K.moved hW.alike hK9, hD9⟩, hS.F ht⟩) hS.2.2 dX6_put_23
set_option maxRecDepth 20000 in
theorem iw_k_hasCell_20_0_X6 : ∀ w ∈ wsX60, w ∈ wsX6_hasCell := by decide +kernel
set_option maxHeartbeats 4000000 in
set_option maxRecDepth 100000 in
theorem k_hasCell_20_0 (l : Launch) (dC : Nat → ClassId) (dI : Nat → Nat → Nat) (ro : Nat) (ca : Nat) (cc0 : ClassId) (ff : Nat → Int32) : Met l yX6_hasCell wsX6_hasCell ({ frames := 0, cells := 0, slots := 0, locals := 0 }) (va_Pc [.ref ro, .int 0, .int 0] (fun U => va_P (dC, dI) vwCl [(ro, .inr (6, [.int 4, .int 5, .ref ca, .int 1])), (ca, .inl (cc0, 20, .inl ff))] U.heap ∧ va_K (dC, dI) vwCl [(cc0, .int)] U)) (vp_Si (fun r => r = 1)) 0 0 (fun _ => False) := by
  refine Met.ofW (cc := cX6_hasCell) (maxL := 3) (ret := (some .boolean)) (by decide) rfl ?_
  intro p e s m args below meth c s₁ B hml hv
  obtain ⟨rfl, hP, hK⟩ := hv
  have hx := B.exec
  have hb := B.bytes
  have hr := B.returns
  have hts := atoms_spec (ws := wsX6_hasCell) B.pre
  have hown : s.vm.findClass RX6 = some m.cls := findClass_of_methodNamed B.named
  have hlocks := B.notSynchronized
  have hl := lv_entry ([.ref ro, .int 0, .int 0]) (n := 3) (Nat.le_of_ble_eq_true rfl)
  rw [lg_entry_eq]
  generalize (lg_sl ([.ref ro, .int 0, .int 0]) ++ List.replicate (3 - (lg_sl ([.ref ro, .int 0, .int 0])).length) Slot.unset).toArray = ls at hl ⊢
  have hl : lv_has ls 3 [(0, .ref ro), (1, .int 0), (2, .int 0)] := hl
  refine lv_iload_n hx hb dX6_hasCell_0 rfl (lv_at hl 1 rfl) ?_
  refine lv_if_lt (tgt := 44) hx hb dX6_hasCell_1 (by decide) (fun c_1 => ?_) (fun c_1 => ?_)
  · exact absurd c_1 (by decide)
  · refine lv_iload_n hx hb dX6_hasCell_4 rfl (lv_at hl 1 rfl) ?_
    refine lv_aload_n hx hb dX6_hasCell_5 rfl (lv_at hl 0 rfl) ?_
    refine va_get (D := (dC, dI)) (ci := 6) (v := .int 1) (C := RX6) (T := TX6) (N := 4) hx hb hts iw_k_hasCell_20_0_X6 hown hK hP 0 rfl rfl 3 (by decide) (hts (.fieldLink RX6 9 "ThriceCounted$Rows" "size" "I") (by decide +kernel)) (fun _ h9 => h9) rfl dX6_hasCell_6 ?_
    refine lv_icmp_ge (tgt := 44) hx hb dX6_hasCell_9 (by decide) (fun c_2 => ?_) (fun c_2 => ?_)
    · exact absurd c_2 (by decide)
    · refine lv_iload_n hx hb dX6_hasCell_12 rfl (lv_at hl 2 rfl) ?_
      refine lv_if_lt (tgt := 44) hx hb dX6_hasCell_13 (by decide) (fun c_3 => ?_) (fun c_3 => ?_)
      · exact absurd c_3 (by decide)
      · refine lv_iload_n hx hb dX6_hasCell_16 rfl (lv_at hl 2 rfl) ?_
        refine lv_aload_n hx hb dX6_hasCell_17 rfl (lv_at hl 0 rfl) ?_
        refine va_get (D := (dC, dI)) (ci := 6) (v := .int 4) (C := RX6) (T := TX6) (N := 4) hx hb hts iw_k_hasCell_20_0_X6 hown hK hP 0 rfl rfl 0 (by decide) (hts (.fieldLink RX6 24 "ThriceCounted$Rows" "width" "I") (by decide +kernel)) (fun _ h9 => h9) rfl dX6_hasCell_18 ?_
        refine lv_icmp_ge (tgt := 44) hx hb dX6_hasCell_21 (by decide) (fun c_4 => ?_) (fun c_4 => ?_)
        · exact absurd c_4 (by decide)
        · refine lv_iload_n hx hb dX6_hasCell_24 rfl (lv_at hl 1 rfl) ?_
          refine lv_aload_n hx hb dX6_hasCell_25 rfl (lv_at hl 0 rfl) ?_
          refine va_get (D := (dC, dI)) (ci := 6) (v := .int 4) (C := RX6) (T := TX6) (N := 4) hx hb hts iw_k_hasCell_20_0_X6 hown hK hP 0 rfl rfl 0 (by decide) (hts (.fieldLink RX6 24 "ThriceCounted$Rows" "width" "I") (by decide +kernel)) (fun _ h9 => h9) rfl dX6_hasCell_26 ?_
          refine lv_imul hx hb dX6_hasCell_29 ?_
          refine tz_i 0 (by decide) ?_
          refine lv_iload_n hx hb dX6_hasCell_30 rfl (lv_at hl 2 rfl) ?_
          refine lv_iadd hx hb dX6_hasCell_31 ?_
          refine tz_i 0 (by decide) ?_
          refine lv_aload_n hx hb dX6_hasCell_32 rfl (lv_at hl 0 rfl) ?_
          refine va_get (D := (dC, dI)) (ci := 6) (v := .ref ca) (C := RX6) (T := TX6) (N := 4) hx hb hts iw_k_hasCell_20_0_X6 hown hK hP 0 rfl rfl 2 (by decide) (hts (.fieldLink RX6 27 "ThriceCounted$Rows" "cells" "[I") (by decide +kernel)) (fun _ h9 => h9) rfl dX6_hasCell_33 ?_
          refine va_alen (v := 20) hx hb hK hP 1 0 rfl rfl rfl dX6_hasCell_36 ?_
          refine lv_icmp_ge (tgt := 44) hx hb dX6_hasCell_37 (by decide) (fun c_5 => ?_) (fun c_5 => ?_)
          · exact absurd c_5 (by decide)
          · refine lv_iconst (v := 1) hx hb dX6_hasCell_40 (by decide) ?_
            refine lv_goto (tgt := 45) hx hb dX6_hasCell_41 (by decide) ?_
            exact W.zret (v := 1) hx hb hr (by decide) (fun t ht hW => ⟨1, rfl, rfl, ht⟩) (fun _ h => absurd h List.not_mem_nil) dX6_hasCell_45
set_option maxRecDepth 20000 in
theorem iw_k_put_20_0_X6 : ∀ w ∈ wsX60, w ∈ wsX6_put := by decide +kernel
set_option maxHeartbeats 4000000 in
set_option maxRecDepth 100000 in
theorem k_put_20_0 (l : Launch) (dC : Nat → ClassId) (dI : Nat → Nat → Nat) (ro : Nat) (ca : Nat) (cc0 : ClassId) (ff : Nat → Int32) (nv : Int32) (sz : Nat) : Met l yX6_put wsX6_put ({ frames := 1, cells := 0, slots := 0, locals := 22 }) (va_Pc [.ref ro, .int 0, .int 0, .int nv] (fun U => U.heap.size = sz ∧ va_P (dC, dI) vwCl [(ro, .inr (6, [.int 4, .int 5, .ref ca, .int 1])), (ca, .inl (cc0, 20, .inl ff))] U.heap ∧ va_K (dC, dI) vwCl [(cc0, .int)] U ∧ va_D (fun _ => True) [(ro, .inr (6, [.int 4, .int 5, .ref ca, .int 1])), (ca, .inl (cc0, 20, .inl ff))])) (va_Qv (fun (_ : Unit) => True) (fun _ t => ∃ (fg : Nat → Int32), va_P (dC, dI) vwCl [(ro, .inr (6, [.int 4, .int 5, .ref ca, .int 1])), (ca, .inl (cc0, 20, .inl fg))] t.heap ∧ va_K (dC, dI) vwCl [(cc0, .int)] t ∧ va_D (va_A [(ro, .inr (6, [.int 4, .int 5, .ref ca, .int 1])), (ca, .inl (cc0, 20, .inl ff))] sz) [(ro, .inr (6, [.int 4, .int 5, .ref ca, .int 1])), (ca, .inl (cc0, 20, .inl fg))]) (va_A [(ro, .inr (6, [.int 4, .int 5, .ref ca, .int 1])), (ca, .inl (cc0, 20, .inl ff))] sz)) 0 0 (va_A [(ro, .inr (6, [.int 4, .int 5, .ref ca, .int 1])), (ca, .inl (cc0, 20, .inl ff))] sz) := by
  refine Met.ofW (cc := cX6_put) (maxL := 4) (ret := none) (by decide) rfl ?_
  intro p e s m args below meth c s₁ B hml hv
  obtain ⟨rfl, hsz, hP, hK, hD0⟩ := hv
  have hx := B.exec
  have hb := B.bytes
  have hr := B.returns
  have hts := atoms_spec (ws := wsX6_put) B.pre
  have hown : s.vm.findClass RX6 = some m.cls := findClass_of_methodNamed B.named
  have hlocks := B.notSynchronized
  subst hsz
  have hD := hD0.self (sz := s.heap.size)
  generalize hAe : va_A [(ro, .inr (6, [.int 4, .int 5, .ref ca, .int 1])), (ca, .inl (cc0, 20, .inl ff))] s.heap.size = A at hD ⊢
  have hA : ∀ q : Nat, s.heap.size ≤ q → A q := fun q h => by rw [← hAe]; exact Or.inr h
  have hS : va_S A s.heap s.heap [] := va_S.rf
  have hP : va_P (dC, dI) vwCl [(ro, .inr (6, [.int 4, .int 5, .ref ca, .int 1])), (ca, .inl (cc0, 20, .inl ff))] s.heap := hP
  have hl := lv_entry ([.ref ro, .int 0, .int 0, .int nv]) (n := 4) (Nat.le_of_ble_eq_true rfl)
  rw [lg_entry_eq]
  generalize (lg_sl ([.ref ro, .int 0, .int 0, .int nv]) ++ List.replicate (4 - (lg_sl ([.ref ro, .int 0, .int 0, .int nv])).length) Slot.unset).toArray = ls at hl ⊢
  have hl : lv_has ls 4 [(0, .ref ro), (1, .int 0), (2, .int 0), (3, .int nv)] := hl
  refine lv_aload_n hx hb dX6_put_0 rfl (lv_at hl 0 rfl) ?_
  refine lv_iload_n hx hb dX6_put_1 rfl (lv_at hl 1 rfl) ?_
  refine lv_iload_n hx hb dX6_put_2 rfl (lv_at hl 2 rfl) ?_
  have hPc_1 := hP.sub (ws' := [(ro, .inr (6, [.int 4, .int 5, .ref ca, .int 1])), (ca, .inl (cc0, 20, .inl ff))]) [0, 1] rfl
  have hKc_2 := hK.sub (tys' := [(cc0, .int)]) [0] rfl
  refine vp_callSi (va_Run.run (va_runV (As := [.int 0, .int 0]) (rest := []) ⟨hx, hb, hml, hown, hts⟩ (k_hasCell_20_0 l dC dI ro ca cc0 ff) (cwV 2 hts gX6_put_X6_hasCell rfl rfl rfl (by decide +kernel) ⟨Nat.le_of_ble_eq_true rfl, Nat.le_of_ble_eq_true rfl⟩) ⟨fun a U g mk q => by obtain ⟨q0, qP, qK⟩ := q; exact ⟨q0, qP, va_K.moved (u := U) (U := U.calling g mk a) (Vm.Alike.refl U.vm) qK⟩, va_recv hK hP (ci := 6) (q0 := 0) rfl rfl, fun U hU hW => ⟨rfl, by rw [hU]; exact hPc_1, va_K.moved hW.alike hKc_2⟩⟩ rfl rfl hl.1 rfl (lv_room (Nat.le_of_ble_eq_true rfl)) dX6_put_3 ⟨Nat.le_of_ble_eq_true rfl, Nat.le_of_ble_eq_true rfl⟩)) (fun r_3 hw_4 => ?_)
  obtain rfl : 1 = r_3 := hw_4.symm
  refine lv_if_eq (tgt := 23) hx hb dX6_put_6 (by decide) (fun c_5 => ?_) (fun c_5 => ?_)
  · exact absurd c_5 (by decide)
  · refine lv_aload_n hx hb dX6_put_9 rfl (lv_at hl 0 rfl) ?_
    refine va_get (D := (dC, dI)) (ci := 6) (v := .ref ca) (C := RX6) (T := TX6) (N := 4) hx hb hts iw_k_put_20_0_X6 hown hK hP 0 rfl rfl 2 (by decide) (hts (.fieldLink RX6 27 "ThriceCounted$Rows" "cells" "[I") (by decide +kernel)) (fun _ h9 => h9) rfl dX6_put_10 ?_
    refine lv_iload_n hx hb dX6_put_13 rfl (lv_at hl 1 rfl) ?_
    refine lv_aload_n hx hb dX6_put_14 rfl (lv_at hl 0 rfl) ?_
    refine va_get (D := (dC, dI)) (ci := 6) (v := .int 4) (C := RX6) (T := TX6) (N := 4) hx hb hts iw_k_put_20_0_X6 hown hK hP 0 rfl rfl 0 (by decide) (hts (.fieldLink RX6 24 "ThriceCounted$Rows" "width" "I") (by decide +kernel)) (fun _ h9 => h9) rfl dX6_put_15 ?_
    refine lv_imul hx hb dX6_put_18 ?_
    refine tz_i 0 (by decide) ?_
    refine lv_iload_n hx hb dX6_put_19 rfl (lv_at hl 2 rfl) ?_
    refine lv_iadd hx hb dX6_put_20 ?_
    refine tz_i 0 (by decide) ?_
    refine lv_iload_n hx hb dX6_put_21 rfl (lv_at hl 3 rfl) ?_
    refine va_iast hx hb hK hP hD hS 1 0 rfl rfl (show ¬ ((0 : Int32) < 0 ∨ 20 ≤ (0 : Int32).toNatClampNeg) by decide) dX6_put_22 (fun H locs hP hD hS => ?_)
    generalize (upd ff (Int32.toNatClampNeg 0) nv) = f_6 at hP hD
    have hP : va_P (dC, dI) vwCl [(ro, .inr (6, [.int 4, .int 5, .ref ca, .int 1])), (ca, .inl (cc0, 20, .inl f_6))] H := hP
    have hD : va_D A [(ro, .inr (6, [.int 4, .int 5, .ref ca, .int 1])), (ca, .inl (cc0, 20, .inl f_6))] := hD
    have hP9 := hP.sub (ws' := [(ro, .inr (6, [.int 4, .int 5, .ref ca, .int 1])), (ca, .inl (cc0, 20, .inl f_6))]) [0, 1] rfl
    have hD9 := hD.sub (ws' := [(ro, .inr (6, [.int 4, .int 5, .ref ca, .int 1])), (ca, .inl (cc0, 20, .inl f_6))]) [0, 1] (by decide) rfl
    have hK9 := hK.sub (tys' := [(cc0, .int)]) [0] rfl
    exact W.vret hx hb hr (fun t ht hW => ⟨⟨(), rfl, trivial, f_6, by rw [ht]; exact hP9, va_K.moved hW.alike hK9, hD9⟩, hS.F ht⟩) hS.2.2 dX6_put_23
set_option maxRecDepth 20000 in
theorem iw_k_hasCell_20_1_X6 : ∀ w ∈ wsX60, w ∈ wsX6_hasCell := by decide +kernel
set_option maxHeartbeats 4000000 in
set_option maxRecDepth 100000 in
theorem k_hasCell_20_1 (l : Launch) (dC : Nat → ClassId) (dI : Nat → Nat → Nat) (ro : Nat) (ca : Nat) (cc0 : ClassId) (ff : Nat → Int32) : Met l yX6_hasCell wsX6_hasCell ({ frames := 0, cells := 0, slots := 0, locals := 0 }) (va_Pc [.ref ro, .int 0, .int 1] (fun U => va_P (dC, dI) vwCl [(ro, .inr (6, [.int 4, .int 5, .ref ca, .int 1])), (ca, .inl (cc0, 20, .inl ff))] U.heap ∧ va_K (dC, dI) vwCl [(cc0, .int)] U)) (vp_Si (fun r => r = 1)) 0 0 (fun _ => False) := by
  refine Met.ofW (cc := cX6_hasCell) (maxL := 3) (ret := (some .boolean)) (by decide) rfl ?_
  intro p e s m args below meth c s₁ B hml hv
  obtain ⟨rfl, hP, hK⟩ := hv
  have hx := B.exec
  have hb := B.bytes
  have hr := B.returns
  have hts := atoms_spec (ws := wsX6_hasCell) B.pre
  have hown : s.vm.findClass RX6 = some m.cls := findClass_of_methodNamed B.named
  have hlocks := B.notSynchronized
  have hl := lv_entry ([.ref ro, .int 0, .int 1]) (n := 3) (Nat.le_of_ble_eq_true rfl)
  rw [lg_entry_eq]
  generalize (lg_sl ([.ref ro, .int 0, .int 1]) ++ List.replicate (3 - (lg_sl ([.ref ro, .int 0, .int 1])).length) Slot.unset).toArray = ls at hl ⊢
  have hl : lv_has ls 3 [(0, .ref ro), (1, .int 0), (2, .int 1)] := hl
  refine lv_iload_n hx hb dX6_hasCell_0 rfl (lv_at hl 1 rfl) ?_
  refine lv_if_lt (tgt := 44) hx hb dX6_hasCell_1 (by decide) (fun c_1 => ?_) (fun c_1 => ?_)
  · exact absurd c_1 (by decide)
  · refine lv_iload_n hx hb dX6_hasCell_4 rfl (lv_at hl 1 rfl) ?_
    refine lv_aload_n hx hb dX6_hasCell_5 rfl (lv_at hl 0 rfl) ?_
    refine va_get (D := (dC, dI)) (ci := 6) (v := .int 1) (C := RX6) (T := TX6) (N := 4) hx hb hts iw_k_hasCell_20_1_X6 hown hK hP 0 rfl rfl 3 (by decide) (hts (.fieldLink RX6 9 "ThriceCounted$Rows" "size" "I") (by decide +kernel)) (fun _ h9 => h9) rfl dX6_hasCell_6 ?_
    refine lv_icmp_ge (tgt := 44) hx hb dX6_hasCell_9 (by decide) (fun c_2 => ?_) (fun c_2 => ?_)
    · exact absurd c_2 (by decide)
    · refine lv_iload_n hx hb dX6_hasCell_12 rfl (lv_at hl 2 rfl) ?_
      refine lv_if_lt (tgt := 44) hx hb dX6_hasCell_13 (by decide) (fun c_3 => ?_) (fun c_3 => ?_)
      · exact absurd c_3 (by decide)
      · refine lv_iload_n hx hb dX6_hasCell_16 rfl (lv_at hl 2 rfl) ?_
        refine lv_aload_n hx hb dX6_hasCell_17 rfl (lv_at hl 0 rfl) ?_
        refine va_get (D := (dC, dI)) (ci := 6) (v := .int 4) (C := RX6) (T := TX6) (N := 4) hx hb hts iw_k_hasCell_20_1_X6 hown hK hP 0 rfl rfl 0 (by decide) (hts (.fieldLink RX6 24 "ThriceCounted$Rows" "width" "I") (by decide +kernel)) (fun _ h9 => h9) rfl dX6_hasCell_18 ?_
        refine lv_icmp_ge (tgt := 44) hx hb dX6_hasCell_21 (by decide) (fun c_4 => ?_) (fun c_4 => ?_)
        · exact absurd c_4 (by decide)
        · refine lv_iload_n hx hb dX6_hasCell_24 rfl (lv_at hl 1 rfl) ?_
          refine lv_aload_n hx hb dX6_hasCell_25 rfl (lv_at hl 0 rfl) ?_
          refine va_get (D := (dC, dI)) (ci := 6) (v := .int 4) (C := RX6) (T := TX6) (N := 4) hx hb hts iw_k_hasCell_20_1_X6 hown hK hP 0 rfl rfl 0 (by decide) (hts (.fieldLink RX6 24 "ThriceCounted$Rows" "width" "I") (by decide +kernel)) (fun _ h9 => h9) rfl dX6_hasCell_26 ?_
          refine lv_imul hx hb dX6_hasCell_29 ?_
          refine tz_i 0 (by decide) ?_
          refine lv_iload_n hx hb dX6_hasCell_30 rfl (lv_at hl 2 rfl) ?_
          refine lv_iadd hx hb dX6_hasCell_31 ?_
          refine tz_i 1 (by decide) ?_
          refine lv_aload_n hx hb dX6_hasCell_32 rfl (lv_at hl 0 rfl) ?_
          refine va_get (D := (dC, dI)) (ci := 6) (v := .ref ca) (C := RX6) (T := TX6) (N := 4) hx hb hts iw_k_hasCell_20_1_X6 hown hK hP 0 rfl rfl 2 (by decide) (hts (.fieldLink RX6 27 "ThriceCounted$Rows" "cells" "[I") (by decide +kernel)) (fun _ h9 => h9) rfl dX6_hasCell_33 ?_
          refine va_alen (v := 20) hx hb hK hP 1 0 rfl rfl rfl dX6_hasCell_36 ?_
          refine lv_icmp_ge (tgt := 44) hx hb dX6_hasCell_37 (by decide) (fun c_5 => ?_) (fun c_5 => ?_)
          · exact absurd c_5 (by decide)
          · refine lv_iconst (v := 1) hx hb dX6_hasCell_40 (by decide) ?_
            refine lv_goto (tgt := 45) hx hb dX6_hasCell_41 (by decide) ?_
            exact W.zret (v := 1) hx hb hr (by decide) (fun t ht hW => ⟨1, rfl, rfl, ht⟩) (fun _ h => absurd h List.not_mem_nil) dX6_hasCell_45
set_option maxRecDepth 20000 in
theorem iw_k_put_20_1_X6 : ∀ w ∈ wsX60, w ∈ wsX6_put := by decide +kernel
set_option maxHeartbeats 4000000 in
set_option maxRecDepth 100000 in
theorem k_put_20_1 (l : Launch) (dC : Nat → ClassId) (dI : Nat → Nat → Nat) (ro : Nat) (ca : Nat) (cc0 : ClassId) (ff : Nat → Int32) (nv : Int32) (sz : Nat) : Met l yX6_put wsX6_put ({ frames := 1, cells := 0, slots := 0, locals := 22 }) (va_Pc [.ref ro, .int 0, .int 1, .int nv] (fun U => U.heap.size = sz ∧ va_P (dC, dI) vwCl [(ro, .inr (6, [.int 4, .int 5, .ref ca, .int 1])), (ca, .inl (cc0, 20, .inl ff))] U.heap ∧ va_K (dC, dI) vwCl [(cc0, .int)] U ∧ va_D (fun _ => True) [(ro, .inr (6, [.int 4, .int 5, .ref ca, .int 1])), (ca, .inl (cc0, 20, .inl ff))])) (va_Qv (fun (_ : Unit) => True) (fun _ t => ∃ (fg : Nat → Int32), va_P (dC, dI) vwCl [(ro, .inr (6, [.int 4, .int 5, .ref ca, .int 1])), (ca, .inl (cc0, 20, .inl fg))] t.heap ∧ va_K (dC, dI) vwCl [(cc0, .int)] t ∧ va_D (va_A [(ro, .inr (6, [.int 4, .int 5, .ref ca, .int 1])), (ca, .inl (cc0, 20, .inl ff))] sz) [(ro, .inr (6, [.int 4, .int 5, .ref ca, .int 1])), (ca, .inl (cc0, 20, .inl fg))]) (va_A [(ro, .inr (6, [.int 4, .int 5, .ref ca, .int 1])), (ca, .inl (cc0, 20, .inl ff))] sz)) 0 0 (va_A [(ro, .inr (6, [.int 4, .int 5, .ref ca, .int 1])), (ca, .inl (cc0, 20, .inl ff))] sz) := by
  refine Met.ofW (cc := cX6_put) (maxL := 4) (ret := none) (by decide) rfl ?_
  intro p e s m args below meth c s₁ B hml hv
  obtain ⟨rfl, hsz, hP, hK, hD0⟩ := hv
  have hx := B.exec
  have hb := B.bytes
  have hr := B.returns
  have hts := atoms_spec (ws := wsX6_put) B.pre
  have hown : s.vm.findClass RX6 = some m.cls := findClass_of_methodNamed B.named
  have hlocks := B.notSynchronized
  subst hsz
  have hD := hD0.self (sz := s.heap.size)
  generalize hAe : va_A [(ro, .inr (6, [.int 4, .int 5, .ref ca, .int 1])), (ca, .inl (cc0, 20, .inl ff))] s.heap.size = A at hD ⊢
  have hA : ∀ q : Nat, s.heap.size ≤ q → A q := fun q h => by rw [← hAe]; exact Or.inr h
  have hS : va_S A s.heap s.heap [] := va_S.rf
  have hP : va_P (dC, dI) vwCl [(ro, .inr (6, [.int 4, .int 5, .ref ca, .int 1])), (ca, .inl (cc0, 20, .inl ff))] s.heap := hP
  have hl := lv_entry ([.ref ro, .int 0, .int 1, .int nv]) (n := 4) (Nat.le_of_ble_eq_true rfl)
  rw [lg_entry_eq]
  generalize (lg_sl ([.ref ro, .int 0, .int 1, .int nv]) ++ List.replicate (4 - (lg_sl ([.ref ro, .int 0, .int 1, .int nv])).length) Slot.unset).toArray = ls at hl ⊢
  have hl : lv_has ls 4 [(0, .ref ro), (1, .int 0), (2, .int 1), (3, .int nv)] := hl
  refine lv_aload_n hx hb dX6_put_0 rfl (lv_at hl 0 rfl) ?_
  refine lv_iload_n hx hb dX6_put_1 rfl (lv_at hl 1 rfl) ?_
  refine lv_iload_n hx hb dX6_put_2 rfl (lv_at hl 2 rfl) ?_
  have hPc_1 := hP.sub (ws' := [(ro, .inr (6, [.int 4, .int 5, .ref ca, .int 1])), (ca, .inl (cc0, 20, .inl ff))]) [0, 1] rfl
  have hKc_2 := hK.sub (tys' := [(cc0, .int)]) [0] rfl
  refine vp_callSi (va_Run.run (va_runV (As := [.int 0, .int 1]) (rest := []) ⟨hx, hb, hml, hown, hts⟩ (k_hasCell_20_1 l dC dI ro ca cc0 ff) (cwV 2 hts gX6_put_X6_hasCell rfl rfl rfl (by decide +kernel) ⟨Nat.le_of_ble_eq_true rfl, Nat.le_of_ble_eq_true rfl⟩) ⟨fun a U g mk q => by obtain ⟨q0, qP, qK⟩ := q; exact ⟨q0, qP, va_K.moved (u := U) (U := U.calling g mk a) (Vm.Alike.refl U.vm) qK⟩, va_recv hK hP (ci := 6) (q0 := 0) rfl rfl, fun U hU hW => ⟨rfl, by rw [hU]; exact hPc_1, va_K.moved hW.alike hKc_2⟩⟩ rfl rfl hl.1 rfl (lv_room (Nat.le_of_ble_eq_true rfl)) dX6_put_3 ⟨Nat.le_of_ble_eq_true rfl, Nat.le_of_ble_eq_true rfl⟩)) (fun r_3 hw_4 => ?_)
  obtain rfl : 1 = r_3 := hw_4.symm
  refine lv_if_eq (tgt := 23) hx hb dX6_put_6 (by decide) (fun c_5 => ?_) (fun c_5 => ?_)
  · exact absurd c_5 (by decide)
  · refine lv_aload_n hx hb dX6_put_9 rfl (lv_at hl 0 rfl) ?_
    refine va_get (D := (dC, dI)) (ci := 6) (v := .ref ca) (C := RX6) (T := TX6) (N := 4) hx hb hts iw_k_put_20_1_X6 hown hK hP 0 rfl rfl 2 (by decide) (hts (.fieldLink RX6 27 "ThriceCounted$Rows" "cells" "[I") (by decide +kernel)) (fun _ h9 => h9) rfl dX6_put_10 ?_
    refine lv_iload_n hx hb dX6_put_13 rfl (lv_at hl 1 rfl) ?_
    refine lv_aload_n hx hb dX6_put_14 rfl (lv_at hl 0 rfl) ?_
    refine va_get (D := (dC, dI)) (ci := 6) (v := .int 4) (C := RX6) (T := TX6) (N := 4) hx hb hts iw_k_put_20_1_X6 hown hK hP 0 rfl rfl 0 (by decide) (hts (.fieldLink RX6 24 "ThriceCounted$Rows" "width" "I") (by decide +kernel)) (fun _ h9 => h9) rfl dX6_put_15 ?_
    refine lv_imul hx hb dX6_put_18 ?_
    refine tz_i 0 (by decide) ?_
    refine lv_iload_n hx hb dX6_put_19 rfl (lv_at hl 2 rfl) ?_
    refine lv_iadd hx hb dX6_put_20 ?_
    refine tz_i 1 (by decide) ?_
    refine lv_iload_n hx hb dX6_put_21 rfl (lv_at hl 3 rfl) ?_
    refine va_iast hx hb hK hP hD hS 1 0 rfl rfl (show ¬ ((1 : Int32) < 0 ∨ 20 ≤ (1 : Int32).toNatClampNeg) by decide) dX6_put_22 (fun H locs hP hD hS => ?_)
    generalize (upd ff (Int32.toNatClampNeg 1) nv) = f_6 at hP hD
    have hP : va_P (dC, dI) vwCl [(ro, .inr (6, [.int 4, .int 5, .ref ca, .int 1])), (ca, .inl (cc0, 20, .inl f_6))] H := hP
    have hD : va_D A [(ro, .inr (6, [.int 4, .int 5, .ref ca, .int 1])), (ca, .inl (cc0, 20, .inl f_6))] := hD
    have hP9 := hP.sub (ws' := [(ro, .inr (6, [.int 4, .int 5, .ref ca, .int 1])), (ca, .inl (cc0, 20, .inl f_6))]) [0, 1] rfl
    have hD9 := hD.sub (ws' := [(ro, .inr (6, [.int 4, .int 5, .ref ca, .int 1])), (ca, .inl (cc0, 20, .inl f_6))]) [0, 1] (by decide) rfl
    have hK9 := hK.sub (tys' := [(cc0, .int)]) [0] rfl
    exact W.vret hx hb hr (fun t ht hW => ⟨⟨(), rfl, trivial, f_6, by rw [ht]; exact hP9, va_K.moved hW.alike hK9, hD9⟩, hS.F ht⟩) hS.2.2 dX6_put_23
set_option maxRecDepth 20000 in
theorem iw_k_hasCell_20_2_X6 : ∀ w ∈ wsX60, w ∈ wsX6_hasCell := by decide +kernel
set_option maxHeartbeats 4000000 in
set_option maxRecDepth 100000 in
theorem k_hasCell_20_2 (l : Launch) (dC : Nat → ClassId) (dI : Nat → Nat → Nat) (ro : Nat) (ca : Nat) (cc0 : ClassId) (ff : Nat → Int32) : Met l yX6_hasCell wsX6_hasCell ({ frames := 0, cells := 0, slots := 0, locals := 0 }) (va_Pc [.ref ro, .int 0, .int 2] (fun U => va_P (dC, dI) vwCl [(ro, .inr (6, [.int 4, .int 5, .ref ca, .int 1])), (ca, .inl (cc0, 20, .inl ff))] U.heap ∧ va_K (dC, dI) vwCl [(cc0, .int)] U)) (vp_Si (fun r => r = 1)) 0 0 (fun _ => False) := by
  refine Met.ofW (cc := cX6_hasCell) (maxL := 3) (ret := (some .boolean)) (by decide) rfl ?_
  intro p e s m args below meth c s₁ B hml hv
  obtain ⟨rfl, hP, hK⟩ := hv
  have hx := B.exec
  have hb := B.bytes
  have hr := B.returns
  have hts := atoms_spec (ws := wsX6_hasCell) B.pre
  have hown : s.vm.findClass RX6 = some m.cls := findClass_of_methodNamed B.named
  have hlocks := B.notSynchronized
  have hl := lv_entry ([.ref ro, .int 0, .int 2]) (n := 3) (Nat.le_of_ble_eq_true rfl)
  rw [lg_entry_eq]
  generalize (lg_sl ([.ref ro, .int 0, .int 2]) ++ List.replicate (3 - (lg_sl ([.ref ro, .int 0, .int 2])).length) Slot.unset).toArray = ls at hl ⊢
  have hl : lv_has ls 3 [(0, .ref ro), (1, .int 0), (2, .int 2)] := hl
  refine lv_iload_n hx hb dX6_hasCell_0 rfl (lv_at hl 1 rfl) ?_
  refine lv_if_lt (tgt := 44) hx hb dX6_hasCell_1 (by decide) (fun c_1 => ?_) (fun c_1 => ?_)
  · exact absurd c_1 (by decide)
  · refine lv_iload_n hx hb dX6_hasCell_4 rfl (lv_at hl 1 rfl) ?_
    refine lv_aload_n hx hb dX6_hasCell_5 rfl (lv_at hl 0 rfl) ?_
    refine va_get (D := (dC, dI)) (ci := 6) (v := .int 1) (C := RX6) (T := TX6) (N := 4) hx hb hts iw_k_hasCell_20_2_X6 hown hK hP 0 rfl rfl 3 (by decide) (hts (.fieldLink RX6 9 "ThriceCounted$Rows" "size" "I") (by decide +kernel)) (fun _ h9 => h9) rfl dX6_hasCell_6 ?_
    refine lv_icmp_ge (tgt := 44) hx hb dX6_hasCell_9 (by decide) (fun c_2 => ?_) (fun c_2 => ?_)
    · exact absurd c_2 (by decide)
    · refine lv_iload_n hx hb dX6_hasCell_12 rfl (lv_at hl 2 rfl) ?_
      refine lv_if_lt (tgt := 44) hx hb dX6_hasCell_13 (by decide) (fun c_3 => ?_) (fun c_3 => ?_)
      · exact absurd c_3 (by decide)
      · refine lv_iload_n hx hb dX6_hasCell_16 rfl (lv_at hl 2 rfl) ?_
        refine lv_aload_n hx hb dX6_hasCell_17 rfl (lv_at hl 0 rfl) ?_
        refine va_get (D := (dC, dI)) (ci := 6) (v := .int 4) (C := RX6) (T := TX6) (N := 4) hx hb hts iw_k_hasCell_20_2_X6 hown hK hP 0 rfl rfl 0 (by decide) (hts (.fieldLink RX6 24 "ThriceCounted$Rows" "width" "I") (by decide +kernel)) (fun _ h9 => h9) rfl dX6_hasCell_18 ?_
        refine lv_icmp_ge (tgt := 44) hx hb dX6_hasCell_21 (by decide) (fun c_4 => ?_) (fun c_4 => ?_)
        · exact absurd c_4 (by decide)
        · refine lv_iload_n hx hb dX6_hasCell_24 rfl (lv_at hl 1 rfl) ?_
          refine lv_aload_n hx hb dX6_hasCell_25 rfl (lv_at hl 0 rfl) ?_
          refine va_get (D := (dC, dI)) (ci := 6) (v := .int 4) (C := RX6) (T := TX6) (N := 4) hx hb hts iw_k_hasCell_20_2_X6 hown hK hP 0 rfl rfl 0 (by decide) (hts (.fieldLink RX6 24 "ThriceCounted$Rows" "width" "I") (by decide +kernel)) (fun _ h9 => h9) rfl dX6_hasCell_26 ?_
          refine lv_imul hx hb dX6_hasCell_29 ?_
          refine tz_i 0 (by decide) ?_
          refine lv_iload_n hx hb dX6_hasCell_30 rfl (lv_at hl 2 rfl) ?_
          refine lv_iadd hx hb dX6_hasCell_31 ?_
          refine tz_i 2 (by decide) ?_
          refine lv_aload_n hx hb dX6_hasCell_32 rfl (lv_at hl 0 rfl) ?_
          refine va_get (D := (dC, dI)) (ci := 6) (v := .ref ca) (C := RX6) (T := TX6) (N := 4) hx hb hts iw_k_hasCell_20_2_X6 hown hK hP 0 rfl rfl 2 (by decide) (hts (.fieldLink RX6 27 "ThriceCounted$Rows" "cells" "[I") (by decide +kernel)) (fun _ h9 => h9) rfl dX6_hasCell_33 ?_
          refine va_alen (v := 20) hx hb hK hP 1 0 rfl rfl rfl dX6_hasCell_36 ?_
          refine lv_icmp_ge (tgt := 44) hx hb dX6_hasCell_37 (by decide) (fun c_5 => ?_) (fun c_5 => ?_)
          · exact absurd c_5 (by decide)
          · refine lv_iconst (v := 1) hx hb dX6_hasCell_40 (by decide) ?_
            refine lv_goto (tgt := 45) hx hb dX6_hasCell_41 (by decide) ?_
            exact W.zret (v := 1) hx hb hr (by decide) (fun t ht hW => ⟨1, rfl, rfl, ht⟩) (fun _ h => absurd h List.not_mem_nil) dX6_hasCell_45
set_option maxRecDepth 20000 in
theorem iw_k_put_20_2_X6 : ∀ w ∈ wsX60, w ∈ wsX6_put := by decide +kernel
set_option maxHeartbeats 4000000 in
set_option maxRecDepth 100000 in
theorem k_put_20_2 (l : Launch) (dC : Nat → ClassId) (dI : Nat → Nat → Nat) (ro : Nat) (ca : Nat) (cc0 : ClassId) (ff : Nat → Int32) (nv : Int32) (sz : Nat) : Met l yX6_put wsX6_put ({ frames := 1, cells := 0, slots := 0, locals := 22 }) (va_Pc [.ref ro, .int 0, .int 2, .int nv] (fun U => U.heap.size = sz ∧ va_P (dC, dI) vwCl [(ro, .inr (6, [.int 4, .int 5, .ref ca, .int 1])), (ca, .inl (cc0, 20, .inl ff))] U.heap ∧ va_K (dC, dI) vwCl [(cc0, .int)] U ∧ va_D (fun _ => True) [(ro, .inr (6, [.int 4, .int 5, .ref ca, .int 1])), (ca, .inl (cc0, 20, .inl ff))])) (va_Qv (fun (_ : Unit) => True) (fun _ t => ∃ (fg : Nat → Int32), va_P (dC, dI) vwCl [(ro, .inr (6, [.int 4, .int 5, .ref ca, .int 1])), (ca, .inl (cc0, 20, .inl fg))] t.heap ∧ va_K (dC, dI) vwCl [(cc0, .int)] t ∧ va_D (va_A [(ro, .inr (6, [.int 4, .int 5, .ref ca, .int 1])), (ca, .inl (cc0, 20, .inl ff))] sz) [(ro, .inr (6, [.int 4, .int 5, .ref ca, .int 1])), (ca, .inl (cc0, 20, .inl fg))]) (va_A [(ro, .inr (6, [.int 4, .int 5, .ref ca, .int 1])), (ca, .inl (cc0, 20, .inl ff))] sz)) 0 0 (va_A [(ro, .inr (6, [.int 4, .int 5, .ref ca, .int 1])), (ca, .inl (cc0, 20, .inl ff))] sz) := by
  refine Met.ofW (cc := cX6_put) (maxL := 4) (ret := none) (by decide) rfl ?_
  intro p e s m args below meth c s₁ B hml hv
  obtain ⟨rfl, hsz, hP, hK, hD0⟩ := hv
  have hx := B.exec
  have hb := B.bytes
  have hr := B.returns
  have hts := atoms_spec (ws := wsX6_put) B.pre
  have hown : s.vm.findClass RX6 = some m.cls := findClass_of_methodNamed B.named
  have hlocks := B.notSynchronized
  subst hsz
  have hD := hD0.self (sz := s.heap.size)
  generalize hAe : va_A [(ro, .inr (6, [.int 4, .int 5, .ref ca, .int 1])), (ca, .inl (cc0, 20, .inl ff))] s.heap.size = A at hD ⊢
  have hA : ∀ q : Nat, s.heap.size ≤ q → A q := fun q h => by rw [← hAe]; exact Or.inr h
  have hS : va_S A s.heap s.heap [] := va_S.rf
  have hP : va_P (dC, dI) vwCl [(ro, .inr (6, [.int 4, .int 5, .ref ca, .int 1])), (ca, .inl (cc0, 20, .inl ff))] s.heap := hP
  have hl := lv_entry ([.ref ro, .int 0, .int 2, .int nv]) (n := 4) (Nat.le_of_ble_eq_true rfl)
  rw [lg_entry_eq]
  generalize (lg_sl ([.ref ro, .int 0, .int 2, .int nv]) ++ List.replicate (4 - (lg_sl ([.ref ro, .int 0, .int 2, .int nv])).length) Slot.unset).toArray = ls at hl ⊢
  have hl : lv_has ls 4 [(0, .ref ro), (1, .int 0), (2, .int 2), (3, .int nv)] := hl
  refine lv_aload_n hx hb dX6_put_0 rfl (lv_at hl 0 rfl) ?_
  refine lv_iload_n hx hb dX6_put_1 rfl (lv_at hl 1 rfl) ?_
  refine lv_iload_n hx hb dX6_put_2 rfl (lv_at hl 2 rfl) ?_
  have hPc_1 := hP.sub (ws' := [(ro, .inr (6, [.int 4, .int 5, .ref ca, .int 1])), (ca, .inl (cc0, 20, .inl ff))]) [0, 1] rfl
  have hKc_2 := hK.sub (tys' := [(cc0, .int)]) [0] rfl
  refine vp_callSi (va_Run.run (va_runV (As := [.int 0, .int 2]) (rest := []) ⟨hx, hb, hml, hown, hts⟩ (k_hasCell_20_2 l dC dI ro ca cc0 ff) (cwV 2 hts gX6_put_X6_hasCell rfl rfl rfl (by decide +kernel) ⟨Nat.le_of_ble_eq_true rfl, Nat.le_of_ble_eq_true rfl⟩) ⟨fun a U g mk q => by obtain ⟨q0, qP, qK⟩ := q; exact ⟨q0, qP, va_K.moved (u := U) (U := U.calling g mk a) (Vm.Alike.refl U.vm) qK⟩, va_recv hK hP (ci := 6) (q0 := 0) rfl rfl, fun U hU hW => ⟨rfl, by rw [hU]; exact hPc_1, va_K.moved hW.alike hKc_2⟩⟩ rfl rfl hl.1 rfl (lv_room (Nat.le_of_ble_eq_true rfl)) dX6_put_3 ⟨Nat.le_of_ble_eq_true rfl, Nat.le_of_ble_eq_true rfl⟩)) (fun r_3 hw_4 => ?_)
  obtain rfl : 1 = r_3 := hw_4.symm
  refine lv_if_eq (tgt := 23) hx hb dX6_put_6 (by decide) (fun c_5 => ?_) (fun c_5 => ?_)
  · exact absurd c_5 (by decide)
  · refine lv_aload_n hx hb dX6_put_9 rfl (lv_at hl 0 rfl) ?_
    refine va_get (D := (dC, dI)) (ci := 6) (v := .ref ca) (C := RX6) (T := TX6) (N := 4) hx hb hts iw_k_put_20_2_X6 hown hK hP 0 rfl rfl 2 (by decide) (hts (.fieldLink RX6 27 "ThriceCounted$Rows" "cells" "[I") (by decide +kernel)) (fun _ h9 => h9) rfl dX6_put_10 ?_
    refine lv_iload_n hx hb dX6_put_13 rfl (lv_at hl 1 rfl) ?_
    refine lv_aload_n hx hb dX6_put_14 rfl (lv_at hl 0 rfl) ?_
    refine va_get (D := (dC, dI)) (ci := 6) (v := .int 4) (C := RX6) (T := TX6) (N := 4) hx hb hts iw_k_put_20_2_X6 hown hK hP 0 rfl rfl 0 (by decide) (hts (.fieldLink RX6 24 "ThriceCounted$Rows" "width" "I") (by decide +kernel)) (fun _ h9 => h9) rfl dX6_put_15 ?_
    refine lv_imul hx hb dX6_put_18 ?_
    refine tz_i 0 (by decide) ?_
    refine lv_iload_n hx hb dX6_put_19 rfl (lv_at hl 2 rfl) ?_
    refine lv_iadd hx hb dX6_put_20 ?_
    refine tz_i 2 (by decide) ?_
    refine lv_iload_n hx hb dX6_put_21 rfl (lv_at hl 3 rfl) ?_
    refine va_iast hx hb hK hP hD hS 1 0 rfl rfl (show ¬ ((2 : Int32) < 0 ∨ 20 ≤ (2 : Int32).toNatClampNeg) by decide) dX6_put_22 (fun H locs hP hD hS => ?_)
    generalize (upd ff (Int32.toNatClampNeg 2) nv) = f_6 at hP hD
    have hP : va_P (dC, dI) vwCl [(ro, .inr (6, [.int 4, .int 5, .ref ca, .int 1])), (ca, .inl (cc0, 20, .inl f_6))] H := hP
    have hD : va_D A [(ro, .inr (6, [.int 4, .int 5, .ref ca, .int 1])), (ca, .inl (cc0, 20, .inl f_6))] := hD
    have hP9 := hP.sub (ws' := [(ro, .inr (6, [.int 4, .int 5, .ref ca, .int 1])), (ca, .inl (cc0, 20, .inl f_6))]) [0, 1] rfl
    have hD9 := hD.sub (ws' := [(ro, .inr (6, [.int 4, .int 5, .ref ca, .int 1])), (ca, .inl (cc0, 20, .inl f_6))]) [0, 1] (by decide) rfl
    have hK9 := hK.sub (tys' := [(cc0, .int)]) [0] rfl
    exact W.vret hx hb hr (fun t ht hW => ⟨⟨(), rfl, trivial, f_6, by rw [ht]; exact hP9, va_K.moved hW.alike hK9, hD9⟩, hS.F ht⟩) hS.2.2 dX6_put_23
set_option maxRecDepth 20000 in
theorem iw_k_hasCell_20_3_X6 : ∀ w ∈ wsX60, w ∈ wsX6_hasCell := by decide +kernel
set_option maxHeartbeats 4000000 in
set_option maxRecDepth 100000 in
theorem k_hasCell_20_3 (l : Launch) (dC : Nat → ClassId) (dI : Nat → Nat → Nat) (ro : Nat) (ca : Nat) (cc0 : ClassId) (ff : Nat → Int32) : Met l yX6_hasCell wsX6_hasCell ({ frames := 0, cells := 0, slots := 0, locals := 0 }) (va_Pc [.ref ro, .int 0, .int 3] (fun U => va_P (dC, dI) vwCl [(ro, .inr (6, [.int 4, .int 5, .ref ca, .int 1])), (ca, .inl (cc0, 20, .inl ff))] U.heap ∧ va_K (dC, dI) vwCl [(cc0, .int)] U)) (vp_Si (fun r => r = 1)) 0 0 (fun _ => False) := by
  refine Met.ofW (cc := cX6_hasCell) (maxL := 3) (ret := (some .boolean)) (by decide) rfl ?_
  intro p e s m args below meth c s₁ B hml hv
  obtain ⟨rfl, hP, hK⟩ := hv
  have hx := B.exec
  have hb := B.bytes
  have hr := B.returns
  have hts := atoms_spec (ws := wsX6_hasCell) B.pre
  have hown : s.vm.findClass RX6 = some m.cls := findClass_of_methodNamed B.named
  have hlocks := B.notSynchronized
  have hl := lv_entry ([.ref ro, .int 0, .int 3]) (n := 3) (Nat.le_of_ble_eq_true rfl)
  rw [lg_entry_eq]
  generalize (lg_sl ([.ref ro, .int 0, .int 3]) ++ List.replicate (3 - (lg_sl ([.ref ro, .int 0, .int 3])).length) Slot.unset).toArray = ls at hl ⊢
  have hl : lv_has ls 3 [(0, .ref ro), (1, .int 0), (2, .int 3)] := hl
  refine lv_iload_n hx hb dX6_hasCell_0 rfl (lv_at hl 1 rfl) ?_
  refine lv_if_lt (tgt := 44) hx hb dX6_hasCell_1 (by decide) (fun c_1 => ?_) (fun c_1 => ?_)
  · exact absurd c_1 (by decide)
  · refine lv_iload_n hx hb dX6_hasCell_4 rfl (lv_at hl 1 rfl) ?_
    refine lv_aload_n hx hb dX6_hasCell_5 rfl (lv_at hl 0 rfl) ?_
    refine va_get (D := (dC, dI)) (ci := 6) (v := .int 1) (C := RX6) (T := TX6) (N := 4) hx hb hts iw_k_hasCell_20_3_X6 hown hK hP 0 rfl rfl 3 (by decide) (hts (.fieldLink RX6 9 "ThriceCounted$Rows" "size" "I") (by decide +kernel)) (fun _ h9 => h9) rfl dX6_hasCell_6 ?_
    refine lv_icmp_ge (tgt := 44) hx hb dX6_hasCell_9 (by decide) (fun c_2 => ?_) (fun c_2 => ?_)
    · exact absurd c_2 (by decide)
    · refine lv_iload_n hx hb dX6_hasCell_12 rfl (lv_at hl 2 rfl) ?_
      refine lv_if_lt (tgt := 44) hx hb dX6_hasCell_13 (by decide) (fun c_3 => ?_) (fun c_3 => ?_)
      · exact absurd c_3 (by decide)
      · refine lv_iload_n hx hb dX6_hasCell_16 rfl (lv_at hl 2 rfl) ?_
        refine lv_aload_n hx hb dX6_hasCell_17 rfl (lv_at hl 0 rfl) ?_
        refine va_get (D := (dC, dI)) (ci := 6) (v := .int 4) (C := RX6) (T := TX6) (N := 4) hx hb hts iw_k_hasCell_20_3_X6 hown hK hP 0 rfl rfl 0 (by decide) (hts (.fieldLink RX6 24 "ThriceCounted$Rows" "width" "I") (by decide +kernel)) (fun _ h9 => h9) rfl dX6_hasCell_18 ?_
        refine lv_icmp_ge (tgt := 44) hx hb dX6_hasCell_21 (by decide) (fun c_4 => ?_) (fun c_4 => ?_)
        · exact absurd c_4 (by decide)
        · refine lv_iload_n hx hb dX6_hasCell_24 rfl (lv_at hl 1 rfl) ?_
          refine lv_aload_n hx hb dX6_hasCell_25 rfl (lv_at hl 0 rfl) ?_
          refine va_get (D := (dC, dI)) (ci := 6) (v := .int 4) (C := RX6) (T := TX6) (N := 4) hx hb hts iw_k_hasCell_20_3_X6 hown hK hP 0 rfl rfl 0 (by decide) (hts (.fieldLink RX6 24 "ThriceCounted$Rows" "width" "I") (by decide +kernel)) (fun _ h9 => h9) rfl dX6_hasCell_26 ?_
          refine lv_imul hx hb dX6_hasCell_29 ?_
          refine tz_i 0 (by decide) ?_
          refine lv_iload_n hx hb dX6_hasCell_30 rfl (lv_at hl 2 rfl) ?_
          refine lv_iadd hx hb dX6_hasCell_31 ?_
          refine tz_i 3 (by decide) ?_
          refine lv_aload_n hx hb dX6_hasCell_32 rfl (lv_at hl 0 rfl) ?_
          refine va_get (D := (dC, dI)) (ci := 6) (v := .ref ca) (C := RX6) (T := TX6) (N := 4) hx hb hts iw_k_hasCell_20_3_X6 hown hK hP 0 rfl rfl 2 (by decide) (hts (.fieldLink RX6 27 "ThriceCounted$Rows" "cells" "[I") (by decide +kernel)) (fun _ h9 => h9) rfl dX6_hasCell_33 ?_
          refine va_alen (v := 20) hx hb hK hP 1 0 rfl rfl rfl dX6_hasCell_36 ?_
          refine lv_icmp_ge (tgt := 44) hx hb dX6_hasCell_37 (by decide) (fun c_5 => ?_) (fun c_5 => ?_)
          · exact absurd c_5 (by decide)
          · refine lv_iconst (v := 1) hx hb dX6_hasCell_40 (by decide) ?_
            refine lv_goto (tgt := 45) hx hb dX6_hasCell_41 (by decide) ?_
            exact W.zret (v := 1) hx hb hr (by decide) (fun t ht hW => ⟨1, rfl, rfl, ht⟩) (fun _ h => absurd h List.not_mem_nil) dX6_hasCell_45
set_option maxRecDepth 20000 in
theorem iw_k_put_20_3_X6 : ∀ w ∈ wsX60, w ∈ wsX6_put := by decide +kernel
set_option maxHeartbeats 4000000 in
set_option maxRecDepth 100000 in
theorem k_put_20_3 (l : Launch) (dC : Nat → ClassId) (dI : Nat → Nat → Nat) (ro : Nat) (ca : Nat) (cc0 : ClassId) (ff : Nat → Int32) (nv : Int32) (sz : Nat) : Met l yX6_put wsX6_put ({ frames := 1, cells := 0, slots := 0, locals := 22 }) (va_Pc [.ref ro, .int 0, .int 3, .int nv] (fun U => U.heap.size = sz ∧ va_P (dC, dI) vwCl [(ro, .inr (6, [.int 4, .int 5, .ref ca, .int 1])), (ca, .inl (cc0, 20, .inl ff))] U.heap ∧ va_K (dC, dI) vwCl [(cc0, .int)] U ∧ va_D (fun _ => True) [(ro, .inr (6, [.int 4, .int 5, .ref ca, .int 1])), (ca, .inl (cc0, 20, .inl ff))])) (va_Qv (fun (_ : Unit) => True) (fun _ t => ∃ (fg : Nat → Int32), va_P (dC, dI) vwCl [(ro, .inr (6, [.int 4, .int 5, .ref ca, .int 1])), (ca, .inl (cc0, 20, .inl fg))] t.heap ∧ va_K (dC, dI) vwCl [(cc0, .int)] t ∧ va_D (va_A [(ro, .inr (6, [.int 4, .int 5, .ref ca, .int 1])), (ca, .inl (cc0, 20, .inl ff))] sz) [(ro, .inr (6, [.int 4, .int 5, .ref ca, .int 1])), (ca, .inl (cc0, 20, .inl fg))]) (va_A [(ro, .inr (6, [.int 4, .int 5, .ref ca, .int 1])), (ca, .inl (cc0, 20, .inl ff))] sz)) 0 0 (va_A [(ro, .inr (6, [.int 4, .int 5, .ref ca, .int 1])), (ca, .inl (cc0, 20, .inl ff))] sz) := by
  refine Met.ofW (cc := cX6_put) (maxL := 4) (ret := none) (by decide) rfl ?_
  intro p e s m args below meth c s₁ B hml hv
  obtain ⟨rfl, hsz, hP, hK, hD0⟩ := hv
  have hx := B.exec
  have hb := B.bytes
  have hr := B.returns
  have hts := atoms_spec (ws := wsX6_put) B.pre
  have hown : s.vm.findClass RX6 = some m.cls := findClass_of_methodNamed B.named
  have hlocks := B.notSynchronized
  subst hsz
  have hD := hD0.self (sz := s.heap.size)
  generalize hAe : va_A [(ro, .inr (6, [.int 4, .int 5, .ref ca, .int 1])), (ca, .inl (cc0, 20, .inl ff))] s.heap.size = A at hD ⊢
  have hA : ∀ q : Nat, s.heap.size ≤ q → A q := fun q h => by rw [← hAe]; exact Or.inr h
  have hS : va_S A s.heap s.heap [] := va_S.rf
  have hP : va_P (dC, dI) vwCl [(ro, .inr (6, [.int 4, .int 5, .ref ca, .int 1])), (ca, .inl (cc0, 20, .inl ff))] s.heap := hP
  have hl := lv_entry ([.ref ro, .int 0, .int 3, .int nv]) (n := 4) (Nat.le_of_ble_eq_true rfl)
  rw [lg_entry_eq]
  generalize (lg_sl ([.ref ro, .int 0, .int 3, .int nv]) ++ List.replicate (4 - (lg_sl ([.ref ro, .int 0, .int 3, .int nv])).length) Slot.unset).toArray = ls at hl ⊢
  have hl : lv_has ls 4 [(0, .ref ro), (1, .int 0), (2, .int 3), (3, .int nv)] := hl
  refine lv_aload_n hx hb dX6_put_0 rfl (lv_at hl 0 rfl) ?_
  refine lv_iload_n hx hb dX6_put_1 rfl (lv_at hl 1 rfl) ?_
  refine lv_iload_n hx hb dX6_put_2 rfl (lv_at hl 2 rfl) ?_
  have hPc_1 := hP.sub (ws' := [(ro, .inr (6, [.int 4, .int 5, .ref ca, .int 1])), (ca, .inl (cc0, 20, .inl ff))]) [0, 1] rfl
  have hKc_2 := hK.sub (tys' := [(cc0, .int)]) [0] rfl
  refine vp_callSi (va_Run.run (va_runV (As := [.int 0, .int 3]) (rest := []) ⟨hx, hb, hml, hown, hts⟩ (k_hasCell_20_3 l dC dI ro ca cc0 ff) (cwV 2 hts gX6_put_X6_hasCell rfl rfl rfl (by decide +kernel) ⟨Nat.le_of_ble_eq_true rfl, Nat.le_of_ble_eq_true rfl⟩) ⟨fun a U g mk q => by obtain ⟨q0, qP, qK⟩ := q; exact ⟨q0, qP, va_K.moved (u := U) (U := U.calling g mk a) (Vm.Alike.refl U.vm) qK⟩, va_recv hK hP (ci := 6) (q0 := 0) rfl rfl, fun U hU hW => ⟨rfl, by rw [hU]; exact hPc_1, va_K.moved hW.alike hKc_2⟩⟩ rfl rfl hl.1 rfl (lv_room (Nat.le_of_ble_eq_true rfl)) dX6_put_3 ⟨Nat.le_of_ble_eq_true rfl, Nat.le_of_ble_eq_true rfl⟩)) (fun r_3 hw_4 => ?_)
  obtain rfl : 1 = r_3 := hw_4.symm
  refine lv_if_eq (tgt := 23) hx hb dX6_put_6 (by decide) (fun c_5 => ?_) (fun c_5 => ?_)
  · exact absurd c_5 (by decide)
  · refine lv_aload_n hx hb dX6_put_9 rfl (lv_at hl 0 rfl) ?_
    refine va_get (D := (dC, dI)) (ci := 6) (v := .ref ca) (C := RX6) (T := TX6) (N := 4) hx hb hts iw_k_put_20_3_X6 hown hK hP 0 rfl rfl 2 (by decide) (hts (.fieldLink RX6 27 "ThriceCounted$Rows" "cells" "[I") (by decide +kernel)) (fun _ h9 => h9) rfl dX6_put_10 ?_
    refine lv_iload_n hx hb dX6_put_13 rfl (lv_at hl 1 rfl) ?_
    refine lv_aload_n hx hb dX6_put_14 rfl (lv_at hl 0 rfl) ?_
    refine va_get (D := (dC, dI)) (ci := 6) (v := .int 4) (C := RX6) (T := TX6) (N := 4) hx hb hts iw_k_put_20_3_X6 hown hK hP 0 rfl rfl 0 (by decide) (hts (.fieldLink RX6 24 "ThriceCounted$Rows" "width" "I") (by decide +kernel)) (fun _ h9 => h9) rfl dX6_put_15 ?_
    refine lv_imul hx hb dX6_put_18 ?_
    refine tz_i 0 (by decide) ?_
    refine lv_iload_n hx hb dX6_put_19 rfl (lv_at hl 2 rfl) ?_
    refine lv_iadd hx hb dX6_put_20 ?_
    refine tz_i 3 (by decide) ?_
    refine lv_iload_n hx hb dX6_put_21 rfl (lv_at hl 3 rfl) ?_
    refine va_iast hx hb hK hP hD hS 1 0 rfl rfl (show ¬ ((3 : Int32) < 0 ∨ 20 ≤ (3 : Int32).toNatClampNeg) by decide) dX6_put_22 (fun H locs hP hD hS => ?_)
    generalize (upd ff (Int32.toNatClampNeg 3) nv) = f_6 at hP hD
    have hP : va_P (dC, dI) vwCl [(ro, .inr (6, [.int 4, .int 5, .ref ca, .int 1])), (ca, .inl (cc0, 20, .inl f_6))] H := hP
    have hD : va_D A [(ro, .inr (6, [.int 4, .int 5, .ref ca, .int 1])), (ca, .inl (cc0, 20, .inl f_6))] := hD
    have hP9 := hP.sub (ws' := [(ro, .inr (6, [.int 4, .int 5, .ref ca, .int 1])), (ca, .inl (cc0, 20, .inl f_6))]) [0, 1] rfl
    have hD9 := hD.sub (ws' := [(ro, .inr (6, [.int 4, .int 5, .ref ca, .int 1])), (ca, .inl (cc0, 20, .inl f_6))]) [0, 1] (by decide) rfl
    have hK9 := hK.sub (tys' := [(cc0, .int)]) [0] rfl
    exact W.vret hx hb hr (fun t ht hW => ⟨⟨(), rfl, trivial, f_6, by rw [ht]; exact hP9, va_K.moved hW.alike hK9, hD9⟩, hS.F ht⟩) hS.2.2 dX6_put_23
set_option maxRecDepth 20000 in
theorem iw_k_hasCell_24_0_X6 : ∀ w ∈ wsX60, w ∈ wsX6_hasCell := by decide +kernel
set_option maxHeartbeats 4000000 in
set_option maxRecDepth 100000 in
theorem k_hasCell_24_0 (l : Launch) (dC : Nat → ClassId) (dI : Nat → Nat → Nat) (ro : Nat) (ca : Nat) (cc0 : ClassId) (ff : Nat → Int32) : Met l yX6_hasCell wsX6_hasCell ({ frames := 0, cells := 0, slots := 0, locals := 0 }) (va_Pc [.ref ro, .int 0, .int 0] (fun U => va_P (dC, dI) vwCl [(ro, .inr (6, [.int 4, .int 6, .ref ca, .int 1])), (ca, .inl (cc0, 24, .inl ff))] U.heap ∧ va_K (dC, dI) vwCl [(cc0, .int)] U)) (vp_Si (fun r => r = 1)) 0 0 (fun _ => False) := by
  refine Met.ofW (cc := cX6_hasCell) (maxL := 3) (ret := (some .boolean)) (by decide) rfl ?_
  intro p e s m args below meth c s₁ B hml hv
  obtain ⟨rfl, hP, hK⟩ := hv
  have hx := B.exec
  have hb := B.bytes
  have hr := B.returns
  have hts := atoms_spec (ws := wsX6_hasCell) B.pre
  have hown : s.vm.findClass RX6 = some m.cls := findClass_of_methodNamed B.named
  have hlocks := B.notSynchronized
  have hl := lv_entry ([.ref ro, .int 0, .int 0]) (n := 3) (Nat.le_of_ble_eq_true rfl)
  rw [lg_entry_eq]
  generalize (lg_sl ([.ref ro, .int 0, .int 0]) ++ List.replicate (3 - (lg_sl ([.ref ro, .int 0, .int 0])).length) Slot.unset).toArray = ls at hl ⊢
  have hl : lv_has ls 3 [(0, .ref ro), (1, .int 0), (2, .int 0)] := hl
  refine lv_iload_n hx hb dX6_hasCell_0 rfl (lv_at hl 1 rfl) ?_
  refine lv_if_lt (tgt := 44) hx hb dX6_hasCell_1 (by decide) (fun c_1 => ?_) (fun c_1 => ?_)
  · exact absurd c_1 (by decide)
  · refine lv_iload_n hx hb dX6_hasCell_4 rfl (lv_at hl 1 rfl) ?_
    refine lv_aload_n hx hb dX6_hasCell_5 rfl (lv_at hl 0 rfl) ?_
    refine va_get (D := (dC, dI)) (ci := 6) (v := .int 1) (C := RX6) (T := TX6) (N := 4) hx hb hts iw_k_hasCell_24_0_X6 hown hK hP 0 rfl rfl 3 (by decide) (hts (.fieldLink RX6 9 "ThriceCounted$Rows" "size" "I") (by decide +kernel)) (fun _ h9 => h9) rfl dX6_hasCell_6 ?_
    refine lv_icmp_ge (tgt := 44) hx hb dX6_hasCell_9 (by decide) (fun c_2 => ?_) (fun c_2 => ?_)
    · exact absurd c_2 (by decide)
    · refine lv_iload_n hx hb dX6_hasCell_12 rfl (lv_at hl 2 rfl) ?_
      refine lv_if_lt (tgt := 44) hx hb dX6_hasCell_13 (by decide) (fun c_3 => ?_) (fun c_3 => ?_)
      · exact absurd c_3 (by decide)
      · refine lv_iload_n hx hb dX6_hasCell_16 rfl (lv_at hl 2 rfl) ?_
        refine lv_aload_n hx hb dX6_hasCell_17 rfl (lv_at hl 0 rfl) ?_
        refine va_get (D := (dC, dI)) (ci := 6) (v := .int 4) (C := RX6) (T := TX6) (N := 4) hx hb hts iw_k_hasCell_24_0_X6 hown hK hP 0 rfl rfl 0 (by decide) (hts (.fieldLink RX6 24 "ThriceCounted$Rows" "width" "I") (by decide +kernel)) (fun _ h9 => h9) rfl dX6_hasCell_18 ?_
        refine lv_icmp_ge (tgt := 44) hx hb dX6_hasCell_21 (by decide) (fun c_4 => ?_) (fun c_4 => ?_)
        · exact absurd c_4 (by decide)
        · refine lv_iload_n hx hb dX6_hasCell_24 rfl (lv_at hl 1 rfl) ?_
          refine lv_aload_n hx hb dX6_hasCell_25 rfl (lv_at hl 0 rfl) ?_
          refine va_get (D := (dC, dI)) (ci := 6) (v := .int 4) (C := RX6) (T := TX6) (N := 4) hx hb hts iw_k_hasCell_24_0_X6 hown hK hP 0 rfl rfl 0 (by decide) (hts (.fieldLink RX6 24 "ThriceCounted$Rows" "width" "I") (by decide +kernel)) (fun _ h9 => h9) rfl dX6_hasCell_26 ?_
          refine lv_imul hx hb dX6_hasCell_29 ?_
          refine tz_i 0 (by decide) ?_
          refine lv_iload_n hx hb dX6_hasCell_30 rfl (lv_at hl 2 rfl) ?_
          refine lv_iadd hx hb dX6_hasCell_31 ?_
          refine tz_i 0 (by decide) ?_
          refine lv_aload_n hx hb dX6_hasCell_32 rfl (lv_at hl 0 rfl) ?_
          refine va_get (D := (dC, dI)) (ci := 6) (v := .ref ca) (C := RX6) (T := TX6) (N := 4) hx hb hts iw_k_hasCell_24_0_X6 hown hK hP 0 rfl rfl 2 (by decide) (hts (.fieldLink RX6 27 "ThriceCounted$Rows" "cells" "[I") (by decide +kernel)) (fun _ h9 => h9) rfl dX6_hasCell_33 ?_
          refine va_alen (v := 24) hx hb hK hP 1 0 rfl rfl rfl dX6_hasCell_36 ?_
          refine lv_icmp_ge (tgt := 44) hx hb dX6_hasCell_37 (by decide) (fun c_5 => ?_) (fun c_5 => ?_)
          · exact absurd c_5 (by decide)
          · refine lv_iconst (v := 1) hx hb dX6_hasCell_40 (by decide) ?_
            refine lv_goto (tgt := 45) hx hb dX6_hasCell_41 (by decide) ?_
            exact W.zret (v := 1) hx hb hr (by decide) (fun t ht hW => ⟨1, rfl, rfl, ht⟩) (fun _ h => absurd h List.not_mem_nil) dX6_hasCell_45
set_option maxRecDepth 20000 in
theorem iw_k_put_24_0_X6 : ∀ w ∈ wsX60, w ∈ wsX6_put := by decide +kernel
set_option maxHeartbeats 4000000 in
set_option maxRecDepth 100000 in
theorem k_put_24_0 (l : Launch) (dC : Nat → ClassId) (dI : Nat → Nat → Nat) (ro : Nat) (ca : Nat) (cc0 : ClassId) (ff : Nat → Int32) (nv : Int32) (sz : Nat) : Met l yX6_put wsX6_put ({ frames := 1, cells := 0, slots := 0, locals := 22 }) (va_Pc [.ref ro, .int 0, .int 0, .int nv] (fun U => U.heap.size = sz ∧ va_P (dC, dI) vwCl [(ro, .inr (6, [.int 4, .int 6, .ref ca, .int 1])), (ca, .inl (cc0, 24, .inl ff))] U.heap ∧ va_K (dC, dI) vwCl [(cc0, .int)] U ∧ va_D (fun _ => True) [(ro, .inr (6, [.int 4, .int 6, .ref ca, .int 1])), (ca, .inl (cc0, 24, .inl ff))])) (va_Qv (fun (_ : Unit) => True) (fun _ t => ∃ (fg : Nat → Int32), va_P (dC, dI) vwCl [(ro, .inr (6, [.int 4, .int 6, .ref ca, .int 1])), (ca, .inl (cc0, 24, .inl fg))] t.heap ∧ va_K (dC, dI) vwCl [(cc0, .int)] t ∧ va_D (va_A [(ro, .inr (6, [.int 4, .int 6, .ref ca, .int 1])), (ca, .inl (cc0, 24, .inl ff))] sz) [(ro, .inr (6, [.int 4, .int 6, .ref ca, .int 1])), (ca, .inl (cc0, 24, .inl fg))]) (va_A [(ro, .inr (6, [.int 4, .int 6, .ref ca, .int 1])), (ca, .inl (cc0, 24, .inl ff))] sz)) 0 0 (va_A [(ro, .inr (6, [.int 4, .int 6, .ref ca, .int 1])), (ca, .inl (cc0, 24, .inl ff))] sz) := by
  refine Met.ofW (cc := cX6_put) (maxL := 4) (ret := none) (by decide) rfl ?_
  intro p e s m args below meth c s₁ B hml hv
  obtain ⟨rfl, hsz, hP, hK, hD0⟩ := hv
  have hx := B.exec
  have hb := B.bytes
  have hr := B.returns
  have hts := atoms_spec (ws := wsX6_put) B.pre
  have hown : s.vm.findClass RX6 = some m.cls := findClass_of_methodNamed B.named
  have hlocks := B.notSynchronized
  subst hsz
  have hD := hD0.self (sz := s.heap.size)
  generalize hAe : va_A [(ro, .inr (6, [.int 4, .int 6, .ref ca, .int 1])), (ca, .inl (cc0, 24, .inl ff))] s.heap.size = A at hD ⊢
  have hA : ∀ q : Nat, s.heap.size ≤ q → A q := fun q h => by rw [← hAe]; exact Or.inr h
  have hS : va_S A s.heap s.heap [] := va_S.rf
  have hP : va_P (dC, dI) vwCl [(ro, .inr (6, [.int 4, .int 6, .ref ca, .int 1])), (ca, .inl (cc0, 24, .inl ff))] s.heap := hP
  have hl := lv_entry ([.ref ro, .int 0, .int 0, .int nv]) (n := 4) (Nat.le_of_ble_eq_true rfl)
  rw [lg_entry_eq]
  generalize (lg_sl ([.ref ro, .int 0, .int 0, .int nv]) ++ List.replicate (4 - (lg_sl ([.ref ro, .int 0, .int 0, .int nv])).length) Slot.unset).toArray = ls at hl ⊢
  have hl : lv_has ls 4 [(0, .ref ro), (1, .int 0), (2, .int 0), (3, .int nv)] := hl
  refine lv_aload_n hx hb dX6_put_0 rfl (lv_at hl 0 rfl) ?_
  refine lv_iload_n hx hb dX6_put_1 rfl (lv_at hl 1 rfl) ?_
  refine lv_iload_n hx hb dX6_put_2 rfl (lv_at hl 2 rfl) ?_
  have hPc_1 := hP.sub (ws' := [(ro, .inr (6, [.int 4, .int 6, .ref ca, .int 1])), (ca, .inl (cc0, 24, .inl ff))]) [0, 1] rfl
  have hKc_2 := hK.sub (tys' := [(cc0, .int)]) [0] rfl
  refine vp_callSi (va_Run.run (va_runV (As := [.int 0, .int 0]) (rest := []) ⟨hx, hb, hml, hown, hts⟩ (k_hasCell_24_0 l dC dI ro ca cc0 ff) (cwV 2 hts gX6_put_X6_hasCell rfl rfl rfl (by decide +kernel) ⟨Nat.le_of_ble_eq_true rfl, Nat.le_of_ble_eq_true rfl⟩) ⟨fun a U g mk q => by obtain ⟨q0, qP, qK⟩ := q; exact ⟨q0, qP, va_K.moved (u := U) (U := U.calling g mk a) (Vm.Alike.refl U.vm) qK⟩, va_recv hK hP (ci := 6) (q0 := 0) rfl rfl, fun U hU hW => ⟨rfl, by rw [hU]; exact hPc_1, va_K.moved hW.alike hKc_2⟩⟩ rfl rfl hl.1 rfl (lv_room (Nat.le_of_ble_eq_true rfl)) dX6_put_3 ⟨Nat.le_of_ble_eq_true rfl, Nat.le_of_ble_eq_true rfl⟩)) (fun r_3 hw_4 => ?_)
  obtain rfl : 1 = r_3 := hw_4.symm
  refine lv_if_eq (tgt := 23) hx hb dX6_put_6 (by decide) (fun c_5 => ?_) (fun c_5 => ?_)
  · exact absurd c_5 (by decide)
  · refine lv_aload_n hx hb dX6_put_9 rfl (lv_at hl 0 rfl) ?_
    refine va_get (D := (dC, dI)) (ci := 6) (v := .ref ca) (C := RX6) (T := TX6) (N := 4) hx hb hts iw_k_put_24_0_X6 hown hK hP 0 rfl rfl 2 (by decide) (hts (.fieldLink RX6 27 "ThriceCounted$Rows" "cells" "[I") (by decide +kernel)) (fun _ h9 => h9) rfl dX6_put_10 ?_
    refine lv_iload_n hx hb dX6_put_13 rfl (lv_at hl 1 rfl) ?_
    refine lv_aload_n hx hb dX6_put_14 rfl (lv_at hl 0 rfl) ?_
    refine va_get (D := (dC, dI)) (ci := 6) (v := .int 4) (C := RX6) (T := TX6) (N := 4) hx hb hts iw_k_put_24_0_X6 hown hK hP 0 rfl rfl 0 (by decide) (hts (.fieldLink RX6 24 "ThriceCounted$Rows" "width" "I") (by decide +kernel)) (fun _ h9 => h9) rfl dX6_put_15 ?_
    refine lv_imul hx hb dX6_put_18 ?_
    refine tz_i 0 (by decide) ?_
    refine lv_iload_n hx hb dX6_put_19 rfl (lv_at hl 2 rfl) ?_
    refine lv_iadd hx hb dX6_put_20 ?_
    refine tz_i 0 (by decide) ?_
    refine lv_iload_n hx hb dX6_put_21 rfl (lv_at hl 3 rfl) ?_
    refine va_iast hx hb hK hP hD hS 1 0 rfl rfl (show ¬ ((0 : Int32) < 0 ∨ 24 ≤ (0 : Int32).toNatClampNeg) by decide) dX6_put_22 (fun H locs hP hD hS => ?_)
    generalize (upd ff (Int32.toNatClampNeg 0) nv) = f_6 at hP hD
    have hP : va_P (dC, dI) vwCl [(ro, .inr (6, [.int 4, .int 6, .ref ca, .int 1])), (ca, .inl (cc0, 24, .inl f_6))] H := hP
    have hD : va_D A [(ro, .inr (6, [.int 4, .int 6, .ref ca, .int 1])), (ca, .inl (cc0, 24, .inl f_6))] := hD
    have hP9 := hP.sub (ws' := [(ro, .inr (6, [.int 4, .int 6, .ref ca, .int 1])), (ca, .inl (cc0, 24, .inl f_6))]) [0, 1] rfl
    have hD9 := hD.sub (ws' := [(ro, .inr (6, [.int 4, .int 6, .ref ca, .int 1])), (ca, .inl (cc0, 24, .inl f_6))]) [0, 1] (by decide) rfl
    have hK9 := hK.sub (tys' := [(cc0, .int)]) [0] rfl
    exact W.vret hx hb hr (fun t ht hW => ⟨⟨(), rfl, trivial, f_6, by rw [ht]; exact hP9, va_K.moved hW.alike hK9, hD9⟩, hS.F ht⟩) hS.2.2 dX6_put_23
set_option maxRecDepth 20000 in
theorem iw_k_hasCell_24_1_X6 : ∀ w ∈ wsX60, w ∈ wsX6_hasCell := by decide +kernel
set_option maxHeartbeats 4000000 in
set_option maxRecDepth 100000 in
theorem k_hasCell_24_1 (l : Launch) (dC : Nat → ClassId) (dI : Nat → Nat → Nat) (ro : Nat) (ca : Nat) (cc0 : ClassId) (ff : Nat → Int32) : Met l yX6_hasCell wsX6_hasCell ({ frames := 0, cells := 0, slots := 0, locals := 0 }) (va_Pc [.ref ro, .int 0, .int 1] (fun U => va_P (dC, dI) vwCl [(ro, .inr (6, [.int 4, .int 6, .ref ca, .int 1])), (ca, .inl (cc0, 24, .inl ff))] U.heap ∧ va_K (dC, dI) vwCl [(cc0, .int)] U)) (vp_Si (fun r => r = 1)) 0 0 (fun _ => False) := by
  refine Met.ofW (cc := cX6_hasCell) (maxL := 3) (ret := (some .boolean)) (by decide) rfl ?_
  intro p e s m args below meth c s₁ B hml hv
  obtain ⟨rfl, hP, hK⟩ := hv
  have hx := B.exec
  have hb := B.bytes
  have hr := B.returns
  have hts := atoms_spec (ws := wsX6_hasCell) B.pre
  have hown : s.vm.findClass RX6 = some m.cls := findClass_of_methodNamed B.named
  have hlocks := B.notSynchronized
  have hl := lv_entry ([.ref ro, .int 0, .int 1]) (n := 3) (Nat.le_of_ble_eq_true rfl)
  rw [lg_entry_eq]
  generalize (lg_sl ([.ref ro, .int 0, .int 1]) ++ List.replicate (3 - (lg_sl ([.ref ro, .int 0, .int 1])).length) Slot.unset).toArray = ls at hl ⊢
  have hl : lv_has ls 3 [(0, .ref ro), (1, .int 0), (2, .int 1)] := hl
  refine lv_iload_n hx hb dX6_hasCell_0 rfl (lv_at hl 1 rfl) ?_
  refine lv_if_lt (tgt := 44) hx hb dX6_hasCell_1 (by decide) (fun c_1 => ?_) (fun c_1 => ?_)
  · exact absurd c_1 (by decide)
  · refine lv_iload_n hx hb dX6_hasCell_4 rfl (lv_at hl 1 rfl) ?_
    refine lv_aload_n hx hb dX6_hasCell_5 rfl (lv_at hl 0 rfl) ?_
    refine va_get (D := (dC, dI)) (ci := 6) (v := .int 1) (C := RX6) (T := TX6) (N := 4) hx hb hts iw_k_hasCell_24_1_X6 hown hK hP 0 rfl rfl 3 (by decide) (hts (.fieldLink RX6 9 "ThriceCounted$Rows" "size" "I") (by decide +kernel)) (fun _ h9 => h9) rfl dX6_hasCell_6 ?_
    refine lv_icmp_ge (tgt := 44) hx hb dX6_hasCell_9 (by decide) (fun c_2 => ?_) (fun c_2 => ?_)
    · exact absurd c_2 (by decide)
    · refine lv_iload_n hx hb dX6_hasCell_12 rfl (lv_at hl 2 rfl) ?_
      refine lv_if_lt (tgt := 44) hx hb dX6_hasCell_13 (by decide) (fun c_3 => ?_) (fun c_3 => ?_)
      · exact absurd c_3 (by decide)
      · refine lv_iload_n hx hb dX6_hasCell_16 rfl (lv_at hl 2 rfl) ?_
        refine lv_aload_n hx hb dX6_hasCell_17 rfl (lv_at hl 0 rfl) ?_
        refine va_get (D := (dC, dI)) (ci := 6) (v := .int 4) (C := RX6) (T := TX6) (N := 4) hx hb hts iw_k_hasCell_24_1_X6 hown hK hP 0 rfl rfl 0 (by decide) (hts (.fieldLink RX6 24 "ThriceCounted$Rows" "width" "I") (by decide +kernel)) (fun _ h9 => h9) rfl dX6_hasCell_18 ?_
        refine lv_icmp_ge (tgt := 44) hx hb dX6_hasCell_21 (by decide) (fun c_4 => ?_) (fun c_4 => ?_)
        · exact absurd c_4 (by decide)
        · refine lv_iload_n hx hb dX6_hasCell_24 rfl (lv_at hl 1 rfl) ?_
          refine lv_aload_n hx hb dX6_hasCell_25 rfl (lv_at hl 0 rfl) ?_
          refine va_get (D := (dC, dI)) (ci := 6) (v := .int 4) (C := RX6) (T := TX6) (N := 4) hx hb hts iw_k_hasCell_24_1_X6 hown hK hP 0 rfl rfl 0 (by decide) (hts (.fieldLink RX6 24 "ThriceCounted$Rows" "width" "I") (by decide +kernel)) (fun _ h9 => h9) rfl dX6_hasCell_26 ?_
          refine lv_imul hx hb dX6_hasCell_29 ?_
          refine tz_i 0 (by decide) ?_
          refine lv_iload_n hx hb dX6_hasCell_30 rfl (lv_at hl 2 rfl) ?_
          refine lv_iadd hx hb dX6_hasCell_31 ?_
          refine tz_i 1 (by decide) ?_
          refine lv_aload_n hx hb dX6_hasCell_32 rfl (lv_at hl 0 rfl) ?_
          refine va_get (D := (dC, dI)) (ci := 6) (v := .ref ca) (C := RX6) (T := TX6) (N := 4) hx hb hts iw_k_hasCell_24_1_X6 hown hK hP 0 rfl rfl 2 (by decide) (hts (.fieldLink RX6 27 "ThriceCounted$Rows" "cells" "[I") (by decide +kernel)) (fun _ h9 => h9) rfl dX6_hasCell_33 ?_
          refine va_alen (v := 24) hx hb hK hP 1 0 rfl rfl rfl dX6_hasCell_36 ?_
          refine lv_icmp_ge (tgt := 44) hx hb dX6_hasCell_37 (by decide) (fun c_5 => ?_) (fun c_5 => ?_)
          · exact absurd c_5 (by decide)
          · refine lv_iconst (v := 1) hx hb dX6_hasCell_40 (by decide) ?_
            refine lv_goto (tgt := 45) hx hb dX6_hasCell_41 (by decide) ?_
            exact W.zret (v := 1) hx hb hr (by decide) (fun t ht hW => ⟨1, rfl, rfl, ht⟩) (fun _ h => absurd h List.not_mem_nil) dX6_hasCell_45
set_option maxRecDepth 20000 in
theorem iw_k_put_24_1_X6 : ∀ w ∈ wsX60, w ∈ wsX6_put := by decide +kernel
set_option maxHeartbeats 4000000 in
set_option maxRecDepth 100000 in
theorem k_put_24_1 (l : Launch) (dC : Nat → ClassId) (dI : Nat → Nat → Nat) (ro : Nat) (ca : Nat) (cc0 : ClassId) (ff : Nat → Int32) (nv : Int32) (sz : Nat) : Met l yX6_put wsX6_put ({ frames := 1, cells := 0, slots := 0, locals := 22 }) (va_Pc [.ref ro, .int 0, .int 1, .int nv] (fun U => U.heap.size = sz ∧ va_P (dC, dI) vwCl [(ro, .inr (6, [.int 4, .int 6, .ref ca, .int 1])), (ca, .inl (cc0, 24, .inl ff))] U.heap ∧ va_K (dC, dI) vwCl [(cc0, .int)] U ∧ va_D (fun _ => True) [(ro, .inr (6, [.int 4, .int 6, .ref ca, .int 1])), (ca, .inl (cc0, 24, .inl ff))])) (va_Qv (fun (_ : Unit) => True) (fun _ t => ∃ (fg : Nat → Int32), va_P (dC, dI) vwCl [(ro, .inr (6, [.int 4, .int 6, .ref ca, .int 1])), (ca, .inl (cc0, 24, .inl fg))] t.heap ∧ va_K (dC, dI) vwCl [(cc0, .int)] t ∧ va_D (va_A [(ro, .inr (6, [.int 4, .int 6, .ref ca, .int 1])), (ca, .inl (cc0, 24, .inl ff))] sz) [(ro, .inr (6, [.int 4, .int 6, .ref ca, .int 1])), (ca, .inl (cc0, 24, .inl fg))]) (va_A [(ro, .inr (6, [.int 4, .int 6, .ref ca, .int 1])), (ca, .inl (cc0, 24, .inl ff))] sz)) 0 0 (va_A [(ro, .inr (6, [.int 4, .int 6, .ref ca, .int 1])), (ca, .inl (cc0, 24, .inl ff))] sz) := by
  refine Met.ofW (cc := cX6_put) (maxL := 4) (ret := none) (by decide) rfl ?_
  intro p e s m args below meth c s₁ B hml hv
  obtain ⟨rfl, hsz, hP, hK, hD0⟩ := hv
  have hx := B.exec
  have hb := B.bytes
  have hr := B.returns
  have hts := atoms_spec (ws := wsX6_put) B.pre
  have hown : s.vm.findClass RX6 = some m.cls := findClass_of_methodNamed B.named
  have hlocks := B.notSynchronized
  subst hsz
  have hD := hD0.self (sz := s.heap.size)
  generalize hAe : va_A [(ro, .inr (6, [.int 4, .int 6, .ref ca, .int 1])), (ca, .inl (cc0, 24, .inl ff))] s.heap.size = A at hD ⊢
  have hA : ∀ q : Nat, s.heap.size ≤ q → A q := fun q h => by rw [← hAe]; exact Or.inr h
  have hS : va_S A s.heap s.heap [] := va_S.rf
  have hP : va_P (dC, dI) vwCl [(ro, .inr (6, [.int 4, .int 6, .ref ca, .int 1])), (ca, .inl (cc0, 24, .inl ff))] s.heap := hP
  have hl := lv_entry ([.ref ro, .int 0, .int 1, .int nv]) (n := 4) (Nat.le_of_ble_eq_true rfl)
  rw [lg_entry_eq]
  generalize (lg_sl ([.ref ro, .int 0, .int 1, .int nv]) ++ List.replicate (4 - (lg_sl ([.ref ro, .int 0, .int 1, .int nv])).length) Slot.unset).toArray = ls at hl ⊢
  have hl : lv_has ls 4 [(0, .ref ro), (1, .int 0), (2, .int 1), (3, .int nv)] := hl
  refine lv_aload_n hx hb dX6_put_0 rfl (lv_at hl 0 rfl) ?_
  refine lv_iload_n hx hb dX6_put_1 rfl (lv_at hl 1 rfl) ?_
  refine lv_iload_n hx hb dX6_put_2 rfl (lv_at hl 2 rfl) ?_
  have hPc_1 := hP.sub (ws' := [(ro, .inr (6, [.int 4, .int 6, .ref ca, .int 1])), (ca, .inl (cc0, 24, .inl ff))]) [0, 1] rfl
  have hKc_2 := hK.sub (tys' := [(cc0, .int)]) [0] rfl
  refine vp_callSi (va_Run.run (va_runV (As := [.int 0, .int 1]) (rest := []) ⟨hx, hb, hml, hown, hts⟩ (k_hasCell_24_1 l dC dI ro ca cc0 ff) (cwV 2 hts gX6_put_X6_hasCell rfl rfl rfl (by decide +kernel) ⟨Nat.le_of_ble_eq_true rfl, Nat.le_of_ble_eq_true rfl⟩) ⟨fun a U g mk q => by obtain ⟨q0, qP, qK⟩ := q; exact ⟨q0, qP, va_K.moved (u := U) (U := U.calling g mk a) (Vm.Alike.refl U.vm) qK⟩, va_recv hK hP (ci := 6) (q0 := 0) rfl rfl, fun U hU hW => ⟨rfl, by rw [hU]; exact hPc_1, va_K.moved hW.alike hKc_2⟩⟩ rfl rfl hl.1 rfl (lv_room (Nat.le_of_ble_eq_true rfl)) dX6_put_3 ⟨Nat.le_of_ble_eq_true rfl, Nat.le_of_ble_eq_true rfl⟩)) (fun r_3 hw_4 => ?_)
  obtain rfl : 1 = r_3 := hw_4.symm
  refine lv_if_eq (tgt := 23) hx hb dX6_put_6 (by decide) (fun c_5 => ?_) (fun c_5 => ?_)
  · exact absurd c_5 (by decide)
  · refine lv_aload_n hx hb dX6_put_9 rfl (lv_at hl 0 rfl) ?_
    refine va_get (D := (dC, dI)) (ci := 6) (v := .ref ca) (C := RX6) (T := TX6) (N := 4) hx hb hts iw_k_put_24_1_X6 hown hK hP 0 rfl rfl 2 (by decide) (hts (.fieldLink RX6 27 "ThriceCounted$Rows" "cells" "[I") (by decide +kernel)) (fun _ h9 => h9) rfl dX6_put_10 ?_
    refine lv_iload_n hx hb dX6_put_13 rfl (lv_at hl 1 rfl) ?_
    refine lv_aload_n hx hb dX6_put_14 rfl (lv_at hl 0 rfl) ?_
    refine va_get (D := (dC, dI)) (ci := 6) (v := .int 4) (C := RX6) (T := TX6) (N := 4) hx hb hts iw_k_put_24_1_X6 hown hK hP 0 rfl rfl 0 (by decide) (hts (.fieldLink RX6 24 "ThriceCounted$Rows" "width" "I") (by decide +kernel)) (fun _ h9 => h9) rfl dX6_put_15 ?_
    refine lv_imul hx hb dX6_put_18 ?_
    refine tz_i 0 (by decide) ?_
    refine lv_iload_n hx hb dX6_put_19 rfl (lv_at hl 2 rfl) ?_
    refine lv_iadd hx hb dX6_put_20 ?_
    refine tz_i 1 (by decide) ?_
    refine lv_iload_n hx hb dX6_put_21 rfl (lv_at hl 3 rfl) ?_
    refine va_iast hx hb hK hP hD hS 1 0 rfl rfl (show ¬ ((1 : Int32) < 0 ∨ 24 ≤ (1 : Int32).toNatClampNeg) by decide) dX6_put_22 (fun H locs hP hD hS => ?_)
    generalize (upd ff (Int32.toNatClampNeg 1) nv) = f_6 at hP hD
    have hP : va_P (dC, dI) vwCl [(ro, .inr (6, [.int 4, .int 6, .ref ca, .int 1])), (ca, .inl (cc0, 24, .inl f_6))] H := hP
    have hD : va_D A [(ro, .inr (6, [.int 4, .int 6, .ref ca, .int 1])), (ca, .inl (cc0, 24, .inl f_6))] := hD
    have hP9 := hP.sub (ws' := [(ro, .inr (6, [.int 4, .int 6, .ref ca, .int 1])), (ca, .inl (cc0, 24, .inl f_6))]) [0, 1] rfl
    have hD9 := hD.sub (ws' := [(ro, .inr (6, [.int 4, .int 6, .ref ca, .int 1])), (ca, .inl (cc0, 24, .inl f_6))]) [0, 1] (by decide) rfl
    have hK9 := hK.sub (tys' := [(cc0, .int)]) [0] rfl
    exact W.vret hx hb hr (fun t ht hW => ⟨⟨(), rfl, trivial, f_6, by rw [ht]; exact hP9, va_K.moved hW.alike hK9, hD9⟩, hS.F ht⟩) hS.2.2 dX6_put_23
set_option maxRecDepth 20000 in
theorem iw_k_hasCell_24_2_X6 : ∀ w ∈ wsX60, w ∈ wsX6_hasCell := by decide +kernel
set_option maxHeartbeats 4000000 in
set_option maxRecDepth 100000 in
theorem k_hasCell_24_2 (l : Launch) (dC : Nat → ClassId) (dI : Nat → Nat → Nat) (ro : Nat) (ca : Nat) (cc0 : ClassId) (ff : Nat → Int32) : Met l yX6_hasCell wsX6_hasCell ({ frames := 0, cells := 0, slots := 0, locals := 0 }) (va_Pc [.ref ro, .int 0, .int 2] (fun U => va_P (dC, dI) vwCl [(ro, .inr (6, [.int 4, .int 6, .ref ca, .int 1])), (ca, .inl (cc0, 24, .inl ff))] U.heap ∧ va_K (dC, dI) vwCl [(cc0, .int)] U)) (vp_Si (fun r => r = 1)) 0 0 (fun _ => False) := by
  refine Met.ofW (cc := cX6_hasCell) (maxL := 3) (ret := (some .boolean)) (by decide) rfl ?_
  intro p e s m args below meth c s₁ B hml hv
  obtain ⟨rfl, hP, hK⟩ := hv
  have hx := B.exec
  have hb := B.bytes
  have hr := B.returns
  have hts := atoms_spec (ws := wsX6_hasCell) B.pre
  have hown : s.vm.findClass RX6 = some m.cls := findClass_of_methodNamed B.named
  have hlocks := B.notSynchronized
  have hl := lv_entry ([.ref ro, .int 0, .int 2]) (n := 3) (Nat.le_of_ble_eq_true rfl)
  rw [lg_entry_eq]
  generalize (lg_sl ([.ref ro, .int 0, .int 2]) ++ List.replicate (3 - (lg_sl ([.ref ro, .int 0, .int 2])).length) Slot.unset).toArray = ls at hl ⊢
  have hl : lv_has ls 3 [(0, .ref ro), (1, .int 0), (2, .int 2)] := hl
  refine lv_iload_n hx hb dX6_hasCell_0 rfl (lv_at hl 1 rfl) ?_
  refine lv_if_lt (tgt := 44) hx hb dX6_hasCell_1 (by decide) (fun c_1 => ?_) (fun c_1 => ?_)
  · exact absurd c_1 (by decide)
  · refine lv_iload_n hx hb dX6_hasCell_4 rfl (lv_at hl 1 rfl) ?_
    refine lv_aload_n hx hb dX6_hasCell_5 rfl (lv_at hl 0 rfl) ?_
    refine va_get (D := (dC, dI)) (ci := 6) (v := .int 1) (C := RX6) (T := TX6) (N := 4) hx hb hts iw_k_hasCell_24_2_X6 hown hK hP 0 rfl rfl 3 (by decide) (hts (.fieldLink RX6 9 "ThriceCounted$Rows" "size" "I") (by decide +kernel)) (fun _ h9 => h9) rfl dX6_hasCell_6 ?_
    refine lv_icmp_ge (tgt := 44) hx hb dX6_hasCell_9 (by decide) (fun c_2 => ?_) (fun c_2 => ?_)
    · exact absurd c_2 (by decide)
    · refine lv_iload_n hx hb dX6_hasCell_12 rfl (lv_at hl 2 rfl) ?_
      refine lv_if_lt (tgt := 44) hx hb dX6_hasCell_13 (by decide) (fun c_3 => ?_) (fun c_3 => ?_)
      · exact absurd c_3 (by decide)
      · refine lv_iload_n hx hb dX6_hasCell_16 rfl (lv_at hl 2 rfl) ?_
        refine lv_aload_n hx hb dX6_hasCell_17 rfl (lv_at hl 0 rfl) ?_
        refine va_get (D := (dC, dI)) (ci := 6) (v := .int 4) (C := RX6) (T := TX6) (N := 4) hx hb hts iw_k_hasCell_24_2_X6 hown hK hP 0 rfl rfl 0 (by decide) (hts (.fieldLink RX6 24 "ThriceCounted$Rows" "width" "I") (by decide +kernel)) (fun _ h9 => h9) rfl dX6_hasCell_18 ?_
        refine lv_icmp_ge (tgt := 44) hx hb dX6_hasCell_21 (by decide) (fun c_4 => ?_) (fun c_4 => ?_)
        · exact absurd c_4 (by decide)
        · refine lv_iload_n hx hb dX6_hasCell_24 rfl (lv_at hl 1 rfl) ?_
          refine lv_aload_n hx hb dX6_hasCell_25 rfl (lv_at hl 0 rfl) ?_
          refine va_get (D := (dC, dI)) (ci := 6) (v := .int 4) (C := RX6) (T := TX6) (N := 4) hx hb hts iw_k_hasCell_24_2_X6 hown hK hP 0 rfl rfl 0 (by decide) (hts (.fieldLink RX6 24 "ThriceCounted$Rows" "width" "I") (by decide +kernel)) (fun _ h9 => h9) rfl dX6_hasCell_26 ?_
          refine lv_imul hx hb dX6_hasCell_29 ?_
          refine tz_i 0 (by decide) ?_
          refine lv_iload_n hx hb dX6_hasCell_30 rfl (lv_at hl 2 rfl) ?_
          refine lv_iadd hx hb dX6_hasCell_31 ?_
          refine tz_i 2 (by decide) ?_
          refine lv_aload_n hx hb dX6_hasCell_32 rfl (lv_at hl 0 rfl) ?_
          refine va_get (D := (dC, dI)) (ci := 6) (v := .ref ca) (C := RX6) (T := TX6) (N := 4) hx hb hts iw_k_hasCell_24_2_X6 hown hK hP 0 rfl rfl 2 (by decide) (hts (.fieldLink RX6 27 "ThriceCounted$Rows" "cells" "[I") (by decide +kernel)) (fun _ h9 => h9) rfl dX6_hasCell_33 ?_
          refine va_alen (v := 24) hx hb hK hP 1 0 rfl rfl rfl dX6_hasCell_36 ?_
          refine lv_icmp_ge (tgt := 44) hx hb dX6_hasCell_37 (by decide) (fun c_5 => ?_) (fun c_5 => ?_)
          · exact absurd c_5 (by decide)
          · refine lv_iconst (v := 1) hx hb dX6_hasCell_40 (by decide) ?_
            refine lv_goto (tgt := 45) hx hb dX6_hasCell_41 (by decide) ?_
            exact W.zret (v := 1) hx hb hr (by decide) (fun t ht hW => ⟨1, rfl, rfl, ht⟩) (fun _ h => absurd h List.not_mem_nil) dX6_hasCell_45
set_option maxRecDepth 20000 in
theorem iw_k_put_24_2_X6 : ∀ w ∈ wsX60, w ∈ wsX6_put := by decide +kernel
set_option maxHeartbeats 4000000 in
set_option maxRecDepth 100000 in
theorem k_put_24_2 (l : Launch) (dC : Nat → ClassId) (dI : Nat → Nat → Nat) (ro : Nat) (ca : Nat) (cc0 : ClassId) (ff : Nat → Int32) (nv : Int32) (sz : Nat) : Met l yX6_put wsX6_put ({ frames := 1, cells := 0, slots := 0, locals := 22 }) (va_Pc [.ref ro, .int 0, .int 2, .int nv] (fun U => U.heap.size = sz ∧ va_P (dC, dI) vwCl [(ro, .inr (6, [.int 4, .int 6, .ref ca, .int 1])), (ca, .inl (cc0, 24, .inl ff))] U.heap ∧ va_K (dC, dI) vwCl [(cc0, .int)] U ∧ va_D (fun _ => True) [(ro, .inr (6, [.int 4, .int 6, .ref ca, .int 1])), (ca, .inl (cc0, 24, .inl ff))])) (va_Qv (fun (_ : Unit) => True) (fun _ t => ∃ (fg : Nat → Int32), va_P (dC, dI) vwCl [(ro, .inr (6, [.int 4, .int 6, .ref ca, .int 1])), (ca, .inl (cc0, 24, .inl fg))] t.heap ∧ va_K (dC, dI) vwCl [(cc0, .int)] t ∧ va_D (va_A [(ro, .inr (6, [.int 4, .int 6, .ref ca, .int 1])), (ca, .inl (cc0, 24, .inl ff))] sz) [(ro, .inr (6, [.int 4, .int 6, .ref ca, .int 1])), (ca, .inl (cc0, 24, .inl fg))]) (va_A [(ro, .inr (6, [.int 4, .int 6, .ref ca, .int 1])), (ca, .inl (cc0, 24, .inl ff))] sz)) 0 0 (va_A [(ro, .inr (6, [.int 4, .int 6, .ref ca, .int 1])), (ca, .inl (cc0, 24, .inl ff))] sz) := by
  refine Met.ofW (cc := cX6_put) (maxL := 4) (ret := none) (by decide) rfl ?_
  intro p e s m args below meth c s₁ B hml hv
  obtain ⟨rfl, hsz, hP, hK, hD0⟩ := hv
  have hx := B.exec
  have hb := B.bytes
  have hr := B.returns
  have hts := atoms_spec (ws := wsX6_put) B.pre
  have hown : s.vm.findClass RX6 = some m.cls := findClass_of_methodNamed B.named
  have hlocks := B.notSynchronized
  subst hsz
  have hD := hD0.self (sz := s.heap.size)
  generalize hAe : va_A [(ro, .inr (6, [.int 4, .int 6, .ref ca, .int 1])), (ca, .inl (cc0, 24, .inl ff))] s.heap.size = A at hD ⊢
  have hA : ∀ q : Nat, s.heap.size ≤ q → A q := fun q h => by rw [← hAe]; exact Or.inr h
  have hS : va_S A s.heap s.heap [] := va_S.rf
  have hP : va_P (dC, dI) vwCl [(ro, .inr (6, [.int 4, .int 6, .ref ca, .int 1])), (ca, .inl (cc0, 24, .inl ff))] s.heap := hP
  have hl := lv_entry ([.ref ro, .int 0, .int 2, .int nv]) (n := 4) (Nat.le_of_ble_eq_true rfl)
  rw [lg_entry_eq]
  generalize (lg_sl ([.ref ro, .int 0, .int 2, .int nv]) ++ List.replicate (4 - (lg_sl ([.ref ro, .int 0, .int 2, .int nv])).length) Slot.unset).toArray = ls at hl ⊢
  have hl : lv_has ls 4 [(0, .ref ro), (1, .int 0), (2, .int 2), (3, .int nv)] := hl
  refine lv_aload_n hx hb dX6_put_0 rfl (lv_at hl 0 rfl) ?_
  refine lv_iload_n hx hb dX6_put_1 rfl (lv_at hl 1 rfl) ?_
  refine lv_iload_n hx hb dX6_put_2 rfl (lv_at hl 2 rfl) ?_
  have hPc_1 := hP.sub (ws' := [(ro, .inr (6, [.int 4, .int 6, .ref ca, .int 1])), (ca, .inl (cc0, 24, .inl ff))]) [0, 1] rfl
  have hKc_2 := hK.sub (tys' := [(cc0, .int)]) [0] rfl
  refine vp_callSi (va_Run.run (va_runV (As := [.int 0, .int 2]) (rest := []) ⟨hx, hb, hml, hown, hts⟩ (k_hasCell_24_2 l dC dI ro ca cc0 ff) (cwV 2 hts gX6_put_X6_hasCell rfl rfl rfl (by decide +kernel) ⟨Nat.le_of_ble_eq_true rfl, Nat.le_of_ble_eq_true rfl⟩) ⟨fun a U g mk q => by obtain ⟨q0, qP, qK⟩ := q; exact ⟨q0, qP, va_K.moved (u := U) (U := U.calling g mk a) (Vm.Alike.refl U.vm) qK⟩, va_recv hK hP (ci := 6) (q0 := 0) rfl rfl, fun U hU hW => ⟨rfl, by rw [hU]; exact hPc_1, va_K.moved hW.alike hKc_2⟩⟩ rfl rfl hl.1 rfl (lv_room (Nat.le_of_ble_eq_true rfl)) dX6_put_3 ⟨Nat.le_of_ble_eq_true rfl, Nat.le_of_ble_eq_true rfl⟩)) (fun r_3 hw_4 => ?_)
  obtain rfl : 1 = r_3 := hw_4.symm
  refine lv_if_eq (tgt := 23) hx hb dX6_put_6 (by decide) (fun c_5 => ?_) (fun c_5 => ?_)
  · exact absurd c_5 (by decide)
  · refine lv_aload_n hx hb dX6_put_9 rfl (lv_at hl 0 rfl) ?_
    refine va_get (D := (dC, dI)) (ci := 6) (v := .ref ca) (C := RX6) (T := TX6) (N := 4) hx hb hts iw_k_put_24_2_X6 hown hK hP 0 rfl rfl 2 (by decide) (hts (.fieldLink RX6 27 "ThriceCounted$Rows" "cells" "[I") (by decide +kernel)) (fun _ h9 => h9) rfl dX6_put_10 ?_
    refine lv_iload_n hx hb dX6_put_13 rfl (lv_at hl 1 rfl) ?_
    refine lv_aload_n hx hb dX6_put_14 rfl (lv_at hl 0 rfl) ?_
    refine va_get (D := (dC, dI)) (ci := 6) (v := .int 4) (C := RX6) (T := TX6) (N := 4) hx hb hts iw_k_put_24_2_X6 hown hK hP 0 rfl rfl 0 (by decide) (hts (.fieldLink RX6 24 "ThriceCounted$Rows" "width" "I") (by decide +kernel)) (fun _ h9 => h9) rfl dX6_put_15 ?_
    refine lv_imul hx hb dX6_put_18 ?_
    refine tz_i 0 (by decide) ?_
    refine lv_iload_n hx hb dX6_put_19 rfl (lv_at hl 2 rfl) ?_
    refine lv_iadd hx hb dX6_put_20 ?_
    refine tz_i 2 (by decide) ?_
    refine lv_iload_n hx hb dX6_put_21 rfl (lv_at hl 3 rfl) ?_
    refine va_iast hx hb hK hP hD hS 1 0 rfl rfl (show ¬ ((2 : Int32) < 0 ∨ 24 ≤ (2 : Int32).toNatClampNeg) by decide) dX6_put_22 (fun H locs hP hD hS => ?_)
    generalize (upd ff (Int32.toNatClampNeg 2) nv) = f_6 at hP hD
    have hP : va_P (dC, dI) vwCl [(ro, .inr (6, [.int 4, .int 6, .ref ca, .int 1])), (ca, .inl (cc0, 24, .inl f_6))] H := hP
    have hD : va_D A [(ro, .inr (6, [.int 4, .int 6, .ref ca, .int 1])), (ca, .inl (cc0, 24, .inl f_6))] := hD
    have hP9 := hP.sub (ws' := [(ro, .inr (6, [.int 4, .int 6, .ref ca, .int 1])), (ca, .inl (cc0, 24, .inl f_6))]) [0, 1] rfl
    have hD9 := hD.sub (ws' := [(ro, .inr (6, [.int 4, .int 6, .ref ca, .int 1])), (ca, .inl (cc0, 24, .inl f_6))]) [0, 1] (by decide) rfl
    have hK9 := hK.sub (tys' := [(cc0, .int)]) [0] rfl
    exact W.vret hx hb hr (fun t ht hW => ⟨⟨(), rfl, trivial, f_6, by rw [ht]; exact hP9, va_K.moved hW.alike hK9, hD9⟩, hS.F ht⟩) hS.2.2 dX6_put_23
set_option maxRecDepth 20000 in
theorem iw_k_hasCell_24_3_X6 : ∀ w ∈ wsX60, w ∈ wsX6_hasCell := by decide +kernel
set_option maxHeartbeats 4000000 in
set_option maxRecDepth 100000 in
theorem k_hasCell_24_3 (l : Launch) (dC : Nat → ClassId) (dI : Nat → Nat → Nat) (ro : Nat) (ca : Nat) (cc0 : ClassId) (ff : Nat → Int32) : Met l yX6_hasCell wsX6_hasCell ({ frames := 0, cells := 0, slots := 0, locals := 0 }) (va_Pc [.ref ro, .int 0, .int 3] (fun U => va_P (dC, dI) vwCl [(ro, .inr (6, [.int 4, .int 6, .ref ca, .int 1])), (ca, .inl (cc0, 24, .inl ff))] U.heap ∧ va_K (dC, dI) vwCl [(cc0, .int)] U)) (vp_Si (fun r => r = 1)) 0 0 (fun _ => False) := by
  refine Met.ofW (cc := cX6_hasCell) (maxL := 3) (ret := (some .boolean)) (by decide) rfl ?_
  intro p e s m args below meth c s₁ B hml hv
  obtain ⟨rfl, hP, hK⟩ := hv
  have hx := B.exec
  have hb := B.bytes
  have hr := B.returns
  have hts := atoms_spec (ws := wsX6_hasCell) B.pre
  have hown : s.vm.findClass RX6 = some m.cls := findClass_of_methodNamed B.named
  have hlocks := B.notSynchronized
  have hl := lv_entry ([.ref ro, .int 0, .int 3]) (n := 3) (Nat.le_of_ble_eq_true rfl)
  rw [lg_entry_eq]
  generalize (lg_sl ([.ref ro, .int 0, .int 3]) ++ List.replicate (3 - (lg_sl ([.ref ro, .int 0, .int 3])).length) Slot.unset).toArray = ls at hl ⊢
  have hl : lv_has ls 3 [(0, .ref ro), (1, .int 0), (2, .int 3)] := hl
  refine lv_iload_n hx hb dX6_hasCell_0 rfl (lv_at hl 1 rfl) ?_
  refine lv_if_lt (tgt := 44) hx hb dX6_hasCell_1 (by decide) (fun c_1 => ?_) (fun c_1 => ?_)
  · exact absurd c_1 (by decide)
  · refine lv_iload_n hx hb dX6_hasCell_4 rfl (lv_at hl 1 rfl) ?_
    refine lv_aload_n hx hb dX6_hasCell_5 rfl (lv_at hl 0 rfl) ?_
    refine va_get (D := (dC, dI)) (ci := 6) (v := .int 1) (C := RX6) (T := TX6) (N := 4) hx hb hts iw_k_hasCell_24_3_X6 hown hK hP 0 rfl rfl 3 (by decide) (hts (.fieldLink RX6 9 "ThriceCounted$Rows" "size" "I") (by decide +kernel)) (fun _ h9 => h9) rfl dX6_hasCell_6 ?_
    refine lv_icmp_ge (tgt := 44) hx hb dX6_hasCell_9 (by decide) (fun c_2 => ?_) (fun c_2 => ?_)
    · exact absurd c_2 (by decide)
    · refine lv_iload_n hx hb dX6_hasCell_12 rfl (lv_at hl 2 rfl) ?_
      refine lv_if_lt (tgt := 44) hx hb dX6_hasCell_13 (by decide) (fun c_3 => ?_) (fun c_3 => ?_)
      · exact absurd c_3 (by decide)
      · refine lv_iload_n hx hb dX6_hasCell_16 rfl (lv_at hl 2 rfl) ?_
        refine lv_aload_n hx hb dX6_hasCell_17 rfl (lv_at hl 0 rfl) ?_
        refine va_get (D := (dC, dI)) (ci := 6) (v := .int 4) (C := RX6) (T := TX6) (N := 4) hx hb hts iw_k_hasCell_24_3_X6 hown hK hP 0 rfl rfl 0 (by decide) (hts (.fieldLink RX6 24 "ThriceCounted$Rows" "width" "I") (by decide +kernel)) (fun _ h9 => h9) rfl dX6_hasCell_18 ?_
        refine lv_icmp_ge (tgt := 44) hx hb dX6_hasCell_21 (by decide) (fun c_4 => ?_) (fun c_4 => ?_)
        · exact absurd c_4 (by decide)
        · refine lv_iload_n hx hb dX6_hasCell_24 rfl (lv_at hl 1 rfl) ?_
          refine lv_aload_n hx hb dX6_hasCell_25 rfl (lv_at hl 0 rfl) ?_
          refine va_get (D := (dC, dI)) (ci := 6) (v := .int 4) (C := RX6) (T := TX6) (N := 4) hx hb hts iw_k_hasCell_24_3_X6 hown hK hP 0 rfl rfl 0 (by decide) (hts (.fieldLink RX6 24 "ThriceCounted$Rows" "width" "I") (by decide +kernel)) (fun _ h9 => h9) rfl dX6_hasCell_26 ?_
          refine lv_imul hx hb dX6_hasCell_29 ?_
          refine tz_i 0 (by decide) ?_
          refine lv_iload_n hx hb dX6_hasCell_30 rfl (lv_at hl 2 rfl) ?_
          refine lv_iadd hx hb dX6_hasCell_31 ?_
          refine tz_i 3 (by decide) ?_
          refine lv_aload_n hx hb dX6_hasCell_32 rfl (lv_at hl 0 rfl) ?_
          refine va_get (D := (dC, dI)) (ci := 6) (v := .ref ca) (C := RX6) (T := TX6) (N := 4) hx hb hts iw_k_hasCell_24_3_X6 hown hK hP 0 rfl rfl 2 (by decide) (hts (.fieldLink RX6 27 "ThriceCounted$Rows" "cells" "[I") (by decide +kernel)) (fun _ h9 => h9) rfl dX6_hasCell_33 ?_
          refine va_alen (v := 24) hx hb hK hP 1 0 rfl rfl rfl dX6_hasCell_36 ?_
          refine lv_icmp_ge (tgt := 44) hx hb dX6_hasCell_37 (by decide) (fun c_5 => ?_) (fun c_5 => ?_)
          · exact absurd c_5 (by decide)
          · refine lv_iconst (v := 1) hx hb dX6_hasCell_40 (by decide) ?_
            refine lv_goto (tgt := 45) hx hb dX6_hasCell_41 (by decide) ?_
            exact W.zret (v := 1) hx hb hr (by decide) (fun t ht hW => ⟨1, rfl, rfl, ht⟩) (fun _ h => absurd h List.not_mem_nil) dX6_hasCell_45
set_option maxRecDepth 20000 in
theorem iw_k_put_24_3_X6 : ∀ w ∈ wsX60, w ∈ wsX6_put := by decide +kernel
set_option maxHeartbeats 4000000 in
set_option maxRecDepth 100000 in
theorem k_put_24_3 (l : Launch) (dC : Nat → ClassId) (dI : Nat → Nat → Nat) (ro : Nat) (ca : Nat) (cc0 : ClassId) (ff : Nat → Int32) (nv : Int32) (sz : Nat) : Met l yX6_put wsX6_put ({ frames := 1, cells := 0, slots := 0, locals := 22 }) (va_Pc [.ref ro, .int 0, .int 3, .int nv] (fun U => U.heap.size = sz ∧ va_P (dC, dI) vwCl [(ro, .inr (6, [.int 4, .int 6, .ref ca, .int 1])), (ca, .inl (cc0, 24, .inl ff))] U.heap ∧ va_K (dC, dI) vwCl [(cc0, .int)] U ∧ va_D (fun _ => True) [(ro, .inr (6, [.int 4, .int 6, .ref ca, .int 1])), (ca, .inl (cc0, 24, .inl ff))])) (va_Qv (fun (_ : Unit) => True) (fun _ t => ∃ (fg : Nat → Int32), va_P (dC, dI) vwCl [(ro, .inr (6, [.int 4, .int 6, .ref ca, .int 1])), (ca, .inl (cc0, 24, .inl fg))] t.heap ∧ va_K (dC, dI) vwCl [(cc0, .int)] t ∧ va_D (va_A [(ro, .inr (6, [.int 4, .int 6, .ref ca, .int 1])), (ca, .inl (cc0, 24, .inl ff))] sz) [(ro, .inr (6, [.int 4, .int 6, .ref ca, .int 1])), (ca, .inl (cc0, 24, .inl fg))]) (va_A [(ro, .inr (6, [.int 4, .int 6, .ref ca, .int 1])), (ca, .inl (cc0, 24, .inl ff))] sz)) 0 0 (va_A [(ro, .inr (6, [.int 4, .int 6, .ref ca, .int 1])), (ca, .inl (cc0, 24, .inl ff))] sz) := by
  refine Met.ofW (cc := cX6_put) (maxL := 4) (ret := none) (by decide) rfl ?_
  intro p e s m args below meth c s₁ B hml hv
  obtain ⟨rfl, hsz, hP, hK, hD0⟩ := hv
  have hx := B.exec
  have hb := B.bytes
  have hr := B.returns
  have hts := atoms_spec (ws := wsX6_put) B.pre
  have hown : s.vm.findClass RX6 = some m.cls := findClass_of_methodNamed B.named
  have hlocks := B.notSynchronized
  subst hsz
  have hD := hD0.self (sz := s.heap.size)
  generalize hAe : va_A [(ro, .inr (6, [.int 4, .int 6, .ref ca, .int 1])), (ca, .inl (cc0, 24, .inl ff))] s.heap.size = A at hD ⊢
  have hA : ∀ q : Nat, s.heap.size ≤ q → A q := fun q h => by rw [← hAe]; exact Or.inr h
  have hS : va_S A s.heap s.heap [] := va_S.rf
  have hP : va_P (dC, dI) vwCl [(ro, .inr (6, [.int 4, .int 6, .ref ca, .int 1])), (ca, .inl (cc0, 24, .inl ff))] s.heap := hP
  have hl := lv_entry ([.ref ro, .int 0, .int 3, .int nv]) (n := 4) (Nat.le_of_ble_eq_true rfl)
  rw [lg_entry_eq]
  generalize (lg_sl ([.ref ro, .int 0, .int 3, .int nv]) ++ List.replicate (4 - (lg_sl ([.ref ro, .int 0, .int 3, .int nv])).length) Slot.unset).toArray = ls at hl ⊢
  have hl : lv_has ls 4 [(0, .ref ro), (1, .int 0), (2, .int 3), (3, .int nv)] := hl
  refine lv_aload_n hx hb dX6_put_0 rfl (lv_at hl 0 rfl) ?_
  refine lv_iload_n hx hb dX6_put_1 rfl (lv_at hl 1 rfl) ?_
  refine lv_iload_n hx hb dX6_put_2 rfl (lv_at hl 2 rfl) ?_
  have hPc_1 := hP.sub (ws' := [(ro, .inr (6, [.int 4, .int 6, .ref ca, .int 1])), (ca, .inl (cc0, 24, .inl ff))]) [0, 1] rfl
  have hKc_2 := hK.sub (tys' := [(cc0, .int)]) [0] rfl
  refine vp_callSi (va_Run.run (va_runV (As := [.int 0, .int 3]) (rest := []) ⟨hx, hb, hml, hown, hts⟩ (k_hasCell_24_3 l dC dI ro ca cc0 ff) (cwV 2 hts gX6_put_X6_hasCell rfl rfl rfl (by decide +kernel) ⟨Nat.le_of_ble_eq_true rfl, Nat.le_of_ble_eq_true rfl⟩) ⟨fun a U g mk q => by obtain ⟨q0, qP, qK⟩ := q; exact ⟨q0, qP, va_K.moved (u := U) (U := U.calling g mk a) (Vm.Alike.refl U.vm) qK⟩, va_recv hK hP (ci := 6) (q0 := 0) rfl rfl, fun U hU hW => ⟨rfl, by rw [hU]; exact hPc_1, va_K.moved hW.alike hKc_2⟩⟩ rfl rfl hl.1 rfl (lv_room (Nat.le_of_ble_eq_true rfl)) dX6_put_3 ⟨Nat.le_of_ble_eq_true rfl, Nat.le_of_ble_eq_true rfl⟩)) (fun r_3 hw_4 => ?_)
  obtain rfl : 1 = r_3 := hw_4.symm
  refine lv_if_eq (tgt := 23) hx hb dX6_put_6 (by decide) (fun c_5 => ?_) (fun c_5 => ?_)
  · exact absurd c_5 (by decide)
  · refine lv_aload_n hx hb dX6_put_9 rfl (lv_at hl 0 rfl) ?_
    refine va_get (D := (dC, dI)) (ci := 6) (v := .ref ca) (C := RX6) (T := TX6) (N := 4) hx hb hts iw_k_put_24_3_X6 hown hK hP 0 rfl rfl 2 (by decide) (hts (.fieldLink RX6 27 "ThriceCounted$Rows" "cells" "[I") (by decide +kernel)) (fun _ h9 => h9) rfl dX6_put_10 ?_
    refine lv_iload_n hx hb dX6_put_13 rfl (lv_at hl 1 rfl) ?_
    refine lv_aload_n hx hb dX6_put_14 rfl (lv_at hl 0 rfl) ?_
    refine va_get (D := (dC, dI)) (ci := 6) (v := .int 4) (C := RX6) (T := TX6) (N := 4) hx hb hts iw_k_put_24_3_X6 hown hK hP 0 rfl rfl 0 (by decide) (hts (.fieldLink RX6 24 "ThriceCounted$Rows" "width" "I") (by decide +kernel)) (fun _ h9 => h9) rfl dX6_put_15 ?_
    refine lv_imul hx hb dX6_put_18 ?_
    refine tz_i 0 (by decide) ?_
    refine lv_iload_n hx hb dX6_put_19 rfl (lv_at hl 2 rfl) ?_
    refine lv_iadd hx hb dX6_put_20 ?_
    refine tz_i 3 (by decide) ?_
    refine lv_iload_n hx hb dX6_put_21 rfl (lv_at hl 3 rfl) ?_
    refine va_iast hx hb hK hP hD hS 1 0 rfl rfl (show ¬ ((3 : Int32) < 0 ∨ 24 ≤ (3 : Int32).toNatClampNeg) by decide) dX6_put_22 (fun H locs hP hD hS => ?_)
    generalize (upd ff (Int32.toNatClampNeg 3) nv) = f_6 at hP hD
    have hP : va_P (dC, dI) vwCl [(ro, .inr (6, [.int 4, .int 6, .ref ca, .int 1])), (ca, .inl (cc0, 24, .inl f_6))] H := hP
    have hD : va_D A [(ro, .inr (6, [.int 4, .int 6, .ref ca, .int 1])), (ca, .inl (cc0, 24, .inl f_6))] := hD
    have hP9 := hP.sub (ws' := [(ro, .inr (6, [.int 4, .int 6, .ref ca, .int 1])), (ca, .inl (cc0, 24, .inl f_6))]) [0, 1] rfl
    have hD9 := hD.sub (ws' := [(ro, .inr (6, [.int 4, .int 6, .ref ca, .int 1])), (ca, .inl (cc0, 24, .inl f_6))]) [0, 1] (by decide) rfl
    have hK9 := hK.sub (tys' := [(cc0, .int)]) [0] rfl
    exact W.vret hx hb hr (fun t ht hW => ⟨⟨(), rfl, trivial, f_6, by rw [ht]; exact hP9, va_K.moved hW.alike hK9, hD9⟩, hS.F ht⟩) hS.2.2 dX6_put_23
