theorem dX11_within_0 : decode cX11_within 0 = .ok (.iload_n 0, 1) := by decide +kernel
theorem dX11_within_1 : decode cX11_within 1 = .ok (.iload_n 1, 1) := by decide +kernel
theorem dX11_within_2 : decode cX11_within 2 = .ok (.if_icmp .lt 12, 3) := by decide +kernel
theorem dX11_within_14 : decode cX11_within 14 = .ok (.iconst 0, 1) := by decide +kernel
theorem dX11_within_15 : decode cX11_within 15 = .ok (.ireturn, 1) := by decide +kernel
theorem dX11_within_5 : decode cX11_within 5 = .ok (.iload_n 0, 1) := by decide +kernel
theorem dX11_within_6 : decode cX11_within 6 = .ok (.iload_n 2, 1) := by decide +kernel
theorem dX11_within_7 : decode cX11_within 7 = .ok (.if_icmp .gt 7, 3) := by decide +kernel
theorem dX11_within_10 : decode cX11_within 10 = .ok (.iconst 1, 1) := by decide +kernel
theorem dX11_within_11 : decode cX11_within 11 = .ok (.goto 4, 3) := by decide +kernel
set_option maxHeartbeats 4000000 in
set_option maxRecDepth 100000 in
theorem k_within (l : Launch) (dC : Nat → ClassId) (dI : Nat → Nat → Nat) (na : Int32) (nb : Int32) (nc : Int32) : Met l yX11_within wsX11_within ({ frames := 0, cells := 0, slots := 0, locals := 0 }) (va_Pc [.int na, .int nb, .int nc] (fun _ => True)) (vp_Si (fun r => r = if nb ≤ na ∧ na ≤ nc then 1 else 0)) 0 0 (fun _ => False) := by
  refine Met.ofW (cc := cX11_within) (maxL := 3) (ret := (some .boolean)) (by decide) rfl ?_
  intro p e s m args below meth c s₁ B hml hv
  obtain ⟨rfl, -⟩ := hv
  have hx := B.exec
  have hb := B.bytes
  have hr := B.returns
  have hts := atoms_spec (ws := wsX11_within) B.pre
  have hown : s.vm.findClass RX11 = some m.cls := findClass_of_methodNamed B.named
  have hlocks := B.notSynchronized
  have hl := lv_entry ([.int na, .int nb, .int nc]) (n := 3) (Nat.le_of_ble_eq_true rfl)
  rw [lg_entry_eq]
  generalize (lg_sl ([.int na, .int nb, .int nc]) ++ List.replicate (3 - (lg_sl ([.int na, .int nb, .int nc])).length) Slot.unset).toArray = ls at hl ⊢
  have hl : lv_has ls 3 [(0, .int na), (1, .int nb), (2, .int nc)] := hl
  refine lv_iload_n hx hb dX11_within_0 rfl (lv_at hl 0 rfl) ?_
  refine lv_iload_n hx hb dX11_within_1 rfl (lv_at hl 1 rfl) ?_
  refine lv_icmp_lt (tgt := 14) hx hb dX11_within_2 (by decide) (fun c_1 => ?_) (fun c_1 => ?_)
  · refine lv_iconst (v := 0) hx hb dX11_within_14 (by decide) ?_
    exact W.zret (v := 0) hx hb hr (by decide) (fun t ht hW => ⟨0, rfl, (if_neg (fun z => tz_ltn c_1 z.1)).symm, ht⟩) (fun _ h => absurd h List.not_mem_nil) dX11_within_15
  · refine lv_iload_n hx hb dX11_within_5 rfl (lv_at hl 0 rfl) ?_
    refine lv_iload_n hx hb dX11_within_6 rfl (lv_at hl 2 rfl) ?_
    refine lv_icmp_gt (tgt := 14) hx hb dX11_within_7 (by decide) (fun c_2 => ?_) (fun c_2 => ?_)
    · refine lv_iconst (v := 0) hx hb dX11_within_14 (by decide) ?_
      exact W.zret (v := 0) hx hb hr (by decide) (fun t ht hW => ⟨0, rfl, (if_neg (fun z => tz_ltn c_2 z.2)).symm, ht⟩) (fun _ h => absurd h List.not_mem_nil) dX11_within_15
    · refine lv_iconst (v := 1) hx hb dX11_within_10 (by decide) ?_
      refine lv_goto (tgt := 15) hx hb dX11_within_11 (by decide) ?_
      exact W.zret (v := 1) hx hb hr (by decide) (fun t ht hW => ⟨1, rfl, (if_pos ⟨tz_nlt c_1, tz_nlt c_2⟩).symm, ht⟩) (fun _ h => absurd h List.not_mem_nil) dX11_within_15
theorem dX11_refuseAs_0 : decode cX11_refuseAs 0 = .ok (.bipush (-2), 2) := by decide +kernel
theorem dX11_refuseAs_2 : decode cX11_refuseAs 2 = .ok (.iload_n 1, 1) := by decide +kernel
theorem dX11_refuseAs_3 : decode cX11_refuseAs 3 = .ok (.isub, 1) := by decide +kernel
theorem dX11_refuseAs_4 : decode cX11_refuseAs 4 = .ok (.istore_n 3, 1) := by decide +kernel
theorem dX11_refuseAs_5 : decode cX11_refuseAs 5 = .ok (.iload_n 3, 1) := by decide +kernel
theorem dX11_refuseAs_6 : decode cX11_refuseAs 6 = .ok (.ifCond .lt 22, 3) := by decide +kernel
theorem dX11_refuseAs_28 : decode cX11_refuseAs 28 = .ok (.iload_n 2, 1) := by decide +kernel
theorem dX11_refuseAs_29 : decode cX11_refuseAs 29 = .ok (.ireturn, 1) := by decide +kernel
theorem dX11_refuseAs_9 : decode cX11_refuseAs 9 = .ok (.iload_n 3, 1) := by decide +kernel
theorem dX11_refuseAs_10 : decode cX11_refuseAs 10 = .ok (.aload_n 0, 1) := by decide +kernel
theorem dX11_refuseAs_11 : decode cX11_refuseAs 11 = .ok (.getfield 75, 3) := by decide +kernel
theorem dX11_refuseAs_14 : decode cX11_refuseAs 14 = .ok (.arraylength, 1) := by decide +kernel
theorem dX11_refuseAs_15 : decode cX11_refuseAs 15 = .ok (.if_icmp .ge 13, 3) := by decide +kernel
theorem dX11_refuseAs_18 : decode cX11_refuseAs 18 = .ok (.aload_n 0, 1) := by decide +kernel
theorem dX11_refuseAs_19 : decode cX11_refuseAs 19 = .ok (.getfield 75, 3) := by decide +kernel
theorem dX11_refuseAs_22 : decode cX11_refuseAs 22 = .ok (.iload_n 3, 1) := by decide +kernel
theorem dX11_refuseAs_23 : decode cX11_refuseAs 23 = .ok (.dup2, 1) := by decide +kernel
theorem dX11_refuseAs_24 : decode cX11_refuseAs 24 = .ok (.iaload, 1) := by decide +kernel
theorem dX11_refuseAs_25 : decode cX11_refuseAs 25 = .ok (.iconst 1, 1) := by decide +kernel
theorem dX11_refuseAs_26 : decode cX11_refuseAs 26 = .ok (.iadd, 1) := by decide +kernel
theorem dX11_refuseAs_27 : decode cX11_refuseAs 27 = .ok (.iastore, 1) := by decide +kernel
set_option maxRecDepth 20000 in
theorem iw_k_refuseAs_X11 : ∀ w ∈ wsX110, w ∈ wsX11_refuseAs := by decide +kernel
set_option maxHeartbeats 4000000 in
set_option maxRecDepth 100000 in
theorem k_refuseAs (l : Launch) (dC : Nat → ClassId) (dI : Nat → Nat → Nat) (o : Nat) (v0 : Value) (v1 : Value) (v2 : Value) (v3 : Value) (v4 : Value) (v5 : Value) (v6 : Value) (v7 : Value) (v8 : Value) (ar : Nat) (v10 : Value) (v11 : Value) (cr : ClassId) (fr : Nat → Int32) (rs : Int32) (an : Int32) (sz : Nat) : Met l yX11_refuseAs wsX11_refuseAs ({ frames := 0, cells := 0, slots := 0, locals := 0 }) (va_Pc [.ref o, .int rs, .int an] (fun U => U.heap.size = sz ∧ va_P (dC, dI) vwCl [(o, .inr (11, [v0, v1, v2, v3, v4, v5, v6, v7, v8, .ref ar, v10, v11])), (ar, .inl (cr, 3, .inl fr))] U.heap ∧ va_K (dC, dI) vwCl [(cr, .int)] U ∧ va_D (fun _ => True) [(o, .inr (11, [v0, v1, v2, v3, v4, v5, v6, v7, v8, .ref ar, v10, v11])), (ar, .inl (cr, 3, .inl fr))])) (va_Qi (fun (r : Int32) (_ : Unit) => r = an) (fun _ _ => True) (va_A [(o, .inr (11, [v0, v1, v2, v3, v4, v5, v6, v7, v8, .ref ar, v10, v11])), (ar, .inl (cr, 3, .inl fr))] sz)) 0 0 (va_A [(o, .inr (11, [v0, v1, v2, v3, v4, v5, v6, v7, v8, .ref ar, v10, v11])), (ar, .inl (cr, 3, .inl fr))] sz) := by
  refine Met.ofW (cc := cX11_refuseAs) (maxL := 4) (ret := (some .int)) (by decide) rfl ?_
  intro p e s m args below meth c s₁ B hml hv
  obtain ⟨rfl, hsz, hP, hK, hD0⟩ := hv
  have hx := B.exec
  have hb := B.bytes
  have hr := B.returns
  have hts := atoms_spec (ws := wsX11_refuseAs) B.pre
  have hown : s.vm.findClass RX11 = some m.cls := findClass_of_methodNamed B.named
  have hlocks := B.notSynchronized
  subst hsz
  have hD := hD0.self (sz := s.heap.size)
  generalize hAe : va_A [(o, .inr (11, [v0, v1, v2, v3, v4, v5, v6, v7, v8, .ref ar, v10, v11])), (ar, .inl (cr, 3, .inl fr))] s.heap.size = A at hD ⊢
  have hA : ∀ q : Nat, s.heap.size ≤ q → A q := fun q h => by rw [← hAe]; exact Or.inr h
  have hS : va_S A s.heap s.heap [] := va_S.rf
  have hP : va_P (dC, dI) vwCl [(o, .inr (11, [v0, v1, v2, v3, v4, v5, v6, v7, v8, .ref ar, v10, v11])), (ar, .inl (cr, 3, .inl fr))] s.heap := hP
  have hl := lv_entry ([.ref o, .int rs, .int an]) (n := 4) (Nat.le_of_ble_eq_true rfl)
  rw [lg_entry_eq]
  generalize (lg_sl ([.ref o, .int rs, .int an]) ++ List.replicate (4 - (lg_sl ([.ref o, .int rs, .int an])).length) Slot.unset).toArray = ls at hl ⊢
  have hl : lv_has ls 4 [(0, .ref o), (1, .int rs), (2, .int an)] := hl
  refine lv_bipush (v := (-2)) hx hb dX11_refuseAs_0 (by decide) ?_
  refine lv_iload_n hx hb dX11_refuseAs_2 rfl (lv_at hl 1 rfl) ?_
  refine lv_isub hx hb dX11_refuseAs_3 ?_
  refine lv_istore_n (lv' := [(3, .int ((-2) - rs)), (0, .ref o), (1, .int rs), (2, .int an)]) hx hb dX11_refuseAs_4 rfl hl (by decide) rfl (fun ls hl => ?_)
  refine lv_iload_n hx hb dX11_refuseAs_5 rfl (lv_at hl 0 rfl) ?_
  refine lv_if_lt (tgt := 28) hx hb dX11_refuseAs_6 (by decide) (fun c_1 => ?_) (fun c_1 => ?_)
  · refine lv_iload_n hx hb dX11_refuseAs_28 rfl (lv_at hl 3 rfl) ?_
    exact W.iret (v := an) hx hb hr (fun t ht hW => ⟨⟨an, (), rfl, rfl, trivial⟩, hS.F ht⟩) hS.2.2 dX11_refuseAs_29
  · refine lv_iload_n hx hb dX11_refuseAs_9 rfl (lv_at hl 0 rfl) ?_
    refine lv_aload_n hx hb dX11_refuseAs_10 rfl (lv_at hl 1 rfl) ?_
    refine va_get (D := (dC, dI)) (ci := 11) (v := .ref ar) (C := RX11) (T := TX11) (N := 12) hx hb hts iw_k_refuseAs_X11 hown hK hP 0 rfl rfl 9 (by decide) (hts (.fieldLink RX11 75 "ThriceCounted" "refused" "[I") (by decide +kernel)) (fun _ h9 => h9) rfl dX11_refuseAs_11 ?_
    refine va_alen (v := 3) hx hb hK hP 1 0 rfl rfl rfl dX11_refuseAs_14 ?_
    refine lv_icmp_ge (tgt := 28) hx hb dX11_refuseAs_15 (by decide) (fun c_2 => ?_) (fun c_2 => ?_)
    · refine lv_iload_n hx hb dX11_refuseAs_28 rfl (lv_at hl 3 rfl) ?_
      exact W.iret (v := an) hx hb hr (fun t ht hW => ⟨⟨an, (), rfl, rfl, trivial⟩, hS.F ht⟩) hS.2.2 dX11_refuseAs_29
    · refine lv_aload_n hx hb dX11_refuseAs_18 rfl (lv_at hl 1 rfl) ?_
      refine va_get (D := (dC, dI)) (ci := 11) (v := .ref ar) (C := RX11) (T := TX11) (N := 12) hx hb hts iw_k_refuseAs_X11 hown hK hP 0 rfl rfl 9 (by decide) (hts (.fieldLink RX11 75 "ThriceCounted" "refused" "[I") (by decide +kernel)) (fun _ h9 => h9) rfl dX11_refuseAs_19 ?_
      refine lv_iload_n hx hb dX11_refuseAs_22 rfl (lv_at hl 0 rfl) ?_
      refine lv_dup2_11 hx hb dX11_refuseAs_23 rfl rfl ?_
      refine va_iald hx hb hK hP 1 0 rfl rfl (tz_in c_1 c_2 (by decide)) dX11_refuseAs_24 ?_
      refine lv_iconst (v := 1) hx hb dX11_refuseAs_25 (by decide) ?_
      refine lv_iadd hx hb dX11_refuseAs_26 ?_
      refine va_iast hx hb hK hP hD hS 1 0 rfl rfl (tz_in c_1 c_2 (by decide)) dX11_refuseAs_27 (fun H locs hP hD hS => ?_)
      generalize (upd fr (Int32.toNatClampNeg ((-2) - rs)) ((fr (Int32.toNatClampNeg ((-2) - rs))) + 1)) = f_3 at hP hD
      have hP : va_P (dC, dI) vwCl [(o, .inr (11, [v0, v1, v2, v3, v4, v5, v6, v7, v8, .ref ar, v10, v11])), (ar, .inl (cr, 3, .inl f_3))] H := hP
      have hD : va_D A [(o, .inr (11, [v0, v1, v2, v3, v4, v5, v6, v7, v8, .ref ar, v10, v11])), (ar, .inl (cr, 3, .inl f_3))] := hD
      refine lv_iload_n hx hb dX11_refuseAs_28 rfl (lv_at hl 3 rfl) ?_
      exact W.iret (v := an) hx hb hr (fun t ht hW => ⟨⟨an, (), rfl, rfl, trivial⟩, hS.F ht⟩) hS.2.2 dX11_refuseAs_29
set_option maxRecDepth 20000 in
theorem ggX11_refuse_X11_refuseAs : GoodIn wsX11_refuse wsX11_refuseAs := goodIn_r _ [5, 6, 7, 8, 9, 10, 11, 12, 13, 14, 15, 16, 17, 18] (by decide +kernel) (by decide +kernel)
set_option maxRecDepth 20000 in
theorem gX11_refuse_X11_refuseAs : GoodIn wsX11_refuse (wsV RX11 172 RX11 yX11_refuseAs wsX11_refuseAs) := goodIn_app (goodIn_of _ (by decide +kernel)) ggX11_refuse_X11_refuseAs
theorem dX11_refuse_0 : decode cX11_refuse 0 = .ok (.aload_n 0, 1) := by decide +kernel
theorem dX11_refuse_1 : decode cX11_refuse 1 = .ok (.iload_n 1, 1) := by decide +kernel
theorem dX11_refuse_2 : decode cX11_refuse 2 = .ok (.iload_n 1, 1) := by decide +kernel
theorem dX11_refuse_3 : decode cX11_refuse 3 = .ok (.invokevirtual 172, 3) := by decide +kernel
theorem dX11_refuse_6 : decode cX11_refuse 6 = .ok (.ireturn, 1) := by decide +kernel
set_option maxHeartbeats 4000000 in
set_option maxRecDepth 100000 in
theorem k_refuse (l : Launch) (dC : Nat → ClassId) (dI : Nat → Nat → Nat) (o : Nat) (v0 : Value) (v1 : Value) (v2 : Value) (v3 : Value) (v4 : Value) (v5 : Value) (v6 : Value) (v7 : Value) (v8 : Value) (ar : Nat) (v10 : Value) (v11 : Value) (cr : ClassId) (fr : Nat → Int32) (rs : Int32) (sz : Nat) : Met l yX11_refuse wsX11_refuse ({ frames := 1, cells := 0, slots := 0, locals := 23 }) (va_Pc [.ref o, .int rs] (fun U => U.heap.size = sz ∧ va_P (dC, dI) vwCl [(o, .inr (11, [v0, v1, v2, v3, v4, v5, v6, v7, v8, .ref ar, v10, v11])), (ar, .inl (cr, 3, .inl fr))] U.heap ∧ va_K (dC, dI) vwCl [(cr, .int)] U ∧ va_D (fun _ => True) [(o, .inr (11, [v0, v1, v2, v3, v4, v5, v6, v7, v8, .ref ar, v10, v11])), (ar, .inl (cr, 3, .inl fr))])) (va_Qi (fun (r : Int32) (_ : Unit) => r = rs) (fun _ _ => True) (va_A [(o, .inr (11, [v0, v1, v2, v3, v4, v5, v6, v7, v8, .ref ar, v10, v11])), (ar, .inl (cr, 3, .inl fr))] sz)) 0 0 (va_A [(o, .inr (11, [v0, v1, v2, v3, v4, v5, v6, v7, v8, .ref ar, v10, v11])), (ar, .inl (cr, 3, .inl fr))] sz) := by
  refine Met.ofW (cc := cX11_refuse) (maxL := 2) (ret := (some .int)) (by decide) rfl ?_
  intro p e s m args below meth c s₁ B hml hv
  obtain ⟨rfl, hsz, hP, hK, hD0⟩ := hv
  have hx := B.exec
  have hb := B.bytes
  have hr := B.returns
  have hts := atoms_spec (ws := wsX11_refuse) B.pre
  have hown : s.vm.findClass RX11 = some m.cls := findClass_of_methodNamed B.named
  have hlocks := B.notSynchronized
  subst hsz
  have hD := hD0.self (sz := s.heap.size)
  generalize hAe : va_A [(o, .inr (11, [v0, v1, v2, v3, v4, v5, v6, v7, v8, .ref ar, v10, v11])), (ar, .inl (cr, 3, .inl fr))] s.heap.size = A at hD ⊢
  have hA : ∀ q : Nat, s.heap.size ≤ q → A q := fun q h => by rw [← hAe]; exact Or.inr h
  have hS : va_S A s.heap s.heap [] := va_S.rf
  have hP : va_P (dC, dI) vwCl [(o, .inr (11, [v0, v1, v2, v3, v4, v5, v6, v7, v8, .ref ar, v10, v11])), (ar, .inl (cr, 3, .inl fr))] s.heap := hP
  have hl := lv_entry ([.ref o, .int rs]) (n := 2) (Nat.le_of_ble_eq_true rfl)
  rw [lg_entry_eq]
  generalize (lg_sl ([.ref o, .int rs]) ++ List.replicate (2 - (lg_sl ([.ref o, .int rs])).length) Slot.unset).toArray = ls at hl ⊢
  have hl : lv_has ls 2 [(0, .ref o), (1, .int rs)] := hl
  refine lv_aload_n hx hb dX11_refuse_0 rfl (lv_at hl 0 rfl) ?_
  refine lv_iload_n hx hb dX11_refuse_1 rfl (lv_at hl 1 rfl) ?_
  refine lv_iload_n hx hb dX11_refuse_2 rfl (lv_at hl 1 rfl) ?_
  have hPc := hP.sub (ws' := [(o, .inr (11, [v0, v1, v2, v3, v4, v5, v6, v7, v8, .ref ar, v10, v11])), (ar, .inl (cr, 3, .inl fr))]) [0, 1] rfl
  have hDc := hD.sub (ws' := [(o, .inr (11, [v0, v1, v2, v3, v4, v5, v6, v7, v8, .ref ar, v10, v11])), (ar, .inl (cr, 3, .inl fr))]) [0, 1] (by decide) rfl
  have hKc := hK.sub (tys' := [(cr, .int)]) [0] rfl
  have hFc := va_free (wc := [(o, .inr (11, [v0, v1, v2, v3, v4, v5, v6, v7, v8, .ref ar, v10, v11])), (ar, .inl (cr, 3, .inl fr))]) hD hS hA [0, 1] rfl
  refine va_calli (va_runV (As := [.int rs, .int rs]) (rest := []) ⟨hx, hb, hml, hown, hts⟩ (k_refuseAs l dC dI o v0 v1 v2 v3 v4 v5 v6 v7 v8 ar v10 v11 cr fr rs rs s.heap.size) (cwV 2 hts gX11_refuse_X11_refuseAs rfl rfl rfl (by decide +kernel) ⟨Nat.le_of_ble_eq_true rfl, Nat.le_of_ble_eq_true rfl⟩) ⟨fun a U g mk q => by obtain ⟨q0, q1, qP, qK, qD⟩ := q; exact ⟨q0, q1, qP, va_K.moved (u := U) (U := U.calling g mk a) (Vm.Alike.refl U.vm) qK, qD⟩, va_recv hK hP (ci := 11) (q0 := 0) rfl rfl, fun U hU hW => ⟨rfl, by rw [hU], by rw [hU]; exact hPc, va_K.moved hW.alike hKc, hDc.weaken (fun _ _ _ _ => trivial)⟩⟩ rfl rfl hl.1 rfl (lv_room (Nat.le_of_ble_eq_true rfl)) dX11_refuse_3 ⟨Nat.le_of_ble_eq_true rfl, Nat.le_of_ble_eq_true rfl⟩) hS (fun q _ h => hFc q h) hFc (fun r_1 u_ t H1 locs ht hvm hw_2 hB hz1 hk1 hS => ?_)
  obtain ⟨hP, hD⟩ := va_join (wr := []) (w1 := []) hP hD [0, 1] [] rfl rfl (by decide) (by decide) hk1 hFc tz_P0 tz_D0
  generalize H1 = H at hP hS ⊢
  have hP : va_P (dC, dI) vwCl [] H := hP
  have hD : va_D A [] := hD
  obtain rfl : rs = r_1 := hw_2.symm
  exact W.iret (v := rs) hx hb hr (fun t ht hW => ⟨⟨rs, (), rfl, rfl, trivial⟩, hS.F ht⟩) hS.2.2 dX11_refuse_6
