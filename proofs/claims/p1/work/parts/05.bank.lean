set_option maxRecDepth 20000 in
theorem ggX0_addClerk_X6_grow : GoodIn wsX0_addClerk wsX6_grow := goodIn_r _ [6, 7, 8, 9, 10, 5, 11, 12, 29, 30, 31, 32] (by decide +kernel) (by decide +kernel)
set_option maxRecDepth 20000 in
theorem gX0_addClerk_X6_grow : GoodIn wsX0_addClerk (wsV RX0 50 RX6 yX6_grow wsX6_grow) := goodIn_app (goodIn_of _ (by decide +kernel)) ggX0_addClerk_X6_grow
set_option maxRecDepth 20000 in
theorem ggX0_addClerk_X6_put : GoodIn wsX0_addClerk wsX6_put := goodIn_r _ [16, 17, 18, 19, 20, 21, 5, 22, 7, 29, 30, 31, 32] (by decide +kernel) (by decide +kernel)
set_option maxRecDepth 20000 in
theorem gX0_addClerk_X6_put : GoodIn wsX0_addClerk (wsV RX0 54 RX6 yX6_put wsX6_put) := goodIn_app (goodIn_of _ (by decide +kernel)) ggX0_addClerk_X6_put
theorem dX0_addClerk_0 : decode cX0_addClerk 0 = .ok (.aload_n 0, 1) := by decide +kernel
theorem dX0_addClerk_1 : decode cX0_addClerk 1 = .ok (.getfield 14, 3) := by decide +kernel
theorem dX0_addClerk_4 : decode cX0_addClerk 4 = .ok (.invokevirtual 50, 3) := by decide +kernel
theorem dX0_addClerk_7 : decode cX0_addClerk 7 = .ok (.istore_n 2, 1) := by decide +kernel
theorem dX0_addClerk_8 : decode cX0_addClerk 8 = .ok (.aload_n 0, 1) := by decide +kernel
theorem dX0_addClerk_9 : decode cX0_addClerk 9 = .ok (.getfield 14, 3) := by decide +kernel
theorem dX0_addClerk_12 : decode cX0_addClerk 12 = .ok (.iload_n 2, 1) := by decide +kernel
theorem dX0_addClerk_13 : decode cX0_addClerk 13 = .ok (.iconst 0, 1) := by decide +kernel
theorem dX0_addClerk_14 : decode cX0_addClerk 14 = .ok (.iload_n 1, 1) := by decide +kernel
theorem dX0_addClerk_15 : decode cX0_addClerk 15 = .ok (.invokevirtual 54, 3) := by decide +kernel
theorem dX0_addClerk_18 : decode cX0_addClerk 18 = .ok (.iload_n 2, 1) := by decide +kernel
theorem dX0_addClerk_19 : decode cX0_addClerk 19 = .ok (.ireturn, 1) := by decide +kernel
set_option maxRecDepth 20000 in
theorem iw_k_addClerk_X0 : ∀ w ∈ wsX00, w ∈ wsX0_addClerk := by decide +kernel
set_option maxHeartbeats 4000000 in
set_option maxRecDepth 100000 in
theorem k_addClerk (l : Launch) (dC : Nat → ClassId) (dI : Nat → Nat → Nat) (bo : Nat) (ro : Nat) (vb1 : Value) (vb2 : Value) (vb3 : Value) (vb4 : Value) (vb5 : Value) (ca : Nat) (cc0 : ClassId) (ff : Nat → Int32) (na : Int32) (sz : Nat) : Met l yX0_addClerk wsX0_addClerk ({ frames := 2, cells := 0, slots := 0, locals := 45 }) (va_Pc [.ref bo, .int na] (fun U => U.heap.size = sz ∧ va_P (dC, dI) vwCl [(bo, .inr (0, [.ref ro, vb1, vb2, vb3, vb4, vb5])), (ro, .inr (6, [.int 1, .int 5, .ref ca, .int 0])), (ca, .inl (cc0, 5, .inl ff))] U.heap ∧ va_K (dC, dI) vwCl [(cc0, .int)] U ∧ va_D (fun _ => True) [(bo, .inr (0, [.ref ro, vb1, vb2, vb3, vb4, vb5])), (ro, .inr (6, [.int 1, .int 5, .ref ca, .int 0])), (ca, .inl (cc0, 5, .inl ff))])) (va_Qi (fun (r : Int32) (_ : Unit) => r = 0) (fun _ _ => True) (va_A [(bo, .inr (0, [.ref ro, vb1, vb2, vb3, vb4, vb5])), (ro, .inr (6, [.int 1, .int 5, .ref ca, .int 0])), (ca, .inl (cc0, 5, .inl ff))] sz)) 0 0 (va_A [(bo, .inr (0, [.ref ro, vb1, vb2, vb3, vb4, vb5])), (ro, .inr (6, [.int 1, .int 5, .ref ca, .int 0])), (ca, .inl (cc0, 5, .inl ff))] sz) := by
  refine Met.ofW (cc := cX0_addClerk) (maxL := 3) (ret := (some .int)) (by decide) rfl ?_
  intro p e s m args below meth c s₁ B hml hv
  obtain ⟨rfl, hsz, hP, hK, hD0⟩ := hv
  have hx := B.exec
  have hb := B.bytes
  have hr := B.returns
  have hts := atoms_spec (ws := wsX0_addClerk) B.pre
  have hown : s.vm.findClass RX0 = some m.cls := findClass_of_methodNamed B.named
  have hlocks := B.notSynchronized
  subst hsz
  have hD := hD0.self (sz := s.heap.size)
  generalize hAe : va_A [(bo, .inr (0, [.ref ro, vb1, vb2, vb3, vb4, vb5])), (ro, .inr (6, [.int 1, .int 5, .ref ca, .int 0])), (ca, .inl (cc0, 5, .inl ff))] s.heap.size = A at hD ⊢
  have hA : ∀ q : Nat, s.heap.size ≤ q → A q := fun q h => by rw [← hAe]; exact Or.inr h
  have hS : va_S A s.heap s.heap [] := va_S.rf
  have hP : va_P (dC, dI) vwCl [(bo, .inr (0, [.ref ro, vb1, vb2, vb3, vb4, vb5])), (ro, .inr (6, [.int 1, .int 5, .ref ca, .int 0])), (ca, .inl (cc0, 5, .inl ff))] s.heap := hP
  have hl := lv_entry ([.ref bo, .int na]) (n := 3) (Nat.le_of_ble_eq_true rfl)
  rw [lg_entry_eq]
  generalize (lg_sl ([.ref bo, .int na]) ++ List.replicate (3 - (lg_sl ([.ref bo, .int na])).length) Slot.unset).toArray = ls at hl ⊢
  have hl : lv_has ls 3 [(0, .ref bo), (1, .int na)] := hl
  refine lv_aload_n hx hb dX0_addClerk_0 rfl (lv_at hl 0 rfl) ?_
  refine va_get (D := (dC, dI)) (ci := 0) (v := .ref ro) (C := RX0) (T := TX0) (N := 6) hx hb hts iw_k_addClerk_X0 hown hK hP 0 rfl rfl 0 (by decide) (hts (.fieldLink RX0 14 "ThriceCounted$Bank" "clerks" "LThriceCounted$Rows;") (by decide +kernel)) (fun _ h9 => h9) rfl dX0_addClerk_1 ?_
  have hPc := hP.sub (ws' := [(ro, .inr (6, [.int 1, .int 5, .ref ca, .int 0]))]) [1] rfl
  have hDc := hD.sub (ws' := [(ro, .inr (6, [.int 1, .int 5, .ref ca, .int 0]))]) [1] (by decide) rfl
  have hKc := hK.sub (tys' := []) [] rfl
  have hFc := va_free (wc := [(ro, .inr (6, [.int 1, .int 5, .ref ca, .int 0]))]) hD hS hA [1] rfl
  refine va_calli (va_runV (As := []) (rest := []) ⟨hx, hb, hml, hown, hts⟩ (k_grow l dC dI ro (.int 1) 5 (.ref ca) s.heap.size (by decide)) (cwV 0 hts gX0_addClerk_X6_grow rfl rfl rfl (by decide +kernel) ⟨Nat.le_of_ble_eq_true rfl, Nat.le_of_ble_eq_true rfl⟩) ⟨fun a U g mk q => by obtain ⟨q0, q1, qP, qK, qD⟩ := q; exact ⟨q0, q1, qP, va_K.moved (u := U) (U := U.calling g mk a) (Vm.Alike.refl U.vm) qK, qD⟩, va_recv hK hP (ci := 6) (q0 := 1) rfl rfl, fun U hU hW => ⟨rfl, by rw [hU], by rw [hU]; exact hPc, va_K.moved hW.alike hKc, hDc.weaken (fun _ _ _ _ => trivial)⟩⟩ rfl rfl hl.1 rfl (lv_room (Nat.le_of_ble_eq_true rfl)) dX0_addClerk_4 ⟨Nat.le_of_ble_eq_true rfl, Nat.le_of_ble_eq_true rfl⟩) hS (fun q _ h => hFc q h) hFc (fun r_1 u_ t H1 locs ht hvm hw_2 hB hz1 hk1 hS => ?_)
  obtain ⟨hP1, hK1, hD1⟩ := hB
  rw [ht] at hP1
  have hK1 := va_K.moved hvm.symm hK1
  obtain ⟨hP, hD⟩ := va_join (wr := [(bo, .inr (0, [.ref ro, vb1, vb2, vb3, vb4, vb5])), (ca, .inl (cc0, 5, .inl ff))]) (w1 := [(ro, .inr (6, [.int 1, .int 5, .ref ca, .int 1]))]) hP hD [1] [0, 2] rfl rfl (by decide) (by decide) hk1 hFc hP1 hD1
  generalize H1 = H at hP hS ⊢
  have hP : va_P (dC, dI) vwCl [(bo, .inr (0, [.ref ro, vb1, vb2, vb3, vb4, vb5])), (ca, .inl (cc0, 5, .inl ff)), (ro, .inr (6, [.int 1, .int 5, .ref ca, .int 1]))] H := hP
  have hD : va_D A [(bo, .inr (0, [.ref ro, vb1, vb2, vb3, vb4, vb5])), (ca, .inl (cc0, 5, .inl ff)), (ro, .inr (6, [.int 1, .int 5, .ref ca, .int 1]))] := hD
  obtain rfl : 0 = r_1 := hw_2.symm
  refine lv_istore_n (lv' := [(2, .int 0), (0, .ref bo), (1, .int na)]) hx hb dX0_addClerk_7 rfl hl (by decide) rfl (fun ls hl => ?_)
  refine lv_aload_n hx hb dX0_addClerk_8 rfl (lv_at hl 1 rfl) ?_
  refine va_get (D := (dC, dI)) (ci := 0) (v := .ref ro) (C := RX0) (T := TX0) (N := 6) hx hb hts iw_k_addClerk_X0 hown hK hP 0 rfl rfl 0 (by decide) (hts (.fieldLink RX0 14 "ThriceCounted$Bank" "clerks" "LThriceCounted$Rows;") (by decide +kernel)) (fun _ h9 => h9) rfl dX0_addClerk_9 ?_
  refine lv_iload_n hx hb dX0_addClerk_12 rfl (lv_at hl 0 rfl) ?_
  refine lv_iconst (v := 0) hx hb dX0_addClerk_13 (by decide) ?_
  refine lv_iload_n hx hb dX0_addClerk_14 rfl (lv_at hl 2 rfl) ?_
  have hPc := hP.sub (ws' := [(ro, .inr (6, [.int 1, .int 5, .ref ca, .int 1])), (ca, .inl (cc0, 5, .inl ff))]) [2, 1] rfl
  have hDc := hD.sub (ws' := [(ro, .inr (6, [.int 1, .int 5, .ref ca, .int 1])), (ca, .inl (cc0, 5, .inl ff))]) [2, 1] (by decide) rfl
  have hKc := hK.sub (tys' := [(cc0, .int)]) [0] rfl
  have hFc := va_free (wc := [(ro, .inr (6, [.int 1, .int 5, .ref ca, .int 1])), (ca, .inl (cc0, 5, .inl ff))]) hD hS hA [2, 1] rfl
  refine va_callv (va_runV (As := [.int 0, .int 0, .int na]) (rest := []) ⟨hx, hb, hml, hown, hts⟩ (k_put_5_0 l dC dI ro ca cc0 ff na H.size) (cwV 3 hts gX0_addClerk_X6_put rfl rfl rfl (by decide +kernel) ⟨Nat.le_of_ble_eq_true rfl, Nat.le_of_ble_eq_true rfl⟩) ⟨fun a U g mk q => by obtain ⟨q0, q1, qP, qK, qD⟩ := q; exact ⟨q0, q1, qP, va_K.moved (u := U) (U := U.calling g mk a) (Vm.Alike.refl U.vm) qK, qD⟩, va_recv hK hP (ci := 6) (q0 := 2) rfl rfl, fun U hU hW => ⟨rfl, by rw [hU], by rw [hU]; exact hPc, va_K.moved hW.alike hKc, hDc.weaken (fun _ _ _ _ => trivial)⟩⟩ rfl rfl hl.1 rfl (lv_room (Nat.le_of_ble_eq_true rfl)) dX0_addClerk_15 ⟨Nat.le_of_ble_eq_true rfl, Nat.le_of_ble_eq_true rfl⟩) hS (fun q _ h => hFc q h) hFc (fun u_ t H1 locs ht hvm hw_4 hB hz1 hk1 hS => ?_)
  obtain ⟨fg_5, hP1, hK1, hD1⟩ := hB
  rw [ht] at hP1
  have hK1 := va_K.moved hvm.symm hK1
  obtain ⟨hP, hD⟩ := va_join (wr := [(bo, .inr (0, [.ref ro, vb1, vb2, vb3, vb4, vb5]))]) (w1 := [(ro, .inr (6, [.int 1, .int 5, .ref ca, .int 1])), (ca, .inl (cc0, 5, .inl fg_5))]) hP hD [2, 1] [0] rfl rfl (by decide) (by decide) hk1 hFc hP1 hD1
  generalize H1 = H at hP hS ⊢
  have hP : va_P (dC, dI) vwCl [(bo, .inr (0, [.ref ro, vb1, vb2, vb3, vb4, vb5])), (ro, .inr (6, [.int 1, .int 5, .ref ca, .int 1])), (ca, .inl (cc0, 5, .inl fg_5))] H := hP
  have hD : va_D A [(bo, .inr (0, [.ref ro, vb1, vb2, vb3, vb4, vb5])), (ro, .inr (6, [.int 1, .int 5, .ref ca, .int 1])), (ca, .inl (cc0, 5, .inl fg_5))] := hD
  refine lv_iload_n hx hb dX0_addClerk_18 rfl (lv_at hl 0 rfl) ?_
  exact W.iret (v := 0) hx hb hr (fun t ht hW => ⟨⟨0, (), rfl, rfl, trivial⟩, hS.F ht⟩) hS.2.2 dX0_addClerk_19
set_option maxRecDepth 20000 in
theorem ggX0_addBundle_X6_grow : GoodIn wsX0_addBundle wsX6_grow := goodIn_r _ [6, 7, 8, 9, 10, 5, 11, 12, 29, 30, 31, 32] (by decide +kernel) (by decide +kernel)
set_option maxRecDepth 20000 in
theorem gX0_addBundle_X6_grow : GoodIn wsX0_addBundle (wsV RX0 50 RX6 yX6_grow wsX6_grow) := goodIn_app (goodIn_of _ (by decide +kernel)) ggX0_addBundle_X6_grow
set_option maxRecDepth 20000 in
theorem ggX0_addBundle_X6_put : GoodIn wsX0_addBundle wsX6_put := goodIn_r _ [16, 17, 18, 19, 20, 21, 5, 22, 7, 29, 30, 31, 32] (by decide +kernel) (by decide +kernel)
set_option maxRecDepth 20000 in
theorem gX0_addBundle_X6_put : GoodIn wsX0_addBundle (wsV RX0 54 RX6 yX6_put wsX6_put) := goodIn_app (goodIn_of _ (by decide +kernel)) ggX0_addBundle_X6_put
theorem dX0_addBundle_0 : decode cX0_addBundle 0 = .ok (.aload_n 0, 1) := by decide +kernel
theorem dX0_addBundle_1 : decode cX0_addBundle 1 = .ok (.getfield 20, 3) := by decide +kernel
theorem dX0_addBundle_4 : decode cX0_addBundle 4 = .ok (.invokevirtual 50, 3) := by decide +kernel
theorem dX0_addBundle_7 : decode cX0_addBundle 7 = .ok (.istore_n 3, 1) := by decide +kernel
theorem dX0_addBundle_8 : decode cX0_addBundle 8 = .ok (.aload_n 0, 1) := by decide +kernel
theorem dX0_addBundle_9 : decode cX0_addBundle 9 = .ok (.getfield 20, 3) := by decide +kernel
theorem dX0_addBundle_12 : decode cX0_addBundle 12 = .ok (.iload_n 3, 1) := by decide +kernel
theorem dX0_addBundle_13 : decode cX0_addBundle 13 = .ok (.iconst 0, 1) := by decide +kernel
theorem dX0_addBundle_14 : decode cX0_addBundle 14 = .ok (.iload_n 1, 1) := by decide +kernel
theorem dX0_addBundle_15 : decode cX0_addBundle 15 = .ok (.invokevirtual 54, 3) := by decide +kernel
theorem dX0_addBundle_18 : decode cX0_addBundle 18 = .ok (.aload_n 0, 1) := by decide +kernel
theorem dX0_addBundle_19 : decode cX0_addBundle 19 = .ok (.getfield 20, 3) := by decide +kernel
theorem dX0_addBundle_22 : decode cX0_addBundle 22 = .ok (.iload_n 3, 1) := by decide +kernel
theorem dX0_addBundle_23 : decode cX0_addBundle 23 = .ok (.iconst 1, 1) := by decide +kernel
theorem dX0_addBundle_24 : decode cX0_addBundle 24 = .ok (.iload_n 2, 1) := by decide +kernel
theorem dX0_addBundle_25 : decode cX0_addBundle 25 = .ok (.invokevirtual 54, 3) := by decide +kernel
theorem dX0_addBundle_28 : decode cX0_addBundle 28 = .ok (.aload_n 0, 1) := by decide +kernel
theorem dX0_addBundle_29 : decode cX0_addBundle 29 = .ok (.getfield 20, 3) := by decide +kernel
theorem dX0_addBundle_32 : decode cX0_addBundle 32 = .ok (.iload_n 3, 1) := by decide +kernel
theorem dX0_addBundle_33 : decode cX0_addBundle 33 = .ok (.iconst 2, 1) := by decide +kernel
theorem dX0_addBundle_34 : decode cX0_addBundle 34 = .ok (.iconst (-1), 1) := by decide +kernel
theorem dX0_addBundle_35 : decode cX0_addBundle 35 = .ok (.invokevirtual 54, 3) := by decide +kernel
theorem dX0_addBundle_38 : decode cX0_addBundle 38 = .ok (.aload_n 0, 1) := by decide +kernel
theorem dX0_addBundle_39 : decode cX0_addBundle 39 = .ok (.getfield 20, 3) := by decide +kernel
theorem dX0_addBundle_42 : decode cX0_addBundle 42 = .ok (.iload_n 3, 1) := by decide +kernel
theorem dX0_addBundle_43 : decode cX0_addBundle 43 = .ok (.iconst 3, 1) := by decide +kernel
theorem dX0_addBundle_44 : decode cX0_addBundle 44 = .ok (.iconst (-1), 1) := by decide +kernel
theorem dX0_addBundle_45 : decode cX0_addBundle 45 = .ok (.invokevirtual 54, 3) := by decide +kernel
theorem dX0_addBundle_48 : decode cX0_addBundle 48 = .ok (.iload_n 3, 1) := by decide +kernel
theorem dX0_addBundle_49 : decode cX0_addBundle 49 = .ok (.ireturn, 1) := by decide +kernel
set_option maxRecDepth 20000 in
theorem iw_k_addBundle_X0 : ∀ w ∈ wsX00, w ∈ wsX0_addBundle := by decide +kernel
set_option maxHeartbeats 4000000 in
set_option maxRecDepth 100000 in
theorem k_addBundle (l : Launch) (dC : Nat → ClassId) (dI : Nat → Nat → Nat) (bo : Nat) (vb0 : Value) (ro : Nat) (vb2 : Value) (vb3 : Value) (vb4 : Value) (vb5 : Value) (ca : Nat) (cc0 : ClassId) (ff : Nat → Int32) (na : Int32) (nb : Int32) (sz : Nat) : Met l yX0_addBundle wsX0_addBundle ({ frames := 2, cells := 0, slots := 0, locals := 45 }) (va_Pc [.ref bo, .int na, .int nb] (fun U => U.heap.size = sz ∧ va_P (dC, dI) vwCl [(bo, .inr (0, [vb0, .ref ro, vb2, vb3, vb4, vb5])), (ro, .inr (6, [.int 4, .int 5, .ref ca, .int 0])), (ca, .inl (cc0, 20, .inl ff))] U.heap ∧ va_K (dC, dI) vwCl [(cc0, .int)] U ∧ va_D (fun _ => True) [(bo, .inr (0, [vb0, .ref ro, vb2, vb3, vb4, vb5])), (ro, .inr (6, [.int 4, .int 5, .ref ca, .int 0])), (ca, .inl (cc0, 20, .inl ff))])) (va_Qi (fun (r : Int32) (_ : Unit) => r = 0) (fun _ _ => True) (va_A [(bo, .inr (0, [vb0, .ref ro, vb2, vb3, vb4, vb5])), (ro, .inr (6, [.int 4, .int 5, .ref ca, .int 0])), (ca, .inl (cc0, 20, .inl ff))] sz)) 0 0 (va_A [(bo, .inr (0, [vb0, .ref ro, vb2, vb3, vb4, vb5])), (ro, .inr (6, [.int 4, .int 5, .ref ca, .int 0])), (ca, .inl (cc0, 20, .inl ff))] sz) := by
  refine Met.ofW (cc := cX0_addBundle) (maxL := 4) (ret := (some .int)) (by decide) rfl ?_
  intro p e s m args below meth c s₁ B hml hv
  obtain ⟨rfl, hsz, hP, hK, hD0⟩ := hv
  have hx := B.exec
  have hb := B.bytes
  have hr := B.returns
  have hts := atoms_spec (ws := wsX0_addBundle) B.pre
  have hown : s.vm.findClass RX0 = some m.cls := findClass_of_methodNamed B.named
  have hlocks := B.notSynchronized
  subst hsz
  have hD := hD0.self (sz := s.heap.size)
  generalize hAe : va_A [(bo, .inr (0, [vb0, .ref ro, vb2, vb3, vb4, vb5])), (ro, .inr (6, [.int 4, .int 5, .ref ca, .int 0])), (ca, .inl (cc0, 20, .inl ff))] s.heap.size = A at hD ⊢
  have hA : ∀ q : Nat, s.heap.size ≤ q → A q := fun q h => by rw [← hAe]; exact Or.inr h
  have hS : va_S A s.heap s.heap [] := va_S.rf
  have hP : va_P (dC, dI) vwCl [(bo, .inr (0, [vb0, .ref ro, vb2, vb3, vb4, vb5])), (ro, .inr (6, [.int 4, .int 5, .ref ca, .int 0])), (ca, .inl (cc0, 20, .inl ff))] s.heap := hP
  have hl := lv_entry ([.ref bo, .int na, .int nb]) (n := 4) (Nat.le_of_ble_eq_true rfl)
  rw [lg_entry_eq]
  generalize (lg_sl ([.ref bo, .int na, .int nb]) ++ List.replicate (4 - (lg_sl ([.ref bo, .int na, .int nb])).length) Slot.unset).toArray = ls at hl ⊢
  have hl : lv_has ls 4 [(0, .ref bo), (1, .int na), (2, .int nb)] := hl
  refine lv_aload_n hx hb dX0_addBundle_0 rfl (lv_at hl 0 rfl) ?_
  refine va_get (D := (dC, dI)) (ci := 0) (v := .ref ro) (C := RX0) (T := TX0) (N := 6) hx hb hts iw_k_addBundle_X0 hown hK hP 0 rfl rfl 1 (by decide) (hts (.fieldLink RX0 20 "ThriceCounted$Bank" "bundles" "LThriceCounted$Rows;") (by decide +kernel)) (fun _ h9 => h9) rfl dX0_addBundle_1 ?_
  have hPc := hP.sub (ws' := [(ro, .inr (6, [.int 4, .int 5, .ref ca, .int 0]))]) [1] rfl
  have hDc := hD.sub (ws' := [(ro, .inr (6, [.int 4, .int 5, .ref ca, .int 0]))]) [1] (by decide) rfl
  have hKc := hK.sub (tys' := []) [] rfl
  have hFc := va_free (wc := [(ro, .inr (6, [.int 4, .int 5, .ref ca, .int 0]))]) hD hS hA [1] rfl
  refine va_calli (va_runV (As := []) (rest := []) ⟨hx, hb, hml, hown, hts⟩ (k_grow l dC dI ro (.int 4) 5 (.ref ca) s.heap.size (by decide)) (cwV 0 hts gX0_addBundle_X6_grow rfl rfl rfl (by decide +kernel) ⟨Nat.le_of_ble_eq_true rfl, Nat.le_of_ble_eq_true rfl⟩) ⟨fun a U g mk q => by obtain ⟨q0, q1, qP, qK, qD⟩ := q; exact ⟨q0, q1, qP, va_K.moved (u := U) (U := U.calling g mk a) (Vm.Alike.refl U.vm) qK, qD⟩, va_recv hK hP (ci := 6) (q0 := 1) rfl rfl, fun U hU hW => ⟨rfl, by rw [hU], by rw [hU]; exact hPc, va_K.moved hW.alike hKc, hDc.weaken (fun _ _ _ _ => trivial)⟩⟩ rfl rfl hl.1 rfl (lv_room (Nat.le_of_ble_eq_true rfl)) dX0_addBundle_4 ⟨Nat.le_of_ble_eq_true rfl, Nat.le_of_ble_eq_true rfl⟩) hS (fun q _ h => hFc q h) hFc (fun r_1 u_ t H1 locs ht hvm hw_2 hB hz1 hk1 hS => ?_)
  obtain ⟨hP1, hK1, hD1⟩ := hB
  rw [ht] at hP1
  have hK1 := va_K.moved hvm.symm hK1
  obtain ⟨hP, hD⟩ := va_join (wr := [(bo, .inr (0, [vb0, .ref ro, vb2, vb3, vb4, vb5])), (ca, .inl (cc0, 20, .inl ff))]) (w1 := [(ro, .inr (6, [.int 4, .int 5, .ref ca, .int 1]))]) hP hD [1] [0, 2] rfl rfl (by decide) (by decide) hk1 hFc hP1 hD1
  generalize H1 = H at hP hS ⊢
  have hP : va_P (dC, dI) vwCl [(bo, .inr (0, [vb0, .ref ro, vb2, vb3, vb4, vb5])), (ca, .inl (cc0, 20, .inl ff)), (ro, .inr (6, [.int 4, .int 5, .ref ca, .int 1]))] H := hP
  have hD : va_D A [(bo, .inr (0, [vb0, .ref ro, vb2, vb3, vb4, vb5])), (ca, .inl (cc0, 20, .inl ff)), (ro, .inr (6, [.int 4, .int 5, .ref ca, .int 1]))] := hD
  obtain rfl : 0 = r_1 := hw_2.symm
  refine lv_istore_n (lv' := [(3, .int 0), (0, .ref bo), (1, .int na), (2, .int nb)]) hx hb dX0_addBundle_7 rfl hl (by decide) rfl (fun ls hl => ?_)
  refine lv_aload_n hx hb dX0_addBundle_8 rfl (lv_at hl 1 rfl) ?_
  refine va_get (D := (dC, dI)) (ci := 0) (v := .ref ro) (C := RX0) (T := TX0) (N := 6) hx hb hts iw_k_addBundle_X0 hown hK hP 0 rfl rfl 1 (by decide) (hts (.fieldLink RX0 20 "ThriceCounted$Bank" "bundles" "LThriceCounted$Rows;") (by decide +kernel)) (fun _ h9 => h9) rfl dX0_addBundle_9 ?_
  refine lv_iload_n hx hb dX0_addBundle_12 rfl (lv_at hl 0 rfl) ?_
  refine lv_iconst (v := 0) hx hb dX0_addBundle_13 (by decide) ?_
  refine lv_iload_n hx hb dX0_addBundle_14 rfl (lv_at hl 2 rfl) ?_
  have hPc := hP.sub (ws' := [(ro, .inr (6, [.int 4, .int 5, .ref ca, .int 1])), (ca, .inl (cc0, 20, .inl ff))]) [2, 1] rfl
  have hDc := hD.sub (ws' := [(ro, .inr (6, [.int 4, .int 5, .ref ca, .int 1])), (ca, .inl (cc0, 20, .inl ff))]) [2, 1] (by decide) rfl
  have hKc := hK.sub (tys' := [(cc0, .int)]) [0] rfl
  have hFc := va_free (wc := [(ro, .inr (6, [.int 4, .int 5, .ref ca, .int 1])), (ca, .inl (cc0, 20, .inl ff))]) hD hS hA [2, 1] rfl
  refine va_callv (va_runV (As := [.int 0, .int 0, .int na]) (rest := []) ⟨hx, hb, hml, hown, hts⟩ (k_put_20_0 l dC dI ro ca cc0 ff na H.size) (cwV 3 hts gX0_addBundle_X6_put rfl rfl rfl (by decide +kernel) ⟨Nat.le_of_ble_eq_true rfl, Nat.le_of_ble_eq_true rfl⟩) ⟨fun a U g mk q => by obtain ⟨q0, q1, qP, qK, qD⟩ := q; exact ⟨q0, q1, qP, va_K.moved (u := U) (U := U.calling g mk a) (Vm.Alike.refl U.vm) qK, qD⟩, va_recv hK hP (ci := 6) (q0 := 2) rfl rfl, fun U hU hW => ⟨rfl, by rw [hU], by rw [hU]; exact hPc, va_K.moved hW.alike hKc, hDc.weaken (fun _ _ _ _ => trivial)⟩⟩ rfl rfl hl.1 rfl (lv_room (Nat.le_of_ble_eq_true rfl)) dX0_addBundle_15 ⟨Nat.le_of_ble_eq_true rfl, Nat.le_of_ble_eq_true rfl⟩) hS (fun q _ h => hFc q h) hFc (fun u_ t H1 locs ht hvm hw_4 hB hz1 hk1 hS => ?_)
  obtain ⟨fg_5, hP1, hK1, hD1⟩ := hB
  rw [ht] at hP1
  have hK1 := va_K.moved hvm.symm hK1
  obtain ⟨hP, hD⟩ := va_join (wr := [(bo, .inr (0, [vb0, .ref ro, vb2, vb3, vb4, vb5]))]) (w1 := [(ro, .inr (6, [.int 4, .int 5, .ref ca, .int 1])), (ca, .inl (cc0, 20, .inl fg_5))]) hP hD [2, 1] [0] rfl rfl (by decide) (by decide) hk1 hFc hP1 hD1
  generalize H1 = H at hP hS ⊢
  have hP : va_P (dC, dI) vwCl [(bo, .inr (0, [vb0, .ref ro, vb2, vb3, vb4, vb5])), (ro, .inr (6, [.int 4, .int 5, .ref ca, .int 1])), (ca, .inl (cc0, 20, .inl fg_5))] H := hP
  have hD : va_D A [(bo, .inr (0, [vb0, .ref ro, vb2, vb3, vb4, vb5])), (ro, .inr (6, [.int 4, .int 5, .ref ca, .int 1])), (ca, .inl (cc0, 20, .inl fg_5))] := hD
  refine lv_aload_n hx hb dX0_addBundle_18 rfl (lv_at hl 1 rfl) ?_
  refine va_get (D := (dC, dI)) (ci := 0) (v := .ref ro) (C := RX0) (T := TX0) (N := 6) hx hb hts iw_k_addBundle_X0 hown hK hP 0 rfl rfl 1 (by decide) (hts (.fieldLink RX0 20 "ThriceCounted$Bank" "bundles" "LThriceCounted$Rows;") (by decide +kernel)) (fun _ h9 => h9) rfl dX0_addBundle_19 ?_
  refine lv_iload_n hx hb dX0_addBundle_22 rfl (lv_at hl 0 rfl) ?_
  refine lv_iconst (v := 1) hx hb dX0_addBundle_23 (by decide) ?_
  refine lv_iload_n hx hb dX0_addBundle_24 rfl (lv_at hl 3 rfl) ?_
  have hPc := hP.sub (ws' := [(ro, .inr (6, [.int 4, .int 5, .ref ca, .int 1])), (ca, .inl (cc0, 20, .inl fg_5))]) [1, 2] rfl
  have hDc := hD.sub (ws' := [(ro, .inr (6, [.int 4, .int 5, .ref ca, .int 1])), (ca, .inl (cc0, 20, .inl fg_5))]) [1, 2] (by decide) rfl
  have hKc := hK.sub (tys' := [(cc0, .int)]) [0] rfl
  have hFc := va_free (wc := [(ro, .inr (6, [.int 4, .int 5, .ref ca, .int 1])), (ca, .inl (cc0, 20, .inl fg_5))]) hD hS hA [1, 2] rfl
  refine va_callv (va_runV (As := [.int 0, .int 1, .int nb]) (rest := []) ⟨hx, hb, hml, hown, hts⟩ (k_put_20_1 l dC dI ro ca cc0 fg_5 nb H.size) (cwV 3 hts gX0_addBundle_X6_put rfl rfl rfl (by decide +kernel) ⟨Nat.le_of_ble_eq_true rfl, Nat.le_of_ble_eq_true rfl⟩) ⟨fun a U g mk q => by obtain ⟨q0, q1, qP, qK, qD⟩ := q; exact ⟨q0, q1, qP, va_K.moved (u := U) (U := U.calling g mk a) (Vm.Alike.refl U.vm) qK, qD⟩, va_recv hK hP (ci := 6) (q0 := 1) rfl rfl, fun U hU hW => ⟨rfl, by rw [hU], by rw [hU]; exact hPc, va_K.moved hW.alike hKc, hDc.weaken (fun _ _ _ _ => trivial)⟩⟩ rfl rfl hl.1 rfl (lv_room (Nat.le_of_ble_eq_true rfl)) dX0_addBundle_25 ⟨Nat.le_of_ble_eq_true rfl, Nat.le_of_ble_eq_true rfl⟩) hS (fun q _ h => hFc q h) hFc (fun u_ t H1 locs ht hvm hw_7 hB hz1 hk1 hS => ?_)
  obtain ⟨fg_8, hP1, hK1, hD1⟩ := hB
  rw [ht] at hP1
  have hK1 := va_K.moved hvm.symm hK1
  obtain ⟨hP, hD⟩ := va_join (wr := [(bo, .inr (0, [vb0, .ref ro, vb2, vb3, vb4, vb5]))]) (w1 := [(ro, .inr (6, [.int 4, .int 5, .ref ca, .int 1])), (ca, .inl (cc0, 20, .inl fg_8))]) hP hD [1, 2] [0] rfl rfl (by decide) (by decide) hk1 hFc hP1 hD1
  generalize H1 = H at hP hS ⊢
  have hP : va_P (dC, dI) vwCl [(bo, .inr (0, [vb0, .ref ro, vb2, vb3, vb4, vb5])), (ro, .inr (6, [.int 4, .int 5, .ref ca, .int 1])), (ca, .inl (cc0, 20, .inl fg_8))] H := hP
  have hD : va_D A [(bo, .inr (0, [vb0, .ref ro, vb2, vb3, vb4, vb5])), (ro, .inr (6, [.int 4, .int 5, .ref ca, .int 1])), (ca, .inl (cc0, 20, .inl fg_8))] := hD
  refine lv_aload_n hx hb dX0_addBundle_28 rfl (lv_at hl 1 rfl) ?_
  refine va_get (D := (dC, dI)) (ci := 0) (v := .ref ro) (C := RX0) (T := TX0) (N := 6) hx hb hts iw_k_addBundle_X0 hown hK hP 0 rfl rfl 1 (by decide) (hts (.fieldLink RX0 20 "ThriceCounted$Bank" "bundles" "LThriceCounted$Rows;") (by decide +kernel)) (fun _ h9 => h9) rfl dX0_addBundle_29 ?_
  refine lv_iload_n hx hb dX0_addBundle_32 rfl (lv_at hl 0 rfl) ?_
  refine lv_iconst (v := 2) hx hb dX0_addBundle_33 (by decide) ?_
  refine lv_iconst (v := (-1)) hx hb dX0_addBundle_34 (by decide) ?_
  have hPc := hP.sub (ws' := [(ro, .inr (6, [.int 4, .int 5, .ref ca, .int 1])), (ca, .inl (cc0, 20, .inl fg_8))]) [1, 2] rfl
  have hDc := hD.sub (ws' := [(ro, .inr (6, [.int 4, .int 5, .ref ca, .int 1])), (ca, .inl (cc0, 20, .inl fg_8))]) [1, 2] (by decide) rfl
  have hKc := hK.sub (tys' := [(cc0, .int)]) [0] rfl
  have hFc := va_free (wc := [(ro, .inr (6, [.int 4, .int 5, .ref ca, .int 1])), (ca, .inl (cc0, 20, .inl fg_8))]) hD hS hA [1, 2] rfl
  refine va_callv (va_runV (As := [.int 0, .int 2, .int (-1)]) (rest := []) ⟨hx, hb, hml, hown, hts⟩ (k_put_20_2 l dC dI ro ca cc0 fg_8 (-1) H.size) (cwV 3 hts gX0_addBundle_X6_put rfl rfl rfl (by decide +kernel) ⟨Nat.le_of_ble_eq_true rfl, Nat.le_of_ble_eq_true rfl⟩) ⟨fun a U g mk q => by obtain ⟨q0, q1, qP, qK, qD⟩ := q; exact ⟨q0, q1, qP, va_K.moved (u := U) (U := U.calling g mk a) (Vm.Alike.refl U.vm) qK, qD⟩, va_recv hK hP (ci := 6) (q0 := 1) rfl rfl, fun U hU hW => ⟨rfl, by rw [hU], by rw [hU]; exact hPc, va_K.moved hW.alike hKc, hDc.weaken (fun _ _ _ _ => trivial)⟩⟩ rfl rfl hl.1 rfl (lv_room (Nat.le_of_ble_eq_true rfl)) dX0_addBundle_35 ⟨Nat.le_of_ble_eq_true rfl, Nat.le_of_ble_eq_true rfl⟩) hS (fun q _ h => hFc q h) hFc (fun u_ t H1 locs ht hvm hw_10 hB hz1 hk1 hS => ?_)
  obtain ⟨fg_11, hP1, hK1, hD1⟩ := hB
  rw [ht] at hP1
  have hK1 := va_K.moved hvm.symm hK1
  obtain ⟨hP, hD⟩ := va_join (wr := [(bo, .inr (0, [vb0, .ref ro, vb2, vb3, vb4, vb5]))]) (w1 := [(ro, .inr (6, [.int 4, .int 5, .ref ca, .int 1])), (ca, .inl (cc0, 20, .inl fg_11))]) hP hD [1, 2] [0] rfl rfl (by decide) (by decide) hk1 hFc hP1 hD1
  generalize H1 = H at hP hS ⊢
  have hP : va_P (dC, dI) vwCl [(bo, .inr (0, [vb0, .ref ro, vb2, vb3, vb4, vb5])), (ro, .inr (6, [.int 4, .int 5, .ref ca, .int 1])), (ca, .inl (cc0, 20, .inl fg_11))] H := hP
  have hD : va_D A [(bo, .inr (0, [vb0, .ref ro, vb2, vb3, vb4, vb5])), (ro, .inr (6, [.int 4, .int 5, .ref ca, .int 1])), (ca, .inl (cc0, 20, .inl fg_11))] := hD
  refine lv_aload_n hx hb dX0_addBundle_38 rfl (lv_at hl 1 rfl) ?_
  refine va_get (D := (dC, dI)) (ci := 0) (v := .ref ro) (C := RX0) (T := TX0) (N := 6) hx hb hts iw_k_addBundle_X0 hown hK hP 0 rfl rfl 1 (by decide) (hts (.fieldLink RX0 20 "ThriceCounted$Bank" "bundles" "LThriceCounted$Rows;") (by decide +kernel)) (fun _ h9 => h9) rfl dX0_addBundle_39 ?_
  refine lv_iload_n hx hb dX0_addBundle_42 rfl (lv_at hl 0 rfl) ?_
  refine lv_iconst (v := 3) hx hb dX0_addBundle_43 (by decide) ?_
  refine lv_iconst (v := (-1)) hx hb dX0_addBundle_44 (by decide) ?_
  have hPc := hP.sub (ws' := [(ro, .inr (6, [.int 4, .int 5, .ref ca, .int 1])), (ca, .inl (cc0, 20, .inl fg_11))]) [1, 2] rfl
  have hDc := hD.sub (ws' := [(ro, .inr (6, [.int 4, .int 5, .ref ca, .int 1])), (ca, .inl (cc0, 20, .inl fg_11))]) [1, 2] (by decide) rfl
  have hKc := hK.sub (tys' := [(cc0, .int)]) [0] rfl
  have hFc := va_free (wc := [(ro, .inr (6, [.int 4, .int 5, .ref ca, .int 1])), (ca, .inl (cc0, 20, .inl fg_11))]) hD hS hA [1, 2] rfl
  refine va_callv (va_runV (As := [.int 0, .int 3, .int (-1)]) (rest := []) ⟨hx, hb, hml, hown, hts⟩ (k_put_20_3 l dC dI ro ca cc0 fg_11 (-1) H.size) (cwV 3 hts gX0_addBundle_X6_put rfl rfl rfl (by decide +kernel) ⟨Nat.le_of_ble_eq_true rfl, Nat.le_of_ble_eq_true rfl⟩) ⟨fun a U g mk q => by obtain ⟨q0, q1, qP, qK, qD⟩ := q; exact ⟨q0, q1, qP, va_K.moved (u := U) (U := U.calling g mk a) (Vm.Alike.refl U.vm) qK, qD⟩, va_recv hK hP (ci := 6) (q0 := 1) rfl rfl, fun U hU hW => ⟨rfl, by rw [hU], by rw [hU]; exact hPc, va_K.moved hW.alike hKc, hDc.weaken (fun _ _ _ _ => trivial)⟩⟩ rfl rfl hl.1 rfl (lv_room (Nat.le_of_ble_eq_true rfl)) dX0_addBundle_45 ⟨Nat.le_of_ble_eq_true rfl, Nat.le_of_ble_eq_true rfl⟩) hS (fun q _ h => hFc q h) hFc (fun u_ t H1 locs ht hvm hw_13 hB hz1 hk1 hS => ?_)
  obtain ⟨fg_14, hP1, hK1, hD1⟩ := hB
  rw [ht] at hP1
  have hK1 := va_K.moved hvm.symm hK1
  obtain ⟨hP, hD⟩ := va_join (wr := [(bo, .inr (0, [vb0, .ref ro, vb2, vb3, vb4, vb5]))]) (w1 := [(ro, .inr (6, [.int 4, .int 5, .ref ca, .int 1])), (ca, .inl (cc0, 20, .inl fg_14))]) hP hD [1, 2] [0] rfl rfl (by decide) (by decide) hk1 hFc hP1 hD1
  generalize H1 = H at hP hS ⊢
  have hP : va_P (dC, dI) vwCl [(bo, .inr (0, [vb0, .ref ro, vb2, vb3, vb4, vb5])), (ro, .inr (6, [.int 4, .int 5, .ref ca, .int 1])), (ca, .inl (cc0, 20, .inl fg_14))] H := hP
  have hD : va_D A [(bo, .inr (0, [vb0, .ref ro, vb2, vb3, vb4, vb5])), (ro, .inr (6, [.int 4, .int 5, .ref ca, .int 1])), (ca, .inl (cc0, 20, .inl fg_14))] := hD
  refine lv_iload_n hx hb dX0_addBundle_48 rfl (lv_at hl 0 rfl) ?_
  exact W.iret (v := 0) hx hb hr (fun t ht hW => ⟨⟨0, (), rfl, rfl, trivial⟩, hS.F ht⟩) hS.2.2 dX0_addBundle_49
set_option maxRecDepth 20000 in
theorem ggX0_addCause_X6_grow : GoodIn wsX0_addCause wsX6_grow := goodIn_r _ [6, 7, 8, 9, 10, 5, 11, 12, 29, 30, 31, 32] (by decide +kernel) (by decide +kernel)
set_option maxRecDepth 20000 in
theorem gX0_addCause_X6_grow : GoodIn wsX0_addCause (wsV RX0 50 RX6 yX6_grow wsX6_grow) := goodIn_app (goodIn_of _ (by decide +kernel)) ggX0_addCause_X6_grow
set_option maxRecDepth 20000 in
theorem ggX0_addCause_X6_put : GoodIn wsX0_addCause wsX6_put := goodIn_r _ [16, 17, 18, 19, 20, 21, 5, 22, 7, 29, 30, 31, 32] (by decide +kernel) (by decide +kernel)
set_option maxRecDepth 20000 in
theorem gX0_addCause_X6_put : GoodIn wsX0_addCause (wsV RX0 54 RX6 yX6_put wsX6_put) := goodIn_app (goodIn_of _ (by decide +kernel)) ggX0_addCause_X6_put
theorem dX0_addCause_0 : decode cX0_addCause 0 = .ok (.aload_n 0, 1) := by decide +kernel
theorem dX0_addCause_1 : decode cX0_addCause 1 = .ok (.getfield 26, 3) := by decide +kernel
theorem dX0_addCause_4 : decode cX0_addCause 4 = .ok (.invokevirtual 50, 3) := by decide +kernel
theorem dX0_addCause_7 : decode cX0_addCause 7 = .ok (.istore 5, 2) := by decide +kernel
theorem dX0_addCause_9 : decode cX0_addCause 9 = .ok (.aload_n 0, 1) := by decide +kernel
theorem dX0_addCause_10 : decode cX0_addCause 10 = .ok (.getfield 26, 3) := by decide +kernel
theorem dX0_addCause_13 : decode cX0_addCause 13 = .ok (.iload 5, 2) := by decide +kernel
theorem dX0_addCause_15 : decode cX0_addCause 15 = .ok (.iconst 0, 1) := by decide +kernel
theorem dX0_addCause_16 : decode cX0_addCause 16 = .ok (.iload_n 1, 1) := by decide +kernel
theorem dX0_addCause_17 : decode cX0_addCause 17 = .ok (.invokevirtual 54, 3) := by decide +kernel
theorem dX0_addCause_20 : decode cX0_addCause 20 = .ok (.aload_n 0, 1) := by decide +kernel
theorem dX0_addCause_21 : decode cX0_addCause 21 = .ok (.getfield 26, 3) := by decide +kernel
theorem dX0_addCause_24 : decode cX0_addCause 24 = .ok (.iload 5, 2) := by decide +kernel
theorem dX0_addCause_26 : decode cX0_addCause 26 = .ok (.iconst 1, 1) := by decide +kernel
theorem dX0_addCause_27 : decode cX0_addCause 27 = .ok (.iload_n 2, 1) := by decide +kernel
theorem dX0_addCause_28 : decode cX0_addCause 28 = .ok (.invokevirtual 54, 3) := by decide +kernel
theorem dX0_addCause_31 : decode cX0_addCause 31 = .ok (.aload_n 0, 1) := by decide +kernel
theorem dX0_addCause_32 : decode cX0_addCause 32 = .ok (.getfield 26, 3) := by decide +kernel
theorem dX0_addCause_35 : decode cX0_addCause 35 = .ok (.iload 5, 2) := by decide +kernel
theorem dX0_addCause_37 : decode cX0_addCause 37 = .ok (.iconst 2, 1) := by decide +kernel
theorem dX0_addCause_38 : decode cX0_addCause 38 = .ok (.iload_n 3, 1) := by decide +kernel
theorem dX0_addCause_39 : decode cX0_addCause 39 = .ok (.invokevirtual 54, 3) := by decide +kernel
theorem dX0_addCause_42 : decode cX0_addCause 42 = .ok (.aload_n 0, 1) := by decide +kernel
theorem dX0_addCause_43 : decode cX0_addCause 43 = .ok (.getfield 26, 3) := by decide +kernel
theorem dX0_addCause_46 : decode cX0_addCause 46 = .ok (.iload 5, 2) := by decide +kernel
theorem dX0_addCause_48 : decode cX0_addCause 48 = .ok (.iconst 3, 1) := by decide +kernel
theorem dX0_addCause_49 : decode cX0_addCause 49 = .ok (.iload 4, 2) := by decide +kernel
theorem dX0_addCause_51 : decode cX0_addCause 51 = .ok (.invokevirtual 54, 3) := by decide +kernel
theorem dX0_addCause_54 : decode cX0_addCause 54 = .ok (.iload 5, 2) := by decide +kernel
theorem dX0_addCause_56 : decode cX0_addCause 56 = .ok (.ireturn, 1) := by decide +kernel
set_option maxRecDepth 20000 in
theorem iw_k_addCause_X0 : ∀ w ∈ wsX00, w ∈ wsX0_addCause := by decide +kernel
set_option maxHeartbeats 4000000 in
set_option maxRecDepth 100000 in
theorem k_addCause (l : Launch) (dC : Nat → ClassId) (dI : Nat → Nat → Nat) (bo : Nat) (vb0 : Value) (vb1 : Value) (vb2 : Value) (ro : Nat) (vb4 : Value) (vb5 : Value) (ca : Nat) (cc0 : ClassId) (ff : Nat → Int32) (na : Int32) (nb : Int32) (nc : Int32) (nd : Int32) (sz : Nat) : Met l yX0_addCause wsX0_addCause ({ frames := 2, cells := 0, slots := 0, locals := 45 }) (va_Pc [.ref bo, .int na, .int nb, .int nc, .int nd] (fun U => U.heap.size = sz ∧ va_P (dC, dI) vwCl [(bo, .inr (0, [vb0, vb1, vb2, .ref ro, vb4, vb5])), (ro, .inr (6, [.int 4, .int 6, .ref ca, .int 0])), (ca, .inl (cc0, 24, .inl ff))] U.heap ∧ va_K (dC, dI) vwCl [(cc0, .int)] U ∧ va_D (fun _ => True) [(bo, .inr (0, [vb0, vb1, vb2, .ref ro, vb4, vb5])), (ro, .inr (6, [.int 4, .int 6, .ref ca, .int 0])), (ca, .inl (cc0, 24, .inl ff))])) (va_Qi (fun (r : Int32) (_ : Unit) => r = 0) (fun _ _ => True) (va_A [(bo, .inr (0, [vb0, vb1, vb2, .ref ro, vb4, vb5])), (ro, .inr (6, [.int 4, .int 6, .ref ca, .int 0])), (ca, .inl (cc0, 24, .inl ff))] sz)) 0 0 (va_A [(bo, .inr (0, [vb0, vb1, vb2, .ref ro, vb4, vb5])), (ro, .inr (6, [.int 4, .int 6, .ref ca, .int 0])), (ca, .inl (cc0, 24, .inl ff))] sz) := by
  refine Met.ofW (cc := cX0_addCause) (maxL := 6) (ret := (some .int)) (by decide) rfl ?_
  intro p e s m args below meth c s₁ B hml hv
  obtain ⟨rfl, hsz, hP, hK, hD0⟩ := hv
  have hx := B.exec
  have hb := B.bytes
  have hr := B.returns
  have hts := atoms_spec (ws := wsX0_addCause) B.pre
  have hown : s.vm.findClass RX0 = some m.cls := findClass_of_methodNamed B.named
  have hlocks := B.notSynchronized
  subst hsz
  have hD := hD0.self (sz := s.heap.size)
  generalize hAe : va_A [(bo, .inr (0, [vb0, vb1, vb2, .ref ro, vb4, vb5])), (ro, .inr (6, [.int 4, .int 6, .ref ca, .int 0])), (ca, .inl (cc0, 24, .inl ff))] s.heap.size = A at hD ⊢
  have hA : ∀ q : Nat, s.heap.size ≤ q → A q := fun q h => by rw [← hAe]; exact Or.inr h
  have hS : va_S A s.heap s.heap [] := va_S.rf
  have hP : va_P (dC, dI) vwCl [(bo, .inr (0, [vb0, vb1, vb2, .ref ro, vb4, vb5])), (ro, .inr (6, [.int 4, .int 6, .ref ca, .int 0])), (ca, .inl (cc0, 24, .inl ff))] s.heap := hP
  have hl := lv_entry ([.ref bo, .int na, .int nb, .int nc, .int nd]) (n := 6) (Nat.le_of_ble_eq_true rfl)
  rw [lg_entry_eq]
  generalize (lg_sl ([.ref bo, .int na, .int nb, .int nc, .int nd]) ++ List.replicate (6 - (lg_sl ([.ref bo, .int na, .int nb, .int nc, .int nd])).length) Slot.unset).toArray = ls at hl ⊢
  have hl : lv_has ls 6 [(0, .ref bo), (1, .int na), (2, .int nb), (3, .int nc), (4, .int nd)] := hl
  refine lv_aload_n hx hb dX0_addCause_0 rfl (lv_at hl 0 rfl) ?_
  refine va_get (D := (dC, dI)) (ci := 0) (v := .ref ro) (C := RX0) (T := TX0) (N := 6) hx hb hts iw_k_addCause_X0 hown hK hP 0 rfl rfl 3 (by decide) (hts (.fieldLink RX0 26 "ThriceCounted$Bank" "causes" "LThriceCounted$Rows;") (by decide +kernel)) (fun _ h9 => h9) rfl dX0_addCause_1 ?_
  have hPc := hP.sub (ws' := [(ro, .inr (6, [.int 4, .int 6, .ref ca, .int 0]))]) [1] rfl
  have hDc := hD.sub (ws' := [(ro, .inr (6, [.int 4, .int 6, .ref ca, .int 0]))]) [1] (by decide) rfl
  have hKc := hK.sub (tys' := []) [] rfl
  have hFc := va_free (wc := [(ro, .inr (6, [.int 4, .int 6, .ref ca, .int 0]))]) hD hS hA [1] rfl
  refine va_calli (va_runV (As := []) (rest := []) ⟨hx, hb, hml, hown, hts⟩ (k_grow l dC dI ro (.int 4) 6 (.ref ca) s.heap.size (by decide)) (cwV 0 hts gX0_addCause_X6_grow rfl rfl rfl (by decide +kernel) ⟨Nat.le_of_ble_eq_true rfl, Nat.le_of_ble_eq_true rfl⟩) ⟨fun a U g mk q => by obtain ⟨q0, q1, qP, qK, qD⟩ := q; exact ⟨q0, q1, qP, va_K.moved (u := U) (U := U.calling g mk a) (Vm.Alike.refl U.vm) qK, qD⟩, va_recv hK hP (ci := 6) (q0 := 1) rfl rfl, fun U hU hW => ⟨rfl, by rw [hU], by rw [hU]; exact hPc, va_K.moved hW.alike hKc, hDc.weaken (fun _ _ _ _ => trivial)⟩⟩ rfl rfl hl.1 rfl (lv_room (Nat.le_of_ble_eq_true rfl)) dX0_addCause_4 ⟨Nat.le_of_ble_eq_true rfl, Nat.le_of_ble_eq_true rfl⟩) hS (fun q _ h => hFc q h) hFc (fun r_1 u_ t H1 locs ht hvm hw_2 hB hz1 hk1 hS => ?_)
  obtain ⟨hP1, hK1, hD1⟩ := hB
  rw [ht] at hP1
  have hK1 := va_K.moved hvm.symm hK1
  obtain ⟨hP, hD⟩ := va_join (wr := [(bo, .inr (0, [vb0, vb1, vb2, .ref ro, vb4, vb5])), (ca, .inl (cc0, 24, .inl ff))]) (w1 := [(ro, .inr (6, [.int 4, .int 6, .ref ca, .int 1]))]) hP hD [1] [0, 2] rfl rfl (by decide) (by decide) hk1 hFc hP1 hD1
  generalize H1 = H at hP hS ⊢
  have hP : va_P (dC, dI) vwCl [(bo, .inr (0, [vb0, vb1, vb2, .ref ro, vb4, vb5])), (ca, .inl (cc0, 24, .inl ff)), (ro, .inr (6, [.int 4, .int 6, .ref ca, .int 1]))] H := hP
  have hD : va_D A [(bo, .inr (0, [vb0, vb1, vb2, .ref ro, vb4, vb5])), (ca, .inl (cc0, 24, .inl ff)), (ro, .inr (6, [.int 4, .int 6, .ref ca, .int 1]))] := hD
  obtain rfl : 0 = r_1 := hw_2.symm
  refine lv_istore (lv' := [(5, .int 0), (0, .ref bo), (1, .int na), (2, .int nb), (3, .int nc), (4, .int nd)]) hx hb dX0_addCause_7 hl (by decide) rfl (fun ls hl => ?_)
  refine lv_aload_n hx hb dX0_addCause_9 rfl (lv_at hl 1 rfl) ?_
  refine va_get (D := (dC, dI)) (ci := 0) (v := .ref ro) (C := RX0) (T := TX0) (N := 6) hx hb hts iw_k_addCause_X0 hown hK hP 0 rfl rfl 3 (by decide) (hts (.fieldLink RX0 26 "ThriceCounted$Bank" "causes" "LThriceCounted$Rows;") (by decide +kernel)) (fun _ h9 => h9) rfl dX0_addCause_10 ?_
  refine lv_iload hx hb dX0_addCause_13 (lv_at hl 0 rfl) ?_
  refine lv_iconst (v := 0) hx hb dX0_addCause_15 (by decide) ?_
  refine lv_iload_n hx hb dX0_addCause_16 rfl (lv_at hl 2 rfl) ?_
  have hPc := hP.sub (ws' := [(ro, .inr (6, [.int 4, .int 6, .ref ca, .int 1])), (ca, .inl (cc0, 24, .inl ff))]) [2, 1] rfl
  have hDc := hD.sub (ws' := [(ro, .inr (6, [.int 4, .int 6, .ref ca, .int 1])), (ca, .inl (cc0, 24, .inl ff))]) [2, 1] (by decide) rfl
  have hKc := hK.sub (tys' := [(cc0, .int)]) [0] rfl
  have hFc := va_free (wc := [(ro, .inr (6, [.int 4, .int 6, .ref ca, .int 1])), (ca, .inl (cc0, 24, .inl ff))]) hD hS hA [2, 1] rfl
  refine va_callv (va_runV (As := [.int 0, .int 0, .int na]) (rest := []) ⟨hx, hb, hml, hown, hts⟩ (k_put_24_0 l dC dI ro ca cc0 ff na H.size) (cwV 3 hts gX0_addCause_X6_put rfl rfl rfl (by decide +kernel) ⟨Nat.le_of_ble_eq_true rfl, Nat.le_of_ble_eq_true rfl⟩) ⟨fun a U g mk q => by obtain ⟨q0, q1, qP, qK, qD⟩ := q; exact ⟨q0, q1, qP, va_K.moved (u := U) (U := U.calling g mk a) (Vm.Alike.refl U.vm) qK, qD⟩, va_recv hK hP (ci := 6) (q0 := 2) rfl rfl, fun U hU hW => ⟨rfl, by rw [hU], by rw [hU]; exact hPc, va_K.moved hW.alike hKc, hDc.weaken (fun _ _ _ _ => trivial)⟩⟩ rfl rfl hl.1 rfl (lv_room (Nat.le_of_ble_eq_true rfl)) dX0_addCause_17 ⟨Nat.le_of_ble_eq_true rfl, Nat.le_of_ble_eq_true rfl⟩) hS (fun q _ h => hFc q h) hFc (fun u_ t H1 locs ht hvm hw_4 hB hz1 hk1 hS => ?_)
  obtain ⟨fg_5, hP1, hK1, hD1⟩ := hB
  rw [ht] at hP1
  have hK1 := va_K.moved hvm.symm hK1
  obtain ⟨hP, hD⟩ := va_join (wr := [(bo, .inr (0, [vb0, vb1, vb2, .ref ro, vb4, vb5]))]) (w1 := [(ro, .inr (6, [.int 4, .int 6, .ref ca, .int 1])), (ca, .inl (cc0, 24, .inl fg_5))]) hP hD [2, 1] [0] rfl rfl (by decide) (by decide) hk1 hFc hP1 hD1
  generalize H1 = H at hP hS ⊢
  have hP : va_P (dC, dI) vwCl [(bo, .inr (0, [vb0, vb1, vb2, .ref ro, vb4, vb5])), (ro, .inr (6, [.int 4, .int 6, .ref ca, .int 1])), (ca, .inl (cc0, 24, .inl fg_5))] H := hP
  have hD : va_D A [(bo, .inr (0, [vb0, vb1, vb2, .ref ro, vb4, vb5])), (ro, .inr (6, [.int 4, .int 6, .ref ca, .int 1])), (ca, .inl (cc0, 24, .inl fg_5))] := hD
  refine lv_aload_n hx hb dX0_addCause_20 rfl (lv_at hl 1 rfl) ?_
  refine va_get (D := (dC, dI)) (ci := 0) (v := .ref ro) (C := RX0) (T := TX0) (N := 6) hx hb hts iw_k_addCause_X0 hown hK hP 0 rfl rfl 3 (by decide) (hts (.fieldLink RX0 26 "ThriceCounted$Bank" "causes" "LThriceCounted$Rows;") (by decide +kernel)) (fun _ h9 => h9) rfl dX0_addCause_21 ?_
  refine lv_iload hx hb dX0_addCause_24 (lv_at hl 0 rfl) ?_
  refine lv_iconst (v := 1) hx hb dX0_addCause_26 (by decide) ?_
  refine lv_iload_n hx hb dX0_addCause_27 rfl (lv_at hl 3 rfl) ?_
  have hPc := hP.sub (ws' := [(ro, .inr (6, [.int 4, .int 6, .ref ca, .int 1])), (ca, .inl (cc0, 24, .inl fg_5))]) [1, 2] rfl
  have hDc := hD.sub (ws' := [(ro, .inr (6, [.int 4, .int 6, .ref ca, .int 1])), (ca, .inl (cc0, 24, .inl fg_5))]) [1, 2] (by decide) rfl
  have hKc := hK.sub (tys' := [(cc0, .int)]) [0] rfl
  have hFc := va_free (wc := [(ro, .inr (6, [.int 4, .int 6, .ref ca, .int 1])), (ca, .inl (cc0, 24, .inl fg_5))]) hD hS hA [1, 2] rfl
  refine va_callv (va_runV (As := [.int 0, .int 1, .int nb]) (rest := []) ⟨hx, hb, hml, hown, hts⟩ (k_put_24_1 l dC dI ro ca cc0 fg_5 nb H.size) (cwV 3 hts gX0_addCause_X6_put rfl rfl rfl (by decide +kernel) ⟨Nat.le_of_ble_eq_true rfl, Nat.le_of_ble_eq_true rfl⟩) ⟨fun a U g mk q => by obtain ⟨q0, q1, qP, qK, qD⟩ := q; exact ⟨q0, q1, qP, va_K.moved (u := U) (U := U.calling g mk a) (Vm.Alike.refl U.vm) qK, qD⟩, va_recv hK hP (ci := 6) (q0 := 1) rfl rfl, fun U hU hW => ⟨rfl, by rw [hU], by rw [hU]; exact hPc, va_K.moved hW.alike hKc, hDc.weaken (fun _ _ _ _ => trivial)⟩⟩ rfl rfl hl.1 rfl (lv_room (Nat.le_of_ble_eq_true rfl)) dX0_addCause_28 ⟨Nat.le_of_ble_eq_true rfl, Nat.le_of_ble_eq_true rfl⟩) hS (fun q _ h => hFc q h) hFc (fun u_ t H1 locs ht hvm hw_7 hB hz1 hk1 hS => ?_)
  obtain ⟨fg_8, hP1, hK1, hD1⟩ := hB
  rw [ht] at hP1
  have hK1 := va_K.moved hvm.symm hK1
  obtain ⟨hP, hD⟩ := va_join (wr := [(bo, .inr (0, [vb0, vb1, vb2, .ref ro, vb4, vb5]))]) (w1 := [(ro, .inr (6, [.int 4, .int 6, .ref ca, .int 1])), (ca, .inl (cc0, 24, .inl fg_8))]) hP hD [1, 2] [0] rfl rfl (by decide) (by decide) hk1 hFc hP1 hD1
  generalize H1 = H at hP hS ⊢
  have hP : va_P (dC, dI) vwCl [(bo, .inr (0, [vb0, vb1, vb2, .ref ro, vb4, vb5])), (ro, .inr (6, [.int 4, .int 6, .ref ca, .int 1])), (ca, .inl (cc0, 24, .inl fg_8))] H := hP
  have hD : va_D A [(bo, .inr (0, [vb0, vb1, vb2, .ref ro, vb4, vb5])), (ro, .inr (6, [.int 4, .int 6, .ref ca, .int 1])), (ca, .inl (cc0, 24, .inl fg_8))] := hD
  refine lv_aload_n hx hb dX0_addCause_31 rfl (lv_at hl 1 rfl) ?_
  refine va_get (D := (dC, dI)) (ci := 0) (v := .ref ro) (C := RX0) (T := TX0) (N := 6) hx hb hts iw_k_addCause_X0 hown hK hP 0 rfl rfl 3 (by decide) (hts (.fieldLink RX0 26 "ThriceCounted$Bank" "causes" "LThriceCounted$Rows;") (by decide +kernel)) (fun _ h9 => h9) rfl dX0_addCause_32 ?_
  refine lv_iload hx hb dX0_addCause_35 (lv_at hl 0 rfl) ?_
  refine lv_iconst (v := 2) hx hb dX0_addCause_37 (by decide) ?_
  refine lv_iload_n hx hb dX0_addCause_38 rfl (lv_at hl 4 rfl) ?_
  have hPc := hP.sub (ws' := [(ro, .inr (6, [.int 4, .int 6, .ref ca, .int 1])), (ca, .inl (cc0, 24, .inl fg_8))]) [1, 2] rfl
  have hDc := hD.sub (ws' := [(ro, .inr (6, [.int 4, .int 6, .ref ca, .int 1])), (ca, .inl (cc0, 24, .inl fg_8))]) [1, 2] (by decide) rfl
  have hKc := hK.sub (tys' := [(cc0, .int)]) [0] rfl
  have hFc := va_free (wc := [(ro, .inr (6, [.int 4, .int 6, .ref ca, .int 1])), (ca, .inl (cc0, 24, .inl fg_8))]) hD hS hA [1, 2] rfl
  refine va_callv (va_runV (As := [.int 0, .int 2, .int nc]) (rest := []) ⟨hx, hb, hml, hown, hts⟩ (k_put_24_2 l dC dI ro ca cc0 fg_8 nc H.size) (cwV 3 hts gX0_addCause_X6_put rfl rfl rfl (by decide +kernel) ⟨Nat.le_of_ble_eq_true rfl, Nat.le_of_ble_eq_true rfl⟩) ⟨fun a U g mk q => by obtain ⟨q0, q1, qP, qK, qD⟩ := q; exact ⟨q0, q1, qP, va_K.moved (u := U) (U := U.calling g mk a) (Vm.Alike.refl U.vm) qK, qD⟩, va_recv hK hP (ci := 6) (q0 := 1) rfl rfl, fun U hU hW => ⟨rfl, by rw [hU], by rw [hU]; exact hPc, va_K.moved hW.alike hKc, hDc.weaken (fun _ _ _ _ => trivial)⟩⟩ rfl rfl hl.1 rfl (lv_room (Nat.le_of_ble_eq_true rfl)) dX0_addCause_39 ⟨Nat.le_of_ble_eq_true rfl, Nat.le_of_ble_eq_true rfl⟩) hS (fun q _ h => hFc q h) hFc (fun u_ t H1 locs ht hvm hw_10 hB hz1 hk1 hS => ?_)
  obtain ⟨fg_11, hP1, hK1, hD1⟩ := hB
  rw [ht] at hP1
  have hK1 := va_K.moved hvm.symm hK1
  obtain ⟨hP, hD⟩ := va_join (wr := [(bo, .inr (0, [vb0, vb1, vb2, .ref ro, vb4, vb5]))]) (w1 := [(ro, .inr (6, [.int 4, .int 6, .ref ca, .int 1])), (ca, .inl (cc0, 24, .inl fg_11))]) hP hD [1, 2] [0] rfl rfl (by decide) (by decide) hk1 hFc hP1 hD1
  generalize H1 = H at hP hS ⊢
  have hP : va_P (dC, dI) vwCl [(bo, .inr (0, [vb0, vb1, vb2, .ref ro, vb4, vb5])), (ro, .inr (6, [.int 4, .int 6, .ref ca, .int 1])), (ca, .inl (cc0, 24, .inl fg_11))] H := hP
  have hD : va_D A [(bo, .inr (0, [vb0, vb1, vb2, .ref ro, vb4, vb5])), (ro, .inr (6, [.int 4, .int 6, .ref ca, .int 1])), (ca, .inl (cc0, 24, .inl fg_11))] := hD
  refine lv_aload_n hx hb dX0_addCause_42 rfl (lv_at hl 1 rfl) ?_
  refine va_get (D := (dC, dI)) (ci := 0) (v := .ref ro) (C := RX0) (T := TX0) (N := 6) hx hb hts iw_k_addCause_X0 hown hK hP 0 rfl rfl 3 (by decide) (hts (.fieldLink RX0 26 "ThriceCounted$Bank" "causes" "LThriceCounted$Rows;") (by decide +kernel)) (fun _ h9 => h9) rfl dX0_addCause_43 ?_
  refine lv_iload hx hb dX0_addCause_46 (lv_at hl 0 rfl) ?_
  refine lv_iconst (v := 3) hx hb dX0_addCause_48 (by decide) ?_
  refine lv_iload hx hb dX0_addCause_49 (lv_at hl 5 rfl) ?_
  have hPc := hP.sub (ws' := [(ro, .inr (6, [.int 4, .int 6, .ref ca, .int 1])), (ca, .inl (cc0, 24, .inl fg_11))]) [1, 2] rfl
  have hDc := hD.sub (ws' := [(ro, .inr (6, [.int 4, .int 6, .ref ca, .int 1])), (ca, .inl (cc0, 24, .inl fg_11))]) [1, 2] (by decide) rfl
  have hKc := hK.sub (tys' := [(cc0, .int)]) [0] rfl
  have hFc := va_free (wc := [(ro, .inr (6, [.int 4, .int 6, .ref ca, .int 1])), (ca, .inl (cc0, 24, .inl fg_11))]) hD hS hA [1, 2] rfl
  refine va_callv (va_runV (As := [.int 0, .int 3, .int nd]) (rest := []) ⟨hx, hb, hml, hown, hts⟩ (k_put_24_3 l dC dI ro ca cc0 fg_11 nd H.size) (cwV 3 hts gX0_addCause_X6_put rfl rfl rfl (by decide +kernel) ⟨Nat.le_of_ble_eq_true rfl, Nat.le_of_ble_eq_true rfl⟩) ⟨fun a U g mk q => by obtain ⟨q0, q1, qP, qK, qD⟩ := q; exact ⟨q0, q1, qP, va_K.moved (u := U) (U := U.calling g mk a) (Vm.Alike.refl U.vm) qK, qD⟩, va_recv hK hP (ci := 6) (q0 := 1) rfl rfl, fun U hU hW => ⟨rfl, by rw [hU], by rw [hU]; exact hPc, va_K.moved hW.alike hKc, hDc.weaken (fun _ _ _ _ => trivial)⟩⟩ rfl rfl hl.1 rfl (lv_room (Nat.le_of_ble_eq_true rfl)) dX0_addCause_51 ⟨Nat.le_of_ble_eq_true rfl, Nat.le_of_ble_eq_true rfl⟩) hS (fun q _ h => hFc q h) hFc (fun u_ t H1 locs ht hvm hw_13 hB hz1 hk1 hS => ?_)
  obtain ⟨fg_14, hP1, hK1, hD1⟩ := hB
  rw [ht] at hP1
  have hK1 := va_K.moved hvm.symm hK1
  obtain ⟨hP, hD⟩ := va_join (wr := [(bo, .inr (0, [vb0, vb1, vb2, .ref ro, vb4, vb5]))]) (w1 := [(ro, .inr (6, [.int 4, .int 6, .ref ca, .int 1])), (ca, .inl (cc0, 24, .inl fg_14))]) hP hD [1, 2] [0] rfl rfl (by decide) (by decide) hk1 hFc hP1 hD1
  generalize H1 = H at hP hS ⊢
  have hP : va_P (dC, dI) vwCl [(bo, .inr (0, [vb0, vb1, vb2, .ref ro, vb4, vb5])), (ro, .inr (6, [.int 4, .int 6, .ref ca, .int 1])), (ca, .inl (cc0, 24, .inl fg_14))] H := hP
  have hD : va_D A [(bo, .inr (0, [vb0, vb1, vb2, .ref ro, vb4, vb5])), (ro, .inr (6, [.int 4, .int 6, .ref ca, .int 1])), (ca, .inl (cc0, 24, .inl fg_14))] := hD
  refine lv_iload hx hb dX0_addCause_54 (lv_at hl 0 rfl) ?_
  exact W.iret (v := 0) hx hb hr (fun t ht hW => ⟨⟨0, (), rfl, rfl, trivial⟩, hS.F ht⟩) hS.2.2 dX0_addCause_56
theorem dX0_undos_0 : decode cX0_undos 0 = .ok (.aload_n 0, 1) := by decide +kernel
theorem dX0_undos_1 : decode cX0_undos 1 = .ok (.getfield 33, 3) := by decide +kernel
theorem dX0_undos_4 : decode cX0_undos 4 = .ok (.ireturn, 1) := by decide +kernel
set_option maxRecDepth 20000 in
theorem iw_k_undos_X0 : ∀ w ∈ wsX00, w ∈ wsX0_undos := by decide +kernel
set_option maxHeartbeats 4000000 in
set_option maxRecDepth 100000 in
theorem k_undos (l : Launch) (dC : Nat → ClassId) (dI : Nat → Nat → Nat) (bo : Nat) (vb0 : Value) (vb1 : Value) (vb2 : Value) (vb3 : Value) (vb4 : Value) (nz : Int32) : Met l yX0_undos wsX0_undos ({ frames := 0, cells := 0, slots := 0, locals := 0 }) (va_Pc [.ref bo] (fun U => va_P (dC, dI) vwCl [(bo, .inr (0, [vb0, vb1, vb2, vb3, vb4, .int nz]))] U.heap ∧ va_K (dC, dI) vwCl [] U)) (vp_Si (fun r => r = nz)) 0 0 (fun _ => False) := by
  refine Met.ofW (cc := cX0_undos) (maxL := 1) (ret := (some .int)) (by decide) rfl ?_
  intro p e s m args below meth c s₁ B hml hv
  obtain ⟨rfl, hP, hK⟩ := hv
  have hx := B.exec
  have hb := B.bytes
  have hr := B.returns
  have hts := atoms_spec (ws := wsX0_undos) B.pre
  have hown : s.vm.findClass RX0 = some m.cls := findClass_of_methodNamed B.named
  have hlocks := B.notSynchronized
  have hl := lv_entry ([.ref bo]) (n := 1) (Nat.le_of_ble_eq_true rfl)
  rw [lg_entry_eq]
  generalize (lg_sl ([.ref bo]) ++ List.replicate (1 - (lg_sl ([.ref bo])).length) Slot.unset).toArray = ls at hl ⊢
  have hl : lv_has ls 1 [(0, .ref bo)] := hl
  refine lv_aload_n hx hb dX0_undos_0 rfl (lv_at hl 0 rfl) ?_
  refine va_get (D := (dC, dI)) (ci := 0) (v := .int nz) (C := RX0) (T := TX0) (N := 6) hx hb hts iw_k_undos_X0 hown hK hP 0 rfl rfl 5 (by decide) (hts (.fieldLink RX0 33 "ThriceCounted$Bank" "undos" "I") (by decide +kernel)) (fun _ h9 => h9) rfl dX0_undos_1 ?_
  exact W.iret (v := nz) hx hb hr (fun t ht hW => ⟨nz, rfl, rfl, ht⟩) (fun _ h => absurd h List.not_mem_nil) dX0_undos_4
theorem dX0_restoreCounts_0 : decode cX0_restoreCounts 0 = .ok (.aload_n 0, 1) := by decide +kernel
theorem dX0_restoreCounts_1 : decode cX0_restoreCounts 1 = .ok (.getfield 33, 3) := by decide +kernel
theorem dX0_restoreCounts_4 : decode cX0_restoreCounts 4 = .ok (.ifCond .le 15, 3) := by decide +kernel
theorem dX0_restoreCounts_19 : decode cX0_restoreCounts 19 = .ok (.iconst 0, 1) := by decide +kernel
theorem dX0_restoreCounts_20 : decode cX0_restoreCounts 20 = .ok (.ireturn, 1) := by decide +kernel
set_option maxRecDepth 20000 in
theorem iw_k_restore0_X0 : ∀ w ∈ wsX00, w ∈ wsX0_restoreCounts := by decide +kernel
set_option maxHeartbeats 4000000 in
set_option maxRecDepth 100000 in
theorem k_restore0 (l : Launch) (dC : Nat → ClassId) (dI : Nat → Nat → Nat) (bo : Nat) (vb0 : Value) (vb1 : Value) (vb2 : Value) (vb3 : Value) (vb4 : Value) : Met l yX0_restoreCounts wsX0_restoreCounts ({ frames := 0, cells := 0, slots := 0, locals := 0 }) (va_Pc [.ref bo] (fun U => va_P (dC, dI) vwCl [(bo, .inr (0, [vb0, vb1, vb2, vb3, vb4, .int 0]))] U.heap ∧ va_K (dC, dI) vwCl [] U)) (vp_Si (fun r => r = 0)) 0 0 (fun _ => False) := by
  refine Met.ofW (cc := cX0_restoreCounts) (maxL := 1) (ret := (some .boolean)) (by decide) rfl ?_
  intro p e s m args below meth c s₁ B hml hv
  obtain ⟨rfl, hP, hK⟩ := hv
  have hx := B.exec
  have hb := B.bytes
  have hr := B.returns
  have hts := atoms_spec (ws := wsX0_restoreCounts) B.pre
  have hown : s.vm.findClass RX0 = some m.cls := findClass_of_methodNamed B.named
  have hlocks := B.notSynchronized
  have hl := lv_entry ([.ref bo]) (n := 1) (Nat.le_of_ble_eq_true rfl)
  rw [lg_entry_eq]
  generalize (lg_sl ([.ref bo]) ++ List.replicate (1 - (lg_sl ([.ref bo])).length) Slot.unset).toArray = ls at hl ⊢
  have hl : lv_has ls 1 [(0, .ref bo)] := hl
  refine lv_aload_n hx hb dX0_restoreCounts_0 rfl (lv_at hl 0 rfl) ?_
  refine va_get (D := (dC, dI)) (ci := 0) (v := .int 0) (C := RX0) (T := TX0) (N := 6) hx hb hts iw_k_restore0_X0 hown hK hP 0 rfl rfl 5 (by decide) (hts (.fieldLink RX0 33 "ThriceCounted$Bank" "undos" "I") (by decide +kernel)) (fun _ h9 => h9) rfl dX0_restoreCounts_1 ?_
  refine lv_if_le (tgt := 19) hx hb dX0_restoreCounts_4 (by decide) (fun c_1 => ?_) (fun c_1 => ?_)
  · refine lv_iconst (v := 0) hx hb dX0_restoreCounts_19 (by decide) ?_
    exact W.zret (v := 0) hx hb hr (by decide) (fun t ht hW => ⟨0, rfl, rfl, ht⟩) (fun _ h => absurd h List.not_mem_nil) dX0_restoreCounts_20
  · exact absurd c_1 (by decide)
set_option maxRecDepth 20000 in
theorem ggX0_empty_X6_empty : GoodIn wsX0_empty wsX6_empty := goodIn_r _ [10, 11, 18, 19, 20, 21] (by decide +kernel) (by decide +kernel)
set_option maxRecDepth 20000 in
theorem gX0_empty_X6_empty : GoodIn wsX0_empty (wsV RX0 37 RX6 yX6_empty wsX6_empty) := goodIn_app (goodIn_of _ (by decide +kernel)) ggX0_empty_X6_empty
theorem dX0_empty_0 : decode cX0_empty 0 = .ok (.aload_n 0, 1) := by decide +kernel
theorem dX0_empty_1 : decode cX0_empty 1 = .ok (.getfield 14, 3) := by decide +kernel
theorem dX0_empty_4 : decode cX0_empty 4 = .ok (.invokevirtual 37, 3) := by decide +kernel
theorem dX0_empty_7 : decode cX0_empty 7 = .ok (.aload_n 0, 1) := by decide +kernel
theorem dX0_empty_8 : decode cX0_empty 8 = .ok (.getfield 20, 3) := by decide +kernel
theorem dX0_empty_11 : decode cX0_empty 11 = .ok (.invokevirtual 37, 3) := by decide +kernel
theorem dX0_empty_14 : decode cX0_empty 14 = .ok (.aload_n 0, 1) := by decide +kernel
theorem dX0_empty_15 : decode cX0_empty 15 = .ok (.getfield 23, 3) := by decide +kernel
theorem dX0_empty_18 : decode cX0_empty 18 = .ok (.invokevirtual 37, 3) := by decide +kernel
theorem dX0_empty_21 : decode cX0_empty 21 = .ok (.aload_n 0, 1) := by decide +kernel
theorem dX0_empty_22 : decode cX0_empty 22 = .ok (.getfield 26, 3) := by decide +kernel
theorem dX0_empty_25 : decode cX0_empty 25 = .ok (.invokevirtual 37, 3) := by decide +kernel
theorem dX0_empty_28 : decode cX0_empty 28 = .ok (.aload_n 0, 1) := by decide +kernel
theorem dX0_empty_29 : decode cX0_empty 29 = .ok (.iconst 0, 1) := by decide +kernel
theorem dX0_empty_30 : decode cX0_empty 30 = .ok (.putfield 33, 3) := by decide +kernel
theorem dX0_empty_33 : decode cX0_empty 33 = .ok (.return_, 1) := by decide +kernel
set_option maxRecDepth 20000 in
theorem iw_k_bempty_X0 : ∀ w ∈ wsX00, w ∈ wsX0_empty := by decide +kernel
set_option maxHeartbeats 4000000 in
set_option maxRecDepth 100000 in
theorem k_bempty (l : Launch) (dC : Nat → ClassId) (dI : Nat → Nat → Nat) (bo : Nat) (r0 : Nat) (r1 : Nat) (r2 : Nat) (r3 : Nat) (vb4 : Value) (vb5 : Value) (wr00 : Value) (wr01 : Value) (wr02 : Value) (wr03 : Value) (wr10 : Value) (wr11 : Value) (wr12 : Value) (wr13 : Value) (wr20 : Value) (wr21 : Value) (wr22 : Value) (wr23 : Value) (wr30 : Value) (wr31 : Value) (wr32 : Value) (wr33 : Value) (sz : Nat) : Met l yX0_empty wsX0_empty ({ frames := 1, cells := 0, slots := 0, locals := 20 }) (va_Pc [.ref bo] (fun U => U.heap.size = sz ∧ va_P (dC, dI) vwCl [(bo, .inr (0, [.ref r0, .ref r1, .ref r2, .ref r3, vb4, vb5])), (r0, .inr (6, [wr00, wr01, wr02, wr03])), (r1, .inr (6, [wr10, wr11, wr12, wr13])), (r2, .inr (6, [wr20, wr21, wr22, wr23])), (r3, .inr (6, [wr30, wr31, wr32, wr33]))] U.heap ∧ va_K (dC, dI) vwCl [] U ∧ va_D (fun _ => True) [(bo, .inr (0, [.ref r0, .ref r1, .ref r2, .ref r3, vb4, vb5])), (r0, .inr (6, [wr00, wr01, wr02, wr03])), (r1, .inr (6, [wr10, wr11, wr12, wr13])), (r2, .inr (6, [wr20, wr21, wr22, wr23])), (r3, .inr (6, [wr30, wr31, wr32, wr33]))])) (va_Qv (fun (_ : Unit) => True) (fun _ _ => True) (va_A [(bo, .inr (0, [.ref r0, .ref r1, .ref r2, .ref r3, vb4, vb5])), (r0, .inr (6, [wr00, wr01, wr02, wr03])), (r1, .inr (6, [wr10, wr11, wr12, wr13])), (r2, .inr (6, [wr20, wr21, wr22, wr23])), (r3, .inr (6, [wr30, wr31, wr32, wr33]))] sz)) 0 0 (va_A [(bo, .inr (0, [.ref r0, .ref r1, .ref r2, .ref r3, vb4, vb5])), (r0, .inr (6, [wr00, wr01, wr02, wr03])), (r1, .inr (6, [wr10, wr11, wr12, wr13])), (r2, .inr (6, [wr20, wr21, wr22, wr23])), (r3, .inr (6, [wr30, wr31, wr32, wr33]))] sz) := by
  refine Met.ofW (cc := cX0_empty) (maxL := 1) (ret := none) (by decide) rfl ?_
  intro p e s m args below meth c s₁ B hml hv
  obtain ⟨rfl, hsz, hP, hK, hD0⟩ := hv
  have hx := B.exec
  have hb := B.bytes
  have hr := B.returns
  have hts := atoms_spec (ws := wsX0_empty) B.pre
  have hown : s.vm.findClass RX0 = some m.cls := findClass_of_methodNamed B.named
  have hlocks := B.notSynchronized
  subst hsz
  have hD := hD0.self (sz := s.heap.size)
  generalize hAe : va_A [(bo, .inr (0, [.ref r0, .ref r1, .ref r2, .ref r3, vb4, vb5])), (r0, .inr (6, [wr00, wr01, wr02, wr03])), (r1, .inr (6, [wr10, wr11, wr12, wr13])), (r2, .inr (6, [wr20, wr21, wr22, wr23])), (r3, .inr (6, [wr30, wr31, wr32, wr33]))] s.heap.size = A at hD ⊢
  have hA : ∀ q : Nat, s.heap.size ≤ q → A q := fun q h => by rw [← hAe]; exact Or.inr h
  have hS : va_S A s.heap s.heap [] := va_S.rf
  have hP : va_P (dC, dI) vwCl [(bo, .inr (0, [.ref r0, .ref r1, .ref r2, .ref r3, vb4, vb5])), (r0, .inr (6, [wr00, wr01, wr02, wr03])), (r1, .inr (6, [wr10, wr11, wr12, wr13])), (r2, .inr (6, [wr20, wr21, wr22, wr23])), (r3, .inr (6, [wr30, wr31, wr32, wr33]))] s.heap := hP
  have hl := lv_entry ([.ref bo]) (n := 1) (Nat.le_of_ble_eq_true rfl)
  rw [lg_entry_eq]
  generalize (lg_sl ([.ref bo]) ++ List.replicate (1 - (lg_sl ([.ref bo])).length) Slot.unset).toArray = ls at hl ⊢
  have hl : lv_has ls 1 [(0, .ref bo)] := hl
  refine lv_aload_n hx hb dX0_empty_0 rfl (lv_at hl 0 rfl) ?_
  refine va_get (D := (dC, dI)) (ci := 0) (v := .ref r0) (C := RX0) (T := TX0) (N := 6) hx hb hts iw_k_bempty_X0 hown hK hP 0 rfl rfl 0 (by decide) (hts (.fieldLink RX0 14 "ThriceCounted$Bank" "clerks" "LThriceCounted$Rows;") (by decide +kernel)) (fun _ h9 => h9) rfl dX0_empty_1 ?_
  have hPc := hP.sub (ws' := [(r0, .inr (6, [wr00, wr01, wr02, wr03]))]) [1] rfl
  have hDc := hD.sub (ws' := [(r0, .inr (6, [wr00, wr01, wr02, wr03]))]) [1] (by decide) rfl
  have hKc := hK.sub (tys' := []) [] rfl
  have hFc := va_free (wc := [(r0, .inr (6, [wr00, wr01, wr02, wr03]))]) hD hS hA [1] rfl
  refine va_callv (va_runV (As := []) (rest := []) ⟨hx, hb, hml, hown, hts⟩ (k_empty l dC dI r0 wr00 wr01 wr02 wr03 s.heap.size) (cwV 0 hts gX0_empty_X6_empty rfl rfl rfl (by decide +kernel) ⟨Nat.le_of_ble_eq_true rfl, Nat.le_of_ble_eq_true rfl⟩) ⟨fun a U g mk q => by obtain ⟨q0, q1, qP, qK, qD⟩ := q; exact ⟨q0, q1, qP, va_K.moved (u := U) (U := U.calling g mk a) (Vm.Alike.refl U.vm) qK, qD⟩, va_recv hK hP (ci := 6) (q0 := 1) rfl rfl, fun U hU hW => ⟨rfl, by rw [hU], by rw [hU]; exact hPc, va_K.moved hW.alike hKc, hDc.weaken (fun _ _ _ _ => trivial)⟩⟩ rfl rfl hl.1 rfl (lv_room (Nat.le_of_ble_eq_true rfl)) dX0_empty_4 ⟨Nat.le_of_ble_eq_true rfl, Nat.le_of_ble_eq_true rfl⟩) hS (fun q _ h => hFc q h) hFc (fun u_ t H1 locs ht hvm hw_2 hB hz1 hk1 hS => ?_)
  obtain ⟨hP, hD⟩ := va_join (wr := [(bo, .inr (0, [.ref r0, .ref r1, .ref r2, .ref r3, vb4, vb5])), (r1, .inr (6, [wr10, wr11, wr12, wr13])), (r2, .inr (6, [wr20, wr21, wr22, wr23])), (r3, .inr (6, [wr30, wr31, wr32, wr33]))]) (w1 := []) hP hD [1] [0, 2, 3, 4] rfl rfl (by decide) (by decide) hk1 hFc tz_P0 tz_D0
  generalize H1 = H at hP hS ⊢
  have hP : va_P (dC, dI) vwCl [(bo, .inr (0, [.ref r0, .ref r1, .ref r2, .ref r3, vb4, vb5])), (r1, .inr (6, [wr10, wr11, wr12, wr13])), (r2, .inr (6, [wr20, wr21, wr22, wr23])), (r3, .inr (6, [wr30, wr31, wr32, wr33]))] H := hP
  have hD : va_D A [(bo, .inr (0, [.ref r0, .ref r1, .ref r2, .ref r3, vb4, vb5])), (r1, .inr (6, [wr10, wr11, wr12, wr13])), (r2, .inr (6, [wr20, wr21, wr22, wr23])), (r3, .inr (6, [wr30, wr31, wr32, wr33]))] := hD
  refine lv_aload_n hx hb dX0_empty_7 rfl (lv_at hl 0 rfl) ?_
  refine va_get (D := (dC, dI)) (ci := 0) (v := .ref r1) (C := RX0) (T := TX0) (N := 6) hx hb hts iw_k_bempty_X0 hown hK hP 0 rfl rfl 1 (by decide) (hts (.fieldLink RX0 20 "ThriceCounted$Bank" "bundles" "LThriceCounted$Rows;") (by decide +kernel)) (fun _ h9 => h9) rfl dX0_empty_8 ?_
  have hPc := hP.sub (ws' := [(r1, .inr (6, [wr10, wr11, wr12, wr13]))]) [1] rfl
  have hDc := hD.sub (ws' := [(r1, .inr (6, [wr10, wr11, wr12, wr13]))]) [1] (by decide) rfl
  have hKc := hK.sub (tys' := []) [] rfl
  have hFc := va_free (wc := [(r1, .inr (6, [wr10, wr11, wr12, wr13]))]) hD hS hA [1] rfl
  refine va_callv (va_runV (As := []) (rest := []) ⟨hx, hb, hml, hown, hts⟩ (k_empty l dC dI r1 wr10 wr11 wr12 wr13 H.size) (cwV 0 hts gX0_empty_X6_empty rfl rfl rfl (by decide +kernel) ⟨Nat.le_of_ble_eq_true rfl, Nat.le_of_ble_eq_true rfl⟩) ⟨fun a U g mk q => by obtain ⟨q0, q1, qP, qK, qD⟩ := q; exact ⟨q0, q1, qP, va_K.moved (u := U) (U := U.calling g mk a) (Vm.Alike.refl U.vm) qK, qD⟩, va_recv hK hP (ci := 6) (q0 := 1) rfl rfl, fun U hU hW => ⟨rfl, by rw [hU], by rw [hU]; exact hPc, va_K.moved hW.alike hKc, hDc.weaken (fun _ _ _ _ => trivial)⟩⟩ rfl rfl hl.1 rfl (lv_room (Nat.le_of_ble_eq_true rfl)) dX0_empty_11 ⟨Nat.le_of_ble_eq_true rfl, Nat.le_of_ble_eq_true rfl⟩) hS (fun q _ h => hFc q h) hFc (fun u_ t H1 locs ht hvm hw_4 hB hz1 hk1 hS => ?_)
  obtain ⟨hP, hD⟩ := va_join (wr := [(bo, .inr (0, [.ref r0, .ref r1, .ref r2, .ref r3, vb4, vb5])), (r2, .inr (6, [wr20, wr21, wr22, wr23])), (r3, .inr (6, [wr30, wr31, wr32, wr33]))]) (w1 := []) hP hD [1] [0, 2, 3] rfl rfl (by decide) (by decide) hk1 hFc tz_P0 tz_D0
  generalize H1 = H at hP hS ⊢
  have hP : va_P (dC, dI) vwCl [(bo, .inr (0, [.ref r0, .ref r1, .ref r2, .ref r3, vb4, vb5])), (r2, .inr (6, [wr20, wr21, wr22, wr23])), (r3, .inr (6, [wr30, wr31, wr32, wr33]))] H := hP
  have hD : va_D A [(bo, .inr (0, [.ref r0, .ref r1, .ref r2, .ref r3, vb4, vb5])), (r2, .inr (6, [wr20, wr21, wr22, wr23])), (r3, .inr (6, [wr30, wr31, wr32, wr33]))] := hD
  refine lv_aload_n hx hb dX0_empty_14 rfl (lv_at hl 0 rfl) ?_
  refine va_get (D := (dC, dI)) (ci := 0) (v := .ref r2) (C := RX0) (T := TX0) (N := 6) hx hb hts iw_k_bempty_X0 hown hK hP 0 rfl rfl 2 (by decide) (hts (.fieldLink RX0 23 "ThriceCounted$Bank" "counts" "LThriceCounted$Rows;") (by decide +kernel)) (fun _ h9 => h9) rfl dX0_empty_15 ?_
  have hPc := hP.sub (ws' := [(r2, .inr (6, [wr20, wr21, wr22, wr23]))]) [1] rfl
  have hDc := hD.sub (ws' := [(r2, .inr (6, [wr20, wr21, wr22, wr23]))]) [1] (by decide) rfl
  have hKc := hK.sub (tys' := []) [] rfl
  have hFc := va_free (wc := [(r2, .inr (6, [wr20, wr21, wr22, wr23]))]) hD hS hA [1] rfl
  refine va_callv (va_runV (As := []) (rest := []) ⟨hx, hb, hml, hown, hts⟩ (k_empty l dC dI r2 wr20 wr21 wr22 wr23 H.size) (cwV 0 hts gX0_empty_X6_empty rfl rfl rfl (by decide +kernel) ⟨Nat.le_of_ble_eq_true rfl, Nat.le_of_ble_eq_true rfl⟩) ⟨fun a U g mk q => by obtain ⟨q0, q1, qP, qK, qD⟩ := q; exact ⟨q0, q1, qP, va_K.moved (u := U) (U := U.calling g mk a) (Vm.Alike.refl U.vm) qK, qD⟩, va_recv hK hP (ci := 6) (q0 := 1) rfl rfl, fun U hU hW => ⟨rfl, by rw [hU], by rw [hU]; exact hPc, va_K.moved hW.alike hKc, hDc.weaken (fun _ _ _ _ => trivial)⟩⟩ rfl rfl hl.1 rfl (lv_room (Nat.le_of_ble_eq_true rfl)) dX0_empty_18 ⟨Nat.le_of_ble_eq_true rfl, Nat.le_of_ble_eq_true rfl⟩) hS (fun q _ h => hFc q h) hFc (fun u_ t H1 locs ht hvm hw_6 hB hz1 hk1 hS => ?_)
  obtain ⟨hP, hD⟩ := va_join (wr := [(bo, .inr (0, [.ref r0, .ref r1, .ref r2, .ref r3, vb4, vb5])), (r3, .inr (6, [wr30, wr31, wr32, wr33]))]) (w1 := []) hP hD [1] [0, 2] rfl rfl (by decide) (by decide) hk1 hFc tz_P0 tz_D0
  generalize H1 = H at hP hS ⊢
  have hP : va_P (dC, dI) vwCl [(bo, .inr (0, [.ref r0, .ref r1, .ref r2, .ref r3, vb4, vb5])), (r3, .inr (6, [wr30, wr31, wr32, wr33]))] H := hP
  have hD : va_D A [(bo, .inr (0, [.ref r0, .ref r1, .ref r2, .ref r3, vb4, vb5])), (r3, .inr (6, [wr30, wr31, wr32, wr33]))] := hD
  refine lv_aload_n hx hb dX0_empty_21 rfl (lv_at hl 0 rfl) ?_
  refine va_get (D := (dC, dI)) (ci := 0) (v := .ref r3) (C := RX0) (T := TX0) (N := 6) hx hb hts iw_k_bempty_X0 hown hK hP 0 rfl rfl 3 (by decide) (hts (.fieldLink RX0 26 "ThriceCounted$Bank" "causes" "LThriceCounted$Rows;") (by decide +kernel)) (fun _ h9 => h9) rfl dX0_empty_22 ?_
  have hPc := hP.sub (ws' := [(r3, .inr (6, [wr30, wr31, wr32, wr33]))]) [1] rfl
  have hDc := hD.sub (ws' := [(r3, .inr (6, [wr30, wr31, wr32, wr33]))]) [1] (by decide) rfl
  have hKc := hK.sub (tys' := []) [] rfl
  have hFc := va_free (wc := [(r3, .inr (6, [wr30, wr31, wr32, wr33]))]) hD hS hA [1] rfl
  refine va_callv (va_runV (As := []) (rest := []) ⟨hx, hb, hml, hown, hts⟩ (k_empty l dC dI r3 wr30 wr31 wr32 wr33 H.size) (cwV 0 hts gX0_empty_X6_empty rfl rfl rfl (by decide +kernel) ⟨Nat.le_of_ble_eq_true rfl, Nat.le_of_ble_eq_true rfl⟩) ⟨fun a U g mk q => by obtain ⟨q0, q1, qP, qK, qD⟩ := q; exact ⟨q0, q1, qP, va_K.moved (u := U) (U := U.calling g mk a) (Vm.Alike.refl U.vm) qK, qD⟩, va_recv hK hP (ci := 6) (q0 := 1) rfl rfl, fun U hU hW => ⟨rfl, by rw [hU], by rw [hU]; exact hPc, va_K.moved hW.alike hKc, hDc.weaken (fun _ _ _ _ => trivial)⟩⟩ rfl rfl hl.1 rfl (lv_room (Nat.le_of_ble_eq_true rfl)) dX0_empty_25 ⟨Nat.le_of_ble_eq_true rfl, Nat.le_of_ble_eq_true rfl⟩) hS (fun q _ h => hFc q h) hFc (fun u_ t H1 locs ht hvm hw_8 hB hz1 hk1 hS => ?_)
  obtain ⟨hP, hD⟩ := va_join (wr := [(bo, .inr (0, [.ref r0, .ref r1, .ref r2, .ref r3, vb4, vb5]))]) (w1 := []) hP hD [1] [0] rfl rfl (by decide) (by decide) hk1 hFc tz_P0 tz_D0
  generalize H1 = H at hP hS ⊢
  have hP : va_P (dC, dI) vwCl [(bo, .inr (0, [.ref r0, .ref r1, .ref r2, .ref r3, vb4, vb5]))] H := hP
  have hD : va_D A [(bo, .inr (0, [.ref r0, .ref r1, .ref r2, .ref r3, vb4, vb5]))] := hD
  refine lv_aload_n hx hb dX0_empty_28 rfl (lv_at hl 0 rfl) ?_
  refine lv_iconst (v := 0) hx hb dX0_empty_29 (by decide) ?_
  refine va_put (D := (dC, dI)) (ci := 0) (v := .int 0) (ty := .int) (C := RX0) (T := TX0) (N := 6) hx hb hts iw_k_bempty_X0 tyX0 tyX0_ok nmX0 hown hK hP hD hS 0 rfl rfl 5 (by decide) (hts (.fieldLink RX0 33 "ThriceCounted$Bank" "undos" "I") (by decide +kernel)) (fun _ h9 => h9) rfl (by decide +kernel) rfl rfl (Nat.le_of_ble_eq_true rfl) dX0_empty_30 (fun H locs hP hD hS => ?_)
  have hP : va_P (dC, dI) vwCl [(bo, .inr (0, [.ref r0, .ref r1, .ref r2, .ref r3, vb4, .int 0]))] H := hP
  have hD : va_D A [(bo, .inr (0, [.ref r0, .ref r1, .ref r2, .ref r3, vb4, .int 0]))] := hD
  exact W.vret hx hb hr (fun t ht hW => ⟨⟨(), rfl, trivial, trivial⟩, hS.F ht⟩) hS.2.2 dX0_empty_33
theorem dX6_copyFrom_0 : decode cX6_copyFrom 0 = .ok (.aload_n 0, 1) := by decide +kernel
theorem dX6_copyFrom_1 : decode cX6_copyFrom 1 = .ok (.aload_n 0, 1) := by decide +kernel
theorem dX6_copyFrom_2 : decode cX6_copyFrom 2 = .ok (.getfield 21, 3) := by decide +kernel
theorem dX6_copyFrom_5 : decode cX6_copyFrom 5 = .ok (.aload_n 1, 1) := by decide +kernel
theorem dX6_copyFrom_6 : decode cX6_copyFrom 6 = .ok (.getfield 9, 3) := by decide +kernel
theorem dX6_copyFrom_9 : decode cX6_copyFrom 9 = .ok (.invokestatic 50, 3) := by decide +kernel
theorem dX6_copyFrom_12 : decode cX6_copyFrom 12 = .ok (.putfield 9, 3) := by decide +kernel
theorem dX6_copyFrom_15 : decode cX6_copyFrom 15 = .ok (.aload_n 1, 1) := by decide +kernel
theorem dX6_copyFrom_16 : decode cX6_copyFrom 16 = .ok (.getfield 27, 3) := by decide +kernel
theorem dX6_copyFrom_19 : decode cX6_copyFrom 19 = .ok (.iconst 0, 1) := by decide +kernel
theorem dX6_copyFrom_20 : decode cX6_copyFrom 20 = .ok (.aload_n 0, 1) := by decide +kernel
theorem dX6_copyFrom_21 : decode cX6_copyFrom 21 = .ok (.getfield 27, 3) := by decide +kernel
theorem dX6_copyFrom_24 : decode cX6_copyFrom 24 = .ok (.iconst 0, 1) := by decide +kernel
theorem dX6_copyFrom_25 : decode cX6_copyFrom 25 = .ok (.aload_n 0, 1) := by decide +kernel
theorem dX6_copyFrom_26 : decode cX6_copyFrom 26 = .ok (.getfield 27, 3) := by decide +kernel
theorem dX6_copyFrom_29 : decode cX6_copyFrom 29 = .ok (.arraylength, 1) := by decide +kernel
theorem dX6_copyFrom_30 : decode cX6_copyFrom 30 = .ok (.aload_n 1, 1) := by decide +kernel
theorem dX6_copyFrom_31 : decode cX6_copyFrom 31 = .ok (.getfield 27, 3) := by decide +kernel
theorem dX6_copyFrom_34 : decode cX6_copyFrom 34 = .ok (.arraylength, 1) := by decide +kernel
theorem dX6_copyFrom_35 : decode cX6_copyFrom 35 = .ok (.invokestatic 50, 3) := by decide +kernel
theorem dX6_copyFrom_38 : decode cX6_copyFrom 38 = .ok (.invokestatic 53, 3) := by decide +kernel
theorem dX6_copyFrom_41 : decode cX6_copyFrom 41 = .ok (.return_, 1) := by decide +kernel
set_option maxRecDepth 20000 in
theorem iw_k_rcopy_5_X6 : ∀ w ∈ wsX60, w ∈ wsX6_copyFrom := by decide +kernel
set_option maxHeartbeats 4000000 in
set_option maxRecDepth 100000 in
theorem k_rcopy_5 (l : Launch) (dC : Nat → ClassId) (dI : Nat → Nat → Nat) (ro : Nat) (w0 : Value) (ca : Nat) (w3 : Value) (rp : Nat) (wp0 : Value) (wp1 : Value) (cb : Nat) (cc0 : ClassId) (fa : Nat → Int32) (cc1 : ClassId) (fb : Nat → Int32) (sz : Nat) : Met l yX6_copyFrom wsX6_copyFrom ({ frames := 1, cells := 0, slots := 0, locals := 40 }) (va_Pc [.ref ro, .ref rp] (fun U => U.heap.size = sz ∧ va_P (dC, dI) vwCl [(ro, .inr (6, [w0, .int 5, .ref ca, w3])), (rp, .inr (6, [wp0, wp1, .ref cb, .int 0])), (ca, .inl (cc0, 5, .inl fa)), (cb, .inl (cc1, 5, .inl fb))] U.heap ∧ va_K (dC, dI) vwCl [(cc0, .int), (cc1, .int)] U ∧ va_D (fun _ => True) [(ro, .inr (6, [w0, .int 5, .ref ca, w3])), (rp, .inr (6, [wp0, wp1, .ref cb, .int 0])), (ca, .inl (cc0, 5, .inl fa)), (cb, .inl (cc1, 5, .inl fb))])) (va_Qv (fun (_ : Unit) => True) (fun _ _ => True) (va_A [(ro, .inr (6, [w0, .int 5, .ref ca, w3])), (rp, .inr (6, [wp0, wp1, .ref cb, .int 0])), (ca, .inl (cc0, 5, .inl fa)), (cb, .inl (cc1, 5, .inl fb))] sz)) 0 0 (va_A [(ro, .inr (6, [w0, .int 5, .ref ca, w3])), (rp, .inr (6, [wp0, wp1, .ref cb, .int 0])), (ca, .inl (cc0, 5, .inl fa)), (cb, .inl (cc1, 5, .inl fb))] sz) := by
  refine Met.ofW (cc := cX6_copyFrom) (maxL := 2) (ret := none) (by decide) rfl ?_
  intro p e s m args below meth c s₁ B hml hv
  obtain ⟨rfl, hsz, hP, hK, hD0⟩ := hv
  have hx := B.exec
  have hb := B.bytes
  have hr := B.returns
  have hts := atoms_spec (ws := wsX6_copyFrom) B.pre
  have hown : s.vm.findClass RX6 = some m.cls := findClass_of_methodNamed B.named
  have hlocks := B.notSynchronized
  subst hsz
  have hD := hD0.self (sz := s.heap.size)
  generalize hAe : va_A [(ro, .inr (6, [w0, .int 5, .ref ca, w3])), (rp, .inr (6, [wp0, wp1, .ref cb, .int 0])), (ca, .inl (cc0, 5, .inl fa)), (cb, .inl (cc1, 5, .inl fb))] s.heap.size = A at hD ⊢
  have hA : ∀ q : Nat, s.heap.size ≤ q → A q := fun q h => by rw [← hAe]; exact Or.inr h
  have hS : va_S A s.heap s.heap [] := va_S.rf
  have hP : va_P (dC, dI) vwCl [(ro, .inr (6, [w0, .int 5, .ref ca, w3])), (rp, .inr (6, [wp0, wp1, .ref cb, .int 0])), (ca, .inl (cc0, 5, .inl fa)), (cb, .inl (cc1, 5, .inl fb))] s.heap := hP
  have hl := lv_entry ([.ref ro, .ref rp]) (n := 2) (Nat.le_of_ble_eq_true rfl)
  rw [lg_entry_eq]
  generalize (lg_sl ([.ref ro, .ref rp]) ++ List.replicate (2 - (lg_sl ([.ref ro, .ref rp])).length) Slot.unset).toArray = ls at hl ⊢
  have hl : lv_has ls 2 [(0, .ref ro), (1, .ref rp)] := hl
  refine lv_aload_n hx hb dX6_copyFrom_0 rfl (lv_at hl 0 rfl) ?_
  refine lv_aload_n hx hb dX6_copyFrom_1 rfl (lv_at hl 0 rfl) ?_
  refine va_get (D := (dC, dI)) (ci := 6) (v := .int 5) (C := RX6) (T := TX6) (N := 4) hx hb hts iw_k_rcopy_5_X6 hown hK hP 0 rfl rfl 1 (by decide) (hts (.fieldLink RX6 21 "ThriceCounted$Rows" "limit" "I") (by decide +kernel)) (fun _ h9 => h9) rfl dX6_copyFrom_2 ?_
  refine lv_aload_n hx hb dX6_copyFrom_5 rfl (lv_at hl 1 rfl) ?_
  refine va_get (D := (dC, dI)) (ci := 6) (v := .int 0) (C := RX6) (T := TX6) (N := 4) hx hb hts iw_k_rcopy_5_X6 hown hK hP 1 rfl rfl 3 (by decide) (hts (.fieldLink RX6 9 "ThriceCounted$Rows" "size" "I") (by decide +kernel)) (fun _ h9 => h9) rfl dX6_copyFrom_6 ?_
  refine va_mmin hx hb (hml.trans hl.1.symm) hown (hts (.methodLink RX6 50 Lib.Math.min.name) (by decide +kernel)) (hts (.static Lib.Math.min.name) (by decide +kernel)) (hts (.initialized "java/lang/Math") (by decide +kernel)) (hts (.code Lib.Math.min.name Lib.Math.min.code 2 (some .int)) (by decide +kernel)) (Nat.le_of_ble_eq_true rfl) (Nat.le_of_ble_eq_true rfl) (Nat.le_of_ble_eq_true rfl) (Nat.le_of_ble_eq_true rfl) dX6_copyFrom_9 ?_
  refine tz_i 0 (by decide) ?_
  refine va_put (D := (dC, dI)) (ci := 6) (v := .int 0) (ty := .int) (C := RX6) (T := TX6) (N := 4) hx hb hts iw_k_rcopy_5_X6 tyX6 tyX6_ok nmX6 hown hK hP hD hS 0 rfl rfl 3 (by decide) (hts (.fieldLink RX6 9 "ThriceCounted$Rows" "size" "I") (by decide +kernel)) (fun _ h9 => h9) rfl (by decide +kernel) rfl rfl (Nat.le_of_ble_eq_true rfl) dX6_copyFrom_12 (fun H locs hP hD hS => ?_)
  have hP : va_P (dC, dI) vwCl [(ro, .inr (6, [w0, .int 5, .ref ca, .int 0])), (rp, .inr (6, [wp0, wp1, .ref cb, .int 0])), (ca, .inl (cc0, 5, .inl fa)), (cb, .inl (cc1, 5, .inl fb))] H := hP
  have hD : va_D A [(ro, .inr (6, [w0, .int 5, .ref ca, .int 0])), (rp, .inr (6, [wp0, wp1, .ref cb, .int 0])), (ca, .inl (cc0, 5, .inl fa)), (cb, .inl (cc1, 5, .inl fb))] := hD
  refine lv_aload_n hx hb dX6_copyFrom_15 rfl (lv_at hl 1 rfl) ?_
  refine va_get (D := (dC, dI)) (ci := 6) (v := .ref cb) (C := RX6) (T := TX6) (N := 4) hx hb hts iw_k_rcopy_5_X6 hown hK hP 1 rfl rfl 2 (by decide) (hts (.fieldLink RX6 27 "ThriceCounted$Rows" "cells" "[I") (by decide +kernel)) (fun _ h9 => h9) rfl dX6_copyFrom_16 ?_
  refine lv_iconst (v := 0) hx hb dX6_copyFrom_19 (by decide) ?_
  refine lv_aload_n hx hb dX6_copyFrom_20 rfl (lv_at hl 0 rfl) ?_
  refine va_get (D := (dC, dI)) (ci := 6) (v := .ref ca) (C := RX6) (T := TX6) (N := 4) hx hb hts iw_k_rcopy_5_X6 hown hK hP 0 rfl rfl 2 (by decide) (hts (.fieldLink RX6 27 "ThriceCounted$Rows" "cells" "[I") (by decide +kernel)) (fun _ h9 => h9) rfl dX6_copyFrom_21 ?_
  refine lv_iconst (v := 0) hx hb dX6_copyFrom_24 (by decide) ?_
  refine lv_aload_n hx hb dX6_copyFrom_25 rfl (lv_at hl 0 rfl) ?_
  refine va_get (D := (dC, dI)) (ci := 6) (v := .ref ca) (C := RX6) (T := TX6) (N := 4) hx hb hts iw_k_rcopy_5_X6 hown hK hP 0 rfl rfl 2 (by decide) (hts (.fieldLink RX6 27 "ThriceCounted$Rows" "cells" "[I") (by decide +kernel)) (fun _ h9 => h9) rfl dX6_copyFrom_26 ?_
  refine va_alen (v := 5) hx hb hK hP 2 0 rfl rfl rfl dX6_copyFrom_29 ?_
  refine lv_aload_n hx hb dX6_copyFrom_30 rfl (lv_at hl 1 rfl) ?_
  refine va_get (D := (dC, dI)) (ci := 6) (v := .ref cb) (C := RX6) (T := TX6) (N := 4) hx hb hts iw_k_rcopy_5_X6 hown hK hP 1 rfl rfl 2 (by decide) (hts (.fieldLink RX6 27 "ThriceCounted$Rows" "cells" "[I") (by decide +kernel)) (fun _ h9 => h9) rfl dX6_copyFrom_31 ?_
  refine va_alen (v := 5) hx hb hK hP 3 1 rfl rfl rfl dX6_copyFrom_34 ?_
  refine va_mmin hx hb (hml.trans hl.1.symm) hown (hts (.methodLink RX6 50 Lib.Math.min.name) (by decide +kernel)) (hts (.static Lib.Math.min.name) (by decide +kernel)) (hts (.initialized "java/lang/Math") (by decide +kernel)) (hts (.code Lib.Math.min.name Lib.Math.min.code 2 (some .int)) (by decide +kernel)) (Nat.le_of_ble_eq_true rfl) (Nat.le_of_ble_eq_true rfl) (Nat.le_of_ble_eq_true rfl) (Nat.le_of_ble_eq_true rfl) dX6_copyFrom_35 ?_
  refine tz_i 5 (by decide) ?_
  refine va_copyi (ty := .int) hx hb (hml.trans hl.1.symm) hown (hts (.methodLink RX6 53 arraycopyName) (by decide +kernel)) (hts (.native arraycopyName) (by decide +kernel)) (hts (.static arraycopyName) (by decide +kernel)) (hts (.initialized "java/lang/System") (by decide +kernel)) hK hP hD hS 3 2 1 0 rfl rfl rfl rfl rfl (by decide) (by decide) (by decide) (by decide) (by decide) (fun _ _ => rfl) (Nat.le_of_ble_eq_true rfl) (Nat.le_of_ble_eq_true rfl) dX6_copyFrom_38 (fun H locs hP hD hS => ?_)
  generalize (va_cpy _ _ _ _ _) = f_1 at hP hD
  have hP : va_P (dC, dI) vwCl [(ro, .inr (6, [w0, .int 5, .ref ca, .int 0])), (rp, .inr (6, [wp0, wp1, .ref cb, .int 0])), (ca, .inl (cc0, 5, .inl f_1)), (cb, .inl (cc1, 5, .inl fb))] H := hP
  have hD : va_D A [(ro, .inr (6, [w0, .int 5, .ref ca, .int 0])), (rp, .inr (6, [wp0, wp1, .ref cb, .int 0])), (ca, .inl (cc0, 5, .inl f_1)), (cb, .inl (cc1, 5, .inl fb))] := hD
  exact W.vret hx hb hr (fun t ht hW => ⟨⟨(), rfl, trivial, trivial⟩, hS.F ht⟩) hS.2.2 dX6_copyFrom_41
set_option maxRecDepth 20000 in
theorem iw_k_rcopy_20_X6 : ∀ w ∈ wsX60, w ∈ wsX6_copyFrom := by decide +kernel
set_option maxHeartbeats 4000000 in
set_option maxRecDepth 100000 in
theorem k_rcopy_20 (l : Launch) (dC : Nat → ClassId) (dI : Nat → Nat → Nat) (ro : Nat) (w0 : Value) (ca : Nat) (w3 : Value) (rp : Nat) (wp0 : Value) (wp1 : Value) (cb : Nat) (cc0 : ClassId) (fa : Nat → Int32) (cc1 : ClassId) (fb : Nat → Int32) (sz : Nat) : Met l yX6_copyFrom wsX6_copyFrom ({ frames := 1, cells := 0, slots := 0, locals := 40 }) (va_Pc [.ref ro, .ref rp] (fun U => U.heap.size = sz ∧ va_P (dC, dI) vwCl [(ro, .inr (6, [w0, .int 5, .ref ca, w3])), (rp, .inr (6, [wp0, wp1, .ref cb, .int 0])), (ca, .inl (cc0, 20, .inl fa)), (cb, .inl (cc1, 20, .inl fb))] U.heap ∧ va_K (dC, dI) vwCl [(cc0, .int), (cc1, .int)] U ∧ va_D (fun _ => True) [(ro, .inr (6, [w0, .int 5, .ref ca, w3])), (rp, .inr (6, [wp0, wp1, .ref cb, .int 0])), (ca, .inl (cc0, 20, .inl fa)), (cb, .inl (cc1, 20, .inl fb))])) (va_Qv (fun (_ : Unit) => True) (fun _ _ => True) (va_A [(ro, .inr (6, [w0, .int 5, .ref ca, w3])), (rp, .inr (6, [wp0, wp1, .ref cb, .int 0])), (ca, .inl (cc0, 20, .inl fa)), (cb, .inl (cc1, 20, .inl fb))] sz)) 0 0 (va_A [(ro, .inr (6, [w0, .int 5, .ref ca, w3])), (rp, .inr (6, [wp0, wp1, .ref cb, .int 0])), (ca, .inl (cc0, 20, .inl fa)), (cb, .inl (cc1, 20, .inl fb))] sz) := by
  refine Met.ofW (cc := cX6_copyFrom) (maxL := 2) (ret := none) (by decide) rfl ?_
  intro p e s m args below meth c s₁ B hml hv
  obtain ⟨rfl, hsz, hP, hK, hD0⟩ := hv
  have hx := B.exec
  have hb := B.bytes
  have hr := B.returns
  have hts := atoms_spec (ws := wsX6_copyFrom) B.pre
  have hown : s.vm.findClass RX6 = some m.cls := findClass_of_methodNamed B.named
  have hlocks := B.notSynchronized
  subst hsz
  have hD := hD0.self (sz := s.heap.size)
  generalize hAe : va_A [(ro, .inr (6, [w0, .int 5, .ref ca, w3])), (rp, .inr (6, [wp0, wp1, .ref cb, .int 0])), (ca, .inl (cc0, 20, .inl fa)), (cb, .inl (cc1, 20, .inl fb))] s.heap.size = A at hD ⊢
  have hA : ∀ q : Nat, s.heap.size ≤ q → A q := fun q h => by rw [← hAe]; exact Or.inr h
  have hS : va_S A s.heap s.heap [] := va_S.rf
  have hP : va_P (dC, dI) vwCl [(ro, .inr (6, [w0, .int 5, .ref ca, w3])), (rp, .inr (6, [wp0, wp1, .ref cb, .int 0])), (ca, .inl (cc0, 20, .inl fa)), (cb, .inl (cc1, 20, .inl fb))] s.heap := hP
  have hl := lv_entry ([.ref ro, .ref rp]) (n := 2) (Nat.le_of_ble_eq_true rfl)
  rw [lg_entry_eq]
  generalize (lg_sl ([.ref ro, .ref rp]) ++ List.replicate (2 - (lg_sl ([.ref ro, .ref rp])).length) Slot.unset).toArray = ls at hl ⊢
  have hl : lv_has ls 2 [(0, .ref ro), (1, .ref rp)] := hl
  refine lv_aload_n hx hb dX6_copyFrom_0 rfl (lv_at hl 0 rfl) ?_
  refine lv_aload_n hx hb dX6_copyFrom_1 rfl (lv_at hl 0 rfl) ?_
  refine va_get (D := (dC, dI)) (ci := 6) (v := .int 5) (C := RX6) (T := TX6) (N := 4) hx hb hts iw_k_rcopy_20_X6 hown hK hP 0 rfl rfl 1 (by decide) (hts (.fieldLink RX6 21 "ThriceCounted$Rows" "limit" "I") (by decide +kernel)) (fun _ h9 => h9) rfl dX6_copyFrom_2 ?_
  refine lv_aload_n hx hb dX6_copyFrom_5 rfl (lv_at hl 1 rfl) ?_
  refine va_get (D := (dC, dI)) (ci := 6) (v := .int 0) (C := RX6) (T := TX6) (N := 4) hx hb hts iw_k_rcopy_20_X6 hown hK hP 1 rfl rfl 3 (by decide) (hts (.fieldLink RX6 9 "ThriceCounted$Rows" "size" "I") (by decide +kernel)) (fun _ h9 => h9) rfl dX6_copyFrom_6 ?_
  refine va_mmin hx hb (hml.trans hl.1.symm) hown (hts (.methodLink RX6 50 Lib.Math.min.name) (by decide +kernel)) (hts (.static Lib.Math.min.name) (by decide +kernel)) (hts (.initialized "java/lang/Math") (by decide +kernel)) (hts (.code Lib.Math.min.name Lib.Math.min.code 2 (some .int)) (by decide +kernel)) (Nat.le_of_ble_eq_true rfl) (Nat.le_of_ble_eq_true rfl) (Nat.le_of_ble_eq_true rfl) (Nat.le_of_ble_eq_true rfl) dX6_copyFrom_9 ?_
  refine tz_i 0 (by decide) ?_
  refine va_put (D := (dC, dI)) (ci := 6) (v := .int 0) (ty := .int) (C := RX6) (T := TX6) (N := 4) hx hb hts iw_k_rcopy_20_X6 tyX6 tyX6_ok nmX6 hown hK hP hD hS 0 rfl rfl 3 (by decide) (hts (.fieldLink RX6 9 "ThriceCounted$Rows" "size" "I") (by decide +kernel)) (fun _ h9 => h9) rfl (by decide +kernel) rfl rfl (Nat.le_of_ble_eq_true rfl) dX6_copyFrom_12 (fun H locs hP hD hS => ?_)
  have hP : va_P (dC, dI) vwCl [(ro, .inr (6, [w0, .int 5, .ref ca, .int 0])), (rp, .inr (6, [wp0, wp1, .ref cb, .int 0])), (ca, .inl (cc0, 20, .inl fa)), (cb, .inl (cc1, 20, .inl fb))] H := hP
  have hD : va_D A [(ro, .inr (6, [w0, .int 5, .ref ca, .int 0])), (rp, .inr (6, [wp0, wp1, .ref cb, .int 0])), (ca, .inl (cc0, 20, .inl fa)), (cb, .inl (cc1, 20, .inl fb))] := hD
  refine lv_aload_n hx hb dX6_copyFrom_15 rfl (lv_at hl 1 rfl) ?_
  refine va_get (D := (dC, dI)) (ci := 6) (v := .ref cb) (C := RX6) (T := TX6) (N := 4) hx hb hts iw_k_rcopy_20_X6 hown hK hP 1 rfl rfl 2 (by decide) (hts (.fieldLink RX6 27 "ThriceCounted$Rows" "cells" "[I") (by decide +kernel)) (fun _ h9 => h9) rfl dX6_copyFrom_16 ?_
  refine lv_iconst (v := 0) hx hb dX6_copyFrom_19 (by decide) ?_
  refine lv_aload_n hx hb dX6_copyFrom_20 rfl (lv_at hl 0 rfl) ?_
  refine va_get (D := (dC, dI)) (ci := 6) (v := .ref ca) (C := RX6) (T := TX6) (N := 4) hx hb hts iw_k_rcopy_20_X6 hown hK hP 0 rfl rfl 2 (by decide) (hts (.fieldLink RX6 27 "ThriceCounted$Rows" "cells" "[I") (by decide +kernel)) (fun _ h9 => h9) rfl dX6_copyFrom_21 ?_
  refine lv_iconst (v := 0) hx hb dX6_copyFrom_24 (by decide) ?_
  refine lv_aload_n hx hb dX6_copyFrom_25 rfl (lv_at hl 0 rfl) ?_
  refine va_get (D := (dC, dI)) (ci := 6) (v := .ref ca) (C := RX6) (T := TX6) (N := 4) hx hb hts iw_k_rcopy_20_X6 hown hK hP 0 rfl rfl 2 (by decide) (hts (.fieldLink RX6 27 "ThriceCounted$Rows" "cells" "[I") (by decide +kernel)) (fun _ h9 => h9) rfl dX6_copyFrom_26 ?_
  refine va_alen (v := 20) hx hb hK hP 2 0 rfl rfl rfl dX6_copyFrom_29 ?_
  refine lv_aload_n hx hb dX6_copyFrom_30 rfl (lv_at hl 1 rfl) ?_
  refine va_get (D := (dC, dI)) (ci := 6) (v := .ref cb) (C := RX6) (T := TX6) (N := 4) hx hb hts iw_k_rcopy_20_X6 hown hK hP 1 rfl rfl 2 (by decide) (hts (.fieldLink RX6 27 "ThriceCounted$Rows" "cells" "[I") (by decide +kernel)) (fun _ h9 => h9) rfl dX6_copyFrom_31 ?_
  refine va_alen (v := 20) hx hb hK hP 3 1 rfl rfl rfl dX6_copyFrom_34 ?_
  refine va_mmin hx hb (hml.trans hl.1.symm) hown (hts (.methodLink RX6 50 Lib.Math.min.name) (by decide +kernel)) (hts (.static Lib.Math.min.name) (by decide +kernel)) (hts (.initialized "java/lang/Math") (by decide +kernel)) (hts (.code Lib.Math.min.name Lib.Math.min.code 2 (some .int)) (by decide +kernel)) (Nat.le_of_ble_eq_true rfl) (Nat.le_of_ble_eq_true rfl) (Nat.le_of_ble_eq_true rfl) (Nat.le_of_ble_eq_true rfl) dX6_copyFrom_35 ?_
  refine tz_i 20 (by decide) ?_
  refine va_copyi (ty := .int) hx hb (hml.trans hl.1.symm) hown (hts (.methodLink RX6 53 arraycopyName) (by decide +kernel)) (hts (.native arraycopyName) (by decide +kernel)) (hts (.static arraycopyName) (by decide +kernel)) (hts (.initialized "java/lang/System") (by decide +kernel)) hK hP hD hS 3 2 1 0 rfl rfl rfl rfl rfl (by decide) (by decide) (by decide) (by decide) (by decide) (fun _ _ => rfl) (Nat.le_of_ble_eq_true rfl) (Nat.le_of_ble_eq_true rfl) dX6_copyFrom_38 (fun H locs hP hD hS => ?_)
  generalize (va_cpy _ _ _ _ _) = f_1 at hP hD
  have hP : va_P (dC, dI) vwCl [(ro, .inr (6, [w0, .int 5, .ref ca, .int 0])), (rp, .inr (6, [wp0, wp1, .ref cb, .int 0])), (ca, .inl (cc0, 20, .inl f_1)), (cb, .inl (cc1, 20, .inl fb))] H := hP
  have hD : va_D A [(ro, .inr (6, [w0, .int 5, .ref ca, .int 0])), (rp, .inr (6, [wp0, wp1, .ref cb, .int 0])), (ca, .inl (cc0, 20, .inl f_1)), (cb, .inl (cc1, 20, .inl fb))] := hD
  exact W.vret hx hb hr (fun t ht hW => ⟨⟨(), rfl, trivial, trivial⟩, hS.F ht⟩) hS.2.2 dX6_copyFrom_41
set_option maxRecDepth 20000 in
theorem iw_k_rcopy_32_X6 : ∀ w ∈ wsX60, w ∈ wsX6_copyFrom := by decide +kernel
set_option maxHeartbeats 4000000 in
set_option maxRecDepth 100000 in
theorem k_rcopy_32 (l : Launch) (dC : Nat → ClassId) (dI : Nat → Nat → Nat) (ro : Nat) (w0 : Value) (ca : Nat) (w3 : Value) (rp : Nat) (wp0 : Value) (wp1 : Value) (cb : Nat) (cc0 : ClassId) (fa : Nat → Int32) (cc1 : ClassId) (fb : Nat → Int32) (sz : Nat) : Met l yX6_copyFrom wsX6_copyFrom ({ frames := 1, cells := 0, slots := 0, locals := 40 }) (va_Pc [.ref ro, .ref rp] (fun U => U.heap.size = sz ∧ va_P (dC, dI) vwCl [(ro, .inr (6, [w0, .int 8, .ref ca, w3])), (rp, .inr (6, [wp0, wp1, .ref cb, .int 0])), (ca, .inl (cc0, 32, .inl fa)), (cb, .inl (cc1, 32, .inl fb))] U.heap ∧ va_K (dC, dI) vwCl [(cc0, .int), (cc1, .int)] U ∧ va_D (fun _ => True) [(ro, .inr (6, [w0, .int 8, .ref ca, w3])), (rp, .inr (6, [wp0, wp1, .ref cb, .int 0])), (ca, .inl (cc0, 32, .inl fa)), (cb, .inl (cc1, 32, .inl fb))])) (va_Qv (fun (_ : Unit) => True) (fun _ _ => True) (va_A [(ro, .inr (6, [w0, .int 8, .ref ca, w3])), (rp, .inr (6, [wp0, wp1, .ref cb, .int 0])), (ca, .inl (cc0, 32, .inl fa)), (cb, .inl (cc1, 32, .inl fb))] sz)) 0 0 (va_A [(ro, .inr (6, [w0, .int 8, .ref ca, w3])), (rp, .inr (6, [wp0, wp1, .ref cb, .int 0])), (ca, .inl (cc0, 32, .inl fa)), (cb, .inl (cc1, 32, .inl fb))] sz) := by
  refine Met.ofW (cc := cX6_copyFrom) (maxL := 2) (ret := none) (by decide) rfl ?_
  intro p e s m args below meth c s₁ B hml hv
  obtain ⟨rfl, hsz, hP, hK, hD0⟩ := hv
  have hx := B.exec
  have hb := B.bytes
  have hr := B.returns
  have hts := atoms_spec (ws := wsX6_copyFrom) B.pre
  have hown : s.vm.findClass RX6 = some m.cls := findClass_of_methodNamed B.named
  have hlocks := B.notSynchronized
  subst hsz
  have hD := hD0.self (sz := s.heap.size)
  generalize hAe : va_A [(ro, .inr (6, [w0, .int 8, .ref ca, w3])), (rp, .inr (6, [wp0, wp1, .ref cb, .int 0])), (ca, .inl (cc0, 32, .inl fa)), (cb, .inl (cc1, 32, .inl fb))] s.heap.size = A at hD ⊢
  have hA : ∀ q : Nat, s.heap.size ≤ q → A q := fun q h => by rw [← hAe]; exact Or.inr h
  have hS : va_S A s.heap s.heap [] := va_S.rf
  have hP : va_P (dC, dI) vwCl [(ro, .inr (6, [w0, .int 8, .ref ca, w3])), (rp, .inr (6, [wp0, wp1, .ref cb, .int 0])), (ca, .inl (cc0, 32, .inl fa)), (cb, .inl (cc1, 32, .inl fb))] s.heap := hP
  have hl := lv_entry ([.ref ro, .ref rp]) (n := 2) (Nat.le_of_ble_eq_true rfl)
  rw [lg_entry_eq]
  generalize (lg_sl ([.ref ro, .ref rp]) ++ List.replicate (2 - (lg_sl ([.ref ro, .ref rp])).length) Slot.unset).toArray = ls at hl ⊢
  have hl : lv_has ls 2 [(0, .ref ro), (1, .ref rp)] := hl
  refine lv_aload_n hx hb dX6_copyFrom_0 rfl (lv_at hl 0 rfl) ?_
  refine lv_aload_n hx hb dX6_copyFrom_1 rfl (lv_at hl 0 rfl) ?_
  refine va_get (D := (dC, dI)) (ci := 6) (v := .int 8) (C := RX6) (T := TX6) (N := 4) hx hb hts iw_k_rcopy_32_X6 hown hK hP 0 rfl rfl 1 (by decide) (hts (.fieldLink RX6 21 "ThriceCounted$Rows" "limit" "I") (by decide +kernel)) (fun _ h9 => h9) rfl dX6_copyFrom_2 ?_
  refine lv_aload_n hx hb dX6_copyFrom_5 rfl (lv_at hl 1 rfl) ?_
  refine va_get (D := (dC, dI)) (ci := 6) (v := .int 0) (C := RX6) (T := TX6) (N := 4) hx hb hts iw_k_rcopy_32_X6 hown hK hP 1 rfl rfl 3 (by decide) (hts (.fieldLink RX6 9 "ThriceCounted$Rows" "size" "I") (by decide +kernel)) (fun _ h9 => h9) rfl dX6_copyFrom_6 ?_
  refine va_mmin hx hb (hml.trans hl.1.symm) hown (hts (.methodLink RX6 50 Lib.Math.min.name) (by decide +kernel)) (hts (.static Lib.Math.min.name) (by decide +kernel)) (hts (.initialized "java/lang/Math") (by decide +kernel)) (hts (.code Lib.Math.min.name Lib.Math.min.code 2 (some .int)) (by decide +kernel)) (Nat.le_of_ble_eq_true rfl) (Nat.le_of_ble_eq_true rfl) (Nat.le_of_ble_eq_true rfl) (Nat.le_of_ble_eq_true rfl) dX6_copyFrom_9 ?_
  refine tz_i 0 (by decide) ?_
  refine va_put (D := (dC, dI)) (ci := 6) (v := .int 0) (ty := .int) (C := RX6) (T := TX6) (N := 4) hx hb hts iw_k_rcopy_32_X6 tyX6 tyX6_ok nmX6 hown hK hP hD hS 0 rfl rfl 3 (by decide) (hts (.fieldLink RX6 9 "ThriceCounted$Rows" "size" "I") (by decide +kernel)) (fun _ h9 => h9) rfl (by decide +kernel) rfl rfl (Nat.le_of_ble_eq_true rfl) dX6_copyFrom_12 (fun H locs hP hD hS => ?_)
  have hP : va_P (dC, dI) vwCl [(ro, .inr (6, [w0, .int 8, .ref ca, .int 0])), (rp, .inr (6, [wp0, wp1, .ref cb, .int 0])), (ca, .inl (cc0, 32, .inl fa)), (cb, .inl (cc1, 32, .inl fb))] H := hP
  have hD : va_D A [(ro, .inr (6, [w0, .int 8, .ref ca, .int 0])), (rp, .inr (6, [wp0, wp1, .ref cb, .int 0])), (ca, .inl (cc0, 32, .inl fa)), (cb, .inl (cc1, 32, .inl fb))] := hD
  refine lv_aload_n hx hb dX6_copyFrom_15 rfl (lv_at hl 1 rfl) ?_
  refine va_get (D := (dC, dI)) (ci := 6) (v := .ref cb) (C := RX6) (T := TX6) (N := 4) hx hb hts iw_k_rcopy_32_X6 hown hK hP 1 rfl rfl 2 (by decide) (hts (.fieldLink RX6 27 "ThriceCounted$Rows" "cells" "[I") (by decide +kernel)) (fun _ h9 => h9) rfl dX6_copyFrom_16 ?_
  refine lv_iconst (v := 0) hx hb dX6_copyFrom_19 (by decide) ?_
  refine lv_aload_n hx hb dX6_copyFrom_20 rfl (lv_at hl 0 rfl) ?_
  refine va_get (D := (dC, dI)) (ci := 6) (v := .ref ca) (C := RX6) (T := TX6) (N := 4) hx hb hts iw_k_rcopy_32_X6 hown hK hP 0 rfl rfl 2 (by decide) (hts (.fieldLink RX6 27 "ThriceCounted$Rows" "cells" "[I") (by decide +kernel)) (fun _ h9 => h9) rfl dX6_copyFrom_21 ?_
  refine lv_iconst (v := 0) hx hb dX6_copyFrom_24 (by decide) ?_
  refine lv_aload_n hx hb dX6_copyFrom_25 rfl (lv_at hl 0 rfl) ?_
  refine va_get (D := (dC, dI)) (ci := 6) (v := .ref ca) (C := RX6) (T := TX6) (N := 4) hx hb hts iw_k_rcopy_32_X6 hown hK hP 0 rfl rfl 2 (by decide) (hts (.fieldLink RX6 27 "ThriceCounted$Rows" "cells" "[I") (by decide +kernel)) (fun _ h9 => h9) rfl dX6_copyFrom_26 ?_
  refine va_alen (v := 32) hx hb hK hP 2 0 rfl rfl rfl dX6_copyFrom_29 ?_
  refine lv_aload_n hx hb dX6_copyFrom_30 rfl (lv_at hl 1 rfl) ?_
  refine va_get (D := (dC, dI)) (ci := 6) (v := .ref cb) (C := RX6) (T := TX6) (N := 4) hx hb hts iw_k_rcopy_32_X6 hown hK hP 1 rfl rfl 2 (by decide) (hts (.fieldLink RX6 27 "ThriceCounted$Rows" "cells" "[I") (by decide +kernel)) (fun _ h9 => h9) rfl dX6_copyFrom_31 ?_
  refine va_alen (v := 32) hx hb hK hP 3 1 rfl rfl rfl dX6_copyFrom_34 ?_
  refine va_mmin hx hb (hml.trans hl.1.symm) hown (hts (.methodLink RX6 50 Lib.Math.min.name) (by decide +kernel)) (hts (.static Lib.Math.min.name) (by decide +kernel)) (hts (.initialized "java/lang/Math") (by decide +kernel)) (hts (.code Lib.Math.min.name Lib.Math.min.code 2 (some .int)) (by decide +kernel)) (Nat.le_of_ble_eq_true rfl) (Nat.le_of_ble_eq_true rfl) (Nat.le_of_ble_eq_true rfl) (Nat.le_of_ble_eq_true rfl) dX6_copyFrom_35 ?_
  refine tz_i 32 (by decide) ?_
  refine va_copyi (ty := .int) hx hb (hml.trans hl.1.symm) hown (hts (.methodLink RX6 53 arraycopyName) (by decide +kernel)) (hts (.native arraycopyName) (by decide +kernel)) (hts (.static arraycopyName) (by decide +kernel)) (hts (.initialized "java/lang/System") (by decide +kernel)) hK hP hD hS 3 2 1 0 rfl rfl rfl rfl rfl (by decide) (by decide) (by decide) (by decide) (by decide) (fun _ _ => rfl) (Nat.le_of_ble_eq_true rfl) (Nat.le_of_ble_eq_true rfl) dX6_copyFrom_38 (fun H locs hP hD hS => ?_)
  generalize (va_cpy _ _ _ _ _) = f_1 at hP hD
  have hP : va_P (dC, dI) vwCl [(ro, .inr (6, [w0, .int 8, .ref ca, .int 0])), (rp, .inr (6, [wp0, wp1, .ref cb, .int 0])), (ca, .inl (cc0, 32, .inl f_1)), (cb, .inl (cc1, 32, .inl fb))] H := hP
  have hD : va_D A [(ro, .inr (6, [w0, .int 8, .ref ca, .int 0])), (rp, .inr (6, [wp0, wp1, .ref cb, .int 0])), (ca, .inl (cc0, 32, .inl f_1)), (cb, .inl (cc1, 32, .inl fb))] := hD
  exact W.vret hx hb hr (fun t ht hW => ⟨⟨(), rfl, trivial, trivial⟩, hS.F ht⟩) hS.2.2 dX6_copyFrom_41
set_option maxRecDepth 20000 in
theorem iw_k_rcopy_24_X6 : ∀ w ∈ wsX60, w ∈ wsX6_copyFrom := by decide +kernel
set_option maxHeartbeats 4000000 in
set_option maxRecDepth 100000 in
theorem k_rcopy_24 (l : Launch) (dC : Nat → ClassId) (dI : Nat → Nat → Nat) (ro : Nat) (w0 : Value) (ca : Nat) (w3 : Value) (rp : Nat) (wp0 : Value) (wp1 : Value) (cb : Nat) (cc0 : ClassId) (fa : Nat → Int32) (cc1 : ClassId) (fb : Nat → Int32) (sz : Nat) : Met l yX6_copyFrom wsX6_copyFrom ({ frames := 1, cells := 0, slots := 0, locals := 40 }) (va_Pc [.ref ro, .ref rp] (fun U => U.heap.size = sz ∧ va_P (dC, dI) vwCl [(ro, .inr (6, [w0, .int 6, .ref ca, w3])), (rp, .inr (6, [wp0, wp1, .ref cb, .int 0])), (ca, .inl (cc0, 24, .inl fa)), (cb, .inl (cc1, 24, .inl fb))] U.heap ∧ va_K (dC, dI) vwCl [(cc0, .int), (cc1, .int)] U ∧ va_D (fun _ => True) [(ro, .inr (6, [w0, .int 6, .ref ca, w3])), (rp, .inr (6, [wp0, wp1, .ref cb, .int 0])), (ca, .inl (cc0, 24, .inl fa)), (cb, .inl (cc1, 24, .inl fb))])) (va_Qv (fun (_ : Unit) => True) (fun _ _ => True) (va_A [(ro, .inr (6, [w0, .int 6, .ref ca, w3])), (rp, .inr (6, [wp0, wp1, .ref cb, .int 0])), (ca, .inl (cc0, 24, .inl fa)), (cb, .inl (cc1, 24, .inl fb))] sz)) 0 0 (va_A [(ro, .inr (6, [w0, .int 6, .ref ca, w3])), (rp, .inr (6, [wp0, wp1, .ref cb, .int 0])), (ca, .inl (cc0, 24, .inl fa)), (cb, .inl (cc1, 24, .inl fb))] sz) := by
  refine Met.ofW (cc := cX6_copyFrom) (maxL := 2) (ret := none) (by decide) rfl ?_
  intro p e s m args below meth c s₁ B hml hv
  obtain ⟨rfl, hsz, hP, hK, hD0⟩ := hv
  have hx := B.exec
  have hb := B.bytes
  have hr := B.returns
  have hts := atoms_spec (ws := wsX6_copyFrom) B.pre
  have hown : s.vm.findClass RX6 = some m.cls := findClass_of_methodNamed B.named
  have hlocks := B.notSynchronized
  subst hsz
  have hD := hD0.self (sz := s.heap.size)
  generalize hAe : va_A [(ro, .inr (6, [w0, .int 6, .ref ca, w3])), (rp, .inr (6, [wp0, wp1, .ref cb, .int 0])), (ca, .inl (cc0, 24, .inl fa)), (cb, .inl (cc1, 24, .inl fb))] s.heap.size = A at hD ⊢
  have hA : ∀ q : Nat, s.heap.size ≤ q → A q := fun q h => by rw [← hAe]; exact Or.inr h
  have hS : va_S A s.heap s.heap [] := va_S.rf
  have hP : va_P (dC, dI) vwCl [(ro, .inr (6, [w0, .int 6, .ref ca, w3])), (rp, .inr (6, [wp0, wp1, .ref cb, .int 0])), (ca, .inl (cc0, 24, .inl fa)), (cb, .inl (cc1, 24, .inl fb))] s.heap := hP
  have hl := lv_entry ([.ref ro, .ref rp]) (n := 2) (Nat.le_of_ble_eq_true rfl)
  rw [lg_entry_eq]
  generalize (lg_sl ([.ref ro, .ref rp]) ++ List.replicate (2 - (lg_sl ([.ref ro, .ref rp])).length) Slot.unset).toArray = ls at hl ⊢
  have hl : lv_has ls 2 [(0, .ref ro), (1, .ref rp)] := hl
  refine lv_aload_n hx hb dX6_copyFrom_0 rfl (lv_at hl 0 rfl) ?_
  refine lv_aload_n hx hb dX6_copyFrom_1 rfl (lv_at hl 0 rfl) ?_
  refine va_get (D := (dC, dI)) (ci := 6) (v := .int 6) (C := RX6) (T := TX6) (N := 4) hx hb hts iw_k_rcopy_24_X6 hown hK hP 0 rfl rfl 1 (by decide) (hts (.fieldLink RX6 21 "ThriceCounted$Rows" "limit" "I") (by decide +kernel)) (fun _ h9 => h9) rfl dX6_copyFrom_2 ?_
  refine lv_aload_n hx hb dX6_copyFrom_5 rfl (lv_at hl 1 rfl) ?_
  refine va_get (D := (dC, dI)) (ci := 6) (v := .int 0) (C := RX6) (T := TX6) (N := 4) hx hb hts iw_k_rcopy_24_X6 hown hK hP 1 rfl rfl 3 (by decide) (hts (.fieldLink RX6 9 "ThriceCounted$Rows" "size" "I") (by decide +kernel)) (fun _ h9 => h9) rfl dX6_copyFrom_6 ?_
  refine va_mmin hx hb (hml.trans hl.1.symm) hown (hts (.methodLink RX6 50 Lib.Math.min.name) (by decide +kernel)) (hts (.static Lib.Math.min.name) (by decide +kernel)) (hts (.initialized "java/lang/Math") (by decide +kernel)) (hts (.code Lib.Math.min.name Lib.Math.min.code 2 (some .int)) (by decide +kernel)) (Nat.le_of_ble_eq_true rfl) (Nat.le_of_ble_eq_true rfl) (Nat.le_of_ble_eq_true rfl) (Nat.le_of_ble_eq_true rfl) dX6_copyFrom_9 ?_
  refine tz_i 0 (by decide) ?_
  refine va_put (D := (dC, dI)) (ci := 6) (v := .int 0) (ty := .int) (C := RX6) (T := TX6) (N := 4) hx hb hts iw_k_rcopy_24_X6 tyX6 tyX6_ok nmX6 hown hK hP hD hS 0 rfl rfl 3 (by decide) (hts (.fieldLink RX6 9 "ThriceCounted$Rows" "size" "I") (by decide +kernel)) (fun _ h9 => h9) rfl (by decide +kernel) rfl rfl (Nat.le_of_ble_eq_true rfl) dX6_copyFrom_12 (fun H locs hP hD hS => ?_)
  have hP : va_P (dC, dI) vwCl [(ro, .inr (6, [w0, .int 6, .ref ca, .int 0])), (rp, .inr (6, [wp0, wp1, .ref cb, .int 0])), (ca, .inl (cc0, 24, .inl fa)), (cb, .inl (cc1, 24, .inl fb))] H := hP
  have hD : va_D A [(ro, .inr (6, [w0, .int 6, .ref ca, .int 0])), (rp, .inr (6, [wp0, wp1, .ref cb, .int 0])), (ca, .inl (cc0, 24, .inl fa)), (cb, .inl (cc1, 24, .inl fb))] := hD
  refine lv_aload_n hx hb dX6_copyFrom_15 rfl (lv_at hl 1 rfl) ?_
  refine va_get (D := (dC, dI)) (ci := 6) (v := .ref cb) (C := RX6) (T := TX6) (N := 4) hx hb hts iw_k_rcopy_24_X6 hown hK hP 1 rfl rfl 2 (by decide) (hts (.fieldLink RX6 27 "ThriceCounted$Rows" "cells" "[I") (by decide +kernel)) (fun _ h9 => h9) rfl dX6_copyFrom_16 ?_
  refine lv_iconst (v := 0) hx hb dX6_copyFrom_19 (by decide) ?_
  refine lv_aload_n hx hb dX6_copyFrom_20 rfl (lv_at hl 0 rfl) ?_
  refine va_get (D := (dC, dI)) (ci := 6) (v := .ref ca) (C := RX6) (T := TX6) (N := 4) hx hb hts iw_k_rcopy_24_X6 hown hK hP 0 rfl rfl 2 (by decide) (hts (.fieldLink RX6 27 "ThriceCounted$Rows" "cells" "[I") (by decide +kernel)) (fun _ h9 => h9) rfl dX6_copyFrom_21 ?_
  refine lv_iconst (v := 0) hx hb dX6_copyFrom_24 (by decide) ?_
  refine lv_aload_n hx hb dX6_copyFrom_25 rfl (lv_at hl 0 rfl) ?_
  refine va_get (D := (dC, dI)) (ci := 6) (v := .ref ca) (C := RX6) (T := TX6) (N := 4) hx hb hts iw_k_rcopy_24_X6 hown hK hP 0 rfl rfl 2 (by decide) (hts (.fieldLink RX6 27 "ThriceCounted$Rows" "cells" "[I") (by decide +kernel)) (fun _ h9 => h9) rfl dX6_copyFrom_26 ?_
  refine va_alen (v := 24) hx hb hK hP 2 0 rfl rfl rfl dX6_copyFrom_29 ?_
  refine lv_aload_n hx hb dX6_copyFrom_30 rfl (lv_at hl 1 rfl) ?_
  refine va_get (D := (dC, dI)) (ci := 6) (v := .ref cb) (C := RX6) (T := TX6) (N := 4) hx hb hts iw_k_rcopy_24_X6 hown hK hP 1 rfl rfl 2 (by decide) (hts (.fieldLink RX6 27 "ThriceCounted$Rows" "cells" "[I") (by decide +kernel)) (fun _ h9 => h9) rfl dX6_copyFrom_31 ?_
  refine va_alen (v := 24) hx hb hK hP 3 1 rfl rfl rfl dX6_copyFrom_34 ?_
  refine va_mmin hx hb (hml.trans hl.1.symm) hown (hts (.methodLink RX6 50 Lib.Math.min.name) (by decide +kernel)) (hts (.static Lib.Math.min.name) (by decide +kernel)) (hts (.initialized "java/lang/Math") (by decide +kernel)) (hts (.code Lib.Math.min.name Lib.Math.min.code 2 (some .int)) (by decide +kernel)) (Nat.le_of_ble_eq_true rfl) (Nat.le_of_ble_eq_true rfl) (Nat.le_of_ble_eq_true rfl) (Nat.le_of_ble_eq_true rfl) dX6_copyFrom_35 ?_
  refine tz_i 24 (by decide) ?_
  refine va_copyi (ty := .int) hx hb (hml.trans hl.1.symm) hown (hts (.methodLink RX6 53 arraycopyName) (by decide +kernel)) (hts (.native arraycopyName) (by decide +kernel)) (hts (.static arraycopyName) (by decide +kernel)) (hts (.initialized "java/lang/System") (by decide +kernel)) hK hP hD hS 3 2 1 0 rfl rfl rfl rfl rfl (by decide) (by decide) (by decide) (by decide) (by decide) (fun _ _ => rfl) (Nat.le_of_ble_eq_true rfl) (Nat.le_of_ble_eq_true rfl) dX6_copyFrom_38 (fun H locs hP hD hS => ?_)
  generalize (va_cpy _ _ _ _ _) = f_1 at hP hD
  have hP : va_P (dC, dI) vwCl [(ro, .inr (6, [w0, .int 6, .ref ca, .int 0])), (rp, .inr (6, [wp0, wp1, .ref cb, .int 0])), (ca, .inl (cc0, 24, .inl f_1)), (cb, .inl (cc1, 24, .inl fb))] H := hP
  have hD : va_D A [(ro, .inr (6, [w0, .int 6, .ref ca, .int 0])), (rp, .inr (6, [wp0, wp1, .ref cb, .int 0])), (ca, .inl (cc0, 24, .inl f_1)), (cb, .inl (cc1, 24, .inl fb))] := hD
  exact W.vret hx hb hr (fun t ht hW => ⟨⟨(), rfl, trivial, trivial⟩, hS.F ht⟩) hS.2.2 dX6_copyFrom_41
set_option maxRecDepth 20000 in
theorem ggX0_copyFrom_X6_copyFrom : GoodIn wsX0_copyFrom wsX6_copyFrom := goodIn_r _ [15, 16, 17, 18, 8, 9, 10, 19, 20, 21, 22, 23, 30, 31, 32, 33] (by decide +kernel) (by decide +kernel)
set_option maxRecDepth 20000 in
theorem gX0_copyFrom_X6_copyFrom : GoodIn wsX0_copyFrom (wsV RX0 40 RX6 yX6_copyFrom wsX6_copyFrom) := goodIn_app (goodIn_of _ (by decide +kernel)) ggX0_copyFrom_X6_copyFrom
theorem dX0_copyFrom_0 : decode cX0_copyFrom 0 = .ok (.aload_n 0, 1) := by decide +kernel
theorem dX0_copyFrom_1 : decode cX0_copyFrom 1 = .ok (.getfield 14, 3) := by decide +kernel
theorem dX0_copyFrom_4 : decode cX0_copyFrom 4 = .ok (.aload_n 1, 1) := by decide +kernel
theorem dX0_copyFrom_5 : decode cX0_copyFrom 5 = .ok (.getfield 14, 3) := by decide +kernel
theorem dX0_copyFrom_8 : decode cX0_copyFrom 8 = .ok (.invokevirtual 40, 3) := by decide +kernel
theorem dX0_copyFrom_11 : decode cX0_copyFrom 11 = .ok (.aload_n 0, 1) := by decide +kernel
theorem dX0_copyFrom_12 : decode cX0_copyFrom 12 = .ok (.getfield 20, 3) := by decide +kernel
theorem dX0_copyFrom_15 : decode cX0_copyFrom 15 = .ok (.aload_n 1, 1) := by decide +kernel
theorem dX0_copyFrom_16 : decode cX0_copyFrom 16 = .ok (.getfield 20, 3) := by decide +kernel
theorem dX0_copyFrom_19 : decode cX0_copyFrom 19 = .ok (.invokevirtual 40, 3) := by decide +kernel
theorem dX0_copyFrom_22 : decode cX0_copyFrom 22 = .ok (.aload_n 0, 1) := by decide +kernel
theorem dX0_copyFrom_23 : decode cX0_copyFrom 23 = .ok (.getfield 23, 3) := by decide +kernel
theorem dX0_copyFrom_26 : decode cX0_copyFrom 26 = .ok (.aload_n 1, 1) := by decide +kernel
theorem dX0_copyFrom_27 : decode cX0_copyFrom 27 = .ok (.getfield 23, 3) := by decide +kernel
theorem dX0_copyFrom_30 : decode cX0_copyFrom 30 = .ok (.invokevirtual 40, 3) := by decide +kernel
theorem dX0_copyFrom_33 : decode cX0_copyFrom 33 = .ok (.aload_n 0, 1) := by decide +kernel
theorem dX0_copyFrom_34 : decode cX0_copyFrom 34 = .ok (.getfield 26, 3) := by decide +kernel
theorem dX0_copyFrom_37 : decode cX0_copyFrom 37 = .ok (.aload_n 1, 1) := by decide +kernel
theorem dX0_copyFrom_38 : decode cX0_copyFrom 38 = .ok (.getfield 26, 3) := by decide +kernel
theorem dX0_copyFrom_41 : decode cX0_copyFrom 41 = .ok (.invokevirtual 40, 3) := by decide +kernel
theorem dX0_copyFrom_44 : decode cX0_copyFrom 44 = .ok (.aload_n 0, 1) := by decide +kernel
theorem dX0_copyFrom_45 : decode cX0_copyFrom 45 = .ok (.aload_n 1, 1) := by decide +kernel
theorem dX0_copyFrom_46 : decode cX0_copyFrom 46 = .ok (.getfield 33, 3) := by decide +kernel
theorem dX0_copyFrom_49 : decode cX0_copyFrom 49 = .ok (.aload_n 0, 1) := by decide +kernel
theorem dX0_copyFrom_50 : decode cX0_copyFrom 50 = .ok (.getfield 29, 3) := by decide +kernel
theorem dX0_copyFrom_53 : decode cX0_copyFrom 53 = .ok (.arraylength, 1) := by decide +kernel
theorem dX0_copyFrom_54 : decode cX0_copyFrom 54 = .ok (.invokestatic 44, 3) := by decide +kernel
theorem dX0_copyFrom_57 : decode cX0_copyFrom 57 = .ok (.putfield 33, 3) := by decide +kernel
theorem dX0_copyFrom_60 : decode cX0_copyFrom 60 = .ok (.iconst 0, 1) := by decide +kernel
theorem dX0_copyFrom_61 : decode cX0_copyFrom 61 = .ok (.istore_n 2, 1) := by decide +kernel
theorem dX0_copyFrom_62 : decode cX0_copyFrom 62 = .ok (.iload_n 2, 1) := by decide +kernel
theorem dX0_copyFrom_63 : decode cX0_copyFrom 63 = .ok (.aload_n 0, 1) := by decide +kernel
theorem dX0_copyFrom_64 : decode cX0_copyFrom 64 = .ok (.getfield 33, 3) := by decide +kernel
theorem dX0_copyFrom_67 : decode cX0_copyFrom 67 = .ok (.if_icmp .ge 33, 3) := by decide +kernel
theorem dX0_copyFrom_100 : decode cX0_copyFrom 100 = .ok (.return_, 1) := by decide +kernel
set_option maxRecDepth 20000 in
theorem iw_k_bcopy_X0 : ∀ w ∈ wsX00, w ∈ wsX0_copyFrom := by decide +kernel
set_option maxHeartbeats 4000000 in
set_option maxRecDepth 100000 in
theorem k_bcopy (l : Launch) (dC : Nat → ClassId) (dI : Nat → Nat → Nat) (bo : Nat) (r0 : Nat) (r1 : Nat) (r2 : Nat) (r3 : Nat) (ea : Nat) (vb5 : Value) (bp : Nat) (rp0 : Nat) (rp1 : Nat) (rp2 : Nat) (rp3 : Nat) (vp4 : Value) (ce : ClassId) (fe : Nat → Option Nat) (wr00 : Value) (ca0 : Nat) (wr03 : Value) (wrp00 : Value) (wrp01 : Value) (cb0 : Nat) (cx0 : ClassId) (fa0 : Nat → Int32) (cy0 : ClassId) (fb0 : Nat → Int32) (wr10 : Value) (ca1 : Nat) (wr13 : Value) (wrp10 : Value) (wrp11 : Value) (cb1 : Nat) (cx1 : ClassId) (fa1 : Nat → Int32) (cy1 : ClassId) (fb1 : Nat → Int32) (wr20 : Value) (ca2 : Nat) (wr23 : Value) (wrp20 : Value) (wrp21 : Value) (cb2 : Nat) (cx2 : ClassId) (fa2 : Nat → Int32) (cy2 : ClassId) (fb2 : Nat → Int32) (wr30 : Value) (ca3 : Nat) (wr33 : Value) (wrp30 : Value) (wrp31 : Value) (cb3 : Nat) (cx3 : ClassId) (fa3 : Nat → Int32) (cy3 : ClassId) (fb3 : Nat → Int32) (sz : Nat) : Met l yX0_copyFrom wsX0_copyFrom ({ frames := 2, cells := 0, slots := 0, locals := 61 }) (va_Pc [.ref bo, .ref bp] (fun U => U.heap.size = sz ∧ va_P (dC, dI) vwCl [(bo, .inr (0, [.ref r0, .ref r1, .ref r2, .ref r3, .ref ea, vb5])), (bp, .inr (0, [.ref rp0, .ref rp1, .ref rp2, .ref rp3, vp4, .int 0])), (ea, .inl (ce, 8, .inr (.inr (.inr (.inr fe))))), (r0, .inr (6, [wr00, .int 5, .ref ca0, wr03])), (rp0, .inr (6, [wrp00, wrp01, .ref cb0, .int 0])), (ca0, .inl (cx0, 5, .inl fa0)), (cb0, .inl (cy0, 5, .inl fb0)), (r1, .inr (6, [wr10, .int 5, .ref ca1, wr13])), (rp1, .inr (6, [wrp10, wrp11, .ref cb1, .int 0])), (ca1, .inl (cx1, 20, .inl fa1)), (cb1, .inl (cy1, 20, .inl fb1)), (r2, .inr (6, [wr20, .int 8, .ref ca2, wr23])), (rp2, .inr (6, [wrp20, wrp21, .ref cb2, .int 0])), (ca2, .inl (cx2, 32, .inl fa2)), (cb2, .inl (cy2, 32, .inl fb2)), (r3, .inr (6, [wr30, .int 6, .ref ca3, wr33])), (rp3, .inr (6, [wrp30, wrp31, .ref cb3, .int 0])), (ca3, .inl (cx3, 24, .inl fa3)), (cb3, .inl (cy3, 24, .inl fb3))] U.heap ∧ va_K (dC, dI) vwCl [(ce, (.object "ThriceCounted$Rows")), (cx0, .int), (cy0, .int), (cx1, .int), (cy1, .int), (cx2, .int), (cy2, .int), (cx3, .int), (cy3, .int)] U ∧ va_D (fun _ => True) [(bo, .inr (0, [.ref r0, .ref r1, .ref r2, .ref r3, .ref ea, vb5])), (bp, .inr (0, [.ref rp0, .ref rp1, .ref rp2, .ref rp3, vp4, .int 0])), (ea, .inl (ce, 8, .inr (.inr (.inr (.inr fe))))), (r0, .inr (6, [wr00, .int 5, .ref ca0, wr03])), (rp0, .inr (6, [wrp00, wrp01, .ref cb0, .int 0])), (ca0, .inl (cx0, 5, .inl fa0)), (cb0, .inl (cy0, 5, .inl fb0)), (r1, .inr (6, [wr10, .int 5, .ref ca1, wr13])), (rp1, .inr (6, [wrp10, wrp11, .ref cb1, .int 0])), (ca1, .inl (cx1, 20, .inl fa1)), (cb1, .inl (cy1, 20, .inl fb1)), (r2, .inr (6, [wr20, .int 8, .ref ca2, wr23])), (rp2, .inr (6, [wrp20, wrp21, .ref cb2, .int 0])), (ca2, .inl (cx2, 32, .inl fa2)), (cb2, .inl (cy2, 32, .inl fb2)), (r3, .inr (6, [wr30, .int 6, .ref ca3, wr33])), (rp3, .inr (6, [wrp30, wrp31, .ref cb3, .int 0])), (ca3, .inl (cx3, 24, .inl fa3)), (cb3, .inl (cy3, 24, .inl fb3))])) (va_Qv (fun (_ : Unit) => True) (fun _ _ => True) (va_A [(bo, .inr (0, [.ref r0, .ref r1, .ref r2, .ref r3, .ref ea, vb5])), (bp, .inr (0, [.ref rp0, .ref rp1, .ref rp2, .ref rp3, vp4, .int 0])), (ea, .inl (ce, 8, .inr (.inr (.inr (.inr fe))))), (r0, .inr (6, [wr00, .int 5, .ref ca0, wr03])), (rp0, .inr (6, [wrp00, wrp01, .ref cb0, .int 0])), (ca0, .inl (cx0, 5, .inl fa0)), (cb0, .inl (cy0, 5, .inl fb0)), (r1, .inr (6, [wr10, .int 5, .ref ca1, wr13])), (rp1, .inr (6, [wrp10, wrp11, .ref cb1, .int 0])), (ca1, .inl (cx1, 20, .inl fa1)), (cb1, .inl (cy1, 20, .inl fb1)), (r2, .inr (6, [wr20, .int 8, .ref ca2, wr23])), (rp2, .inr (6, [wrp20, wrp21, .ref cb2, .int 0])), (ca2, .inl (cx2, 32, .inl fa2)), (cb2, .inl (cy2, 32, .inl fb2)), (r3, .inr (6, [wr30, .int 6, .ref ca3, wr33])), (rp3, .inr (6, [wrp30, wrp31, .ref cb3, .int 0])), (ca3, .inl (cx3, 24, .inl fa3)), (cb3, .inl (cy3, 24, .inl fb3))] sz)) 0 0 (va_A [(bo, .inr (0, [.ref r0, .ref r1, .ref r2, .ref r3, .ref ea, vb5])), (bp, .inr (0, [.ref rp0, .ref rp1, .ref rp2, .ref rp3, vp4, .int 0])), (ea, .inl (ce, 8, .inr (.inr (.inr (.inr fe))))), (r0, .inr (6, [wr00, .int 5, .ref ca0, wr03])), (rp0, .inr (6, [wrp00, wrp01, .ref cb0, .int 0])), (ca0, .inl (cx0, 5, .inl fa0)), (cb0, .inl (cy0, 5, .inl fb0)), (r1, .inr (6, [wr10, .int 5, .ref ca1, wr13])), (rp1, .inr (6, [wrp10, wrp11, .ref cb1, .int 0])), (ca1, .inl (cx1, 20, .inl fa1)), (cb1, .inl (cy1, 20, .inl fb1)), (r2, .inr (6, [wr20, .int 8, .ref ca2, wr23])), (rp2, .inr (6, [wrp20, wrp21, .ref cb2, .int 0])), (ca2, .inl (cx2, 32, .inl fa2)), (cb2, .inl (cy2, 32, .inl fb2)), (r3, .inr (6, [wr30, .int 6, .ref ca3, wr33])), (rp3, .inr (6, [wrp30, wrp31, .ref cb3, .int 0])), (ca3, .inl (cx3, 24, .inl fa3)), (cb3, .inl (cy3, 24, .inl fb3))] sz) := by
  refine Met.ofW (cc := cX0_copyFrom) (maxL := 3) (ret := none) (by decide) rfl ?_
  intro p e s m args below meth c s₁ B hml hv
  obtain ⟨rfl, hsz, hP, hK, hD0⟩ := hv
  have hx := B.exec
  have hb := B.bytes
  have hr := B.returns
  have hts := atoms_spec (ws := wsX0_copyFrom) B.pre
  have hown : s.vm.findClass RX0 = some m.cls := findClass_of_methodNamed B.named
  have hlocks := B.notSynchronized
  subst hsz
  have hD := hD0.self (sz := s.heap.size)
  generalize hAe : va_A [(bo, .inr (0, [.ref r0, .ref r1, .ref r2, .ref r3, .ref ea, vb5])), (bp, .inr (0, [.ref rp0, .ref rp1, .ref rp2, .ref rp3, vp4, .int 0])), (ea, .inl (ce, 8, .inr (.inr (.inr (.inr fe))))), (r0, .inr (6, [wr00, .int 5, .ref ca0, wr03])), (rp0, .inr (6, [wrp00, wrp01, .ref cb0, .int 0])), (ca0, .inl (cx0, 5, .inl fa0)), (cb0, .inl (cy0, 5, .inl fb0)), (r1, .inr (6, [wr10, .int 5, .ref ca1, wr13])), (rp1, .inr (6, [wrp10, wrp11, .ref cb1, .int 0])), (ca1, .inl (cx1, 20, .inl fa1)), (cb1, .inl (cy1, 20, .inl fb1)), (r2, .inr (6, [wr20, .int 8, .ref ca2, wr23])), (rp2, .inr (6, [wrp20, wrp21, .ref cb2, .int 0])), (ca2, .inl (cx2, 32, .inl fa2)), (cb2, .inl (cy2, 32, .inl fb2)), (r3, .inr (6, [wr30, .int 6, .ref ca3, wr33])), (rp3, .inr (6, [wrp30, wrp31, .ref cb3, .int 0])), (ca3, .inl (cx3, 24, .inl fa3)), (cb3, .inl (cy3, 24, .inl fb3))] s.heap.size = A at hD ⊢
  have hA : ∀ q : Nat, s.heap.size ≤ q → A q := fun q h => by rw [← hAe]; exact Or.inr h
  have hS : va_S A s.heap s.heap [] := va_S.rf
  have hP : va_P (dC, dI) vwCl [(bo, .inr (0, [.ref r0, .ref r1, .ref r2, .ref r3, .ref ea, vb5])), (bp, .inr (0, [.ref rp0, .ref rp1, .ref rp2, .ref rp3, vp4, .int 0])), (ea, .inl (ce, 8, .inr (.inr (.inr (.inr fe))))), (r0, .inr (6, [wr00, .int 5, .ref ca0, wr03])), (rp0, .inr (6, [wrp00, wrp01, .ref cb0, .int 0])), (ca0, .inl (cx0, 5, .inl fa0)), (cb0, .inl (cy0, 5, .inl fb0)), (r1, .inr (6, [wr10, .int 5, .ref ca1, wr13])), (rp1, .inr (6, [wrp10, wrp11, .ref cb1, .int 0])), (ca1, .inl (cx1, 20, .inl fa1)), (cb1, .inl (cy1, 20, .inl fb1)), (r2, .inr (6, [wr20, .int 8, .ref ca2, wr23])), (rp2, .inr (6, [wrp20, wrp21, .ref cb2, .int 0])), (ca2, .inl (cx2, 32, .inl fa2)), (cb2, .inl (cy2, 32, .inl fb2)), (r3, .inr (6, [wr30, .int 6, .ref ca3, wr33])), (rp3, .inr (6, [wrp30, wrp31, .ref cb3, .int 0])), (ca3, .inl (cx3, 24, .inl fa3)), (cb3, .inl (cy3, 24, .inl fb3))] s.heap := hP
  have hl := lv_entry ([.ref bo, .ref bp]) (n := 3) (Nat.le_of_ble_eq_true rfl)
  rw [lg_entry_eq]
  generalize (lg_sl ([.ref bo, .ref bp]) ++ List.replicate (3 - (lg_sl ([.ref bo, .ref bp])).length) Slot.unset).toArray = ls at hl ⊢
  have hl : lv_has ls 3 [(0, .ref bo), (1, .ref bp)] := hl
  refine lv_aload_n hx hb dX0_copyFrom_0 rfl (lv_at hl 0 rfl) ?_
  refine va_get (D := (dC, dI)) (ci := 0) (v := .ref r0) (C := RX0) (T := TX0) (N := 6) hx hb hts iw_k_bcopy_X0 hown hK hP 0 rfl rfl 0 (by decide) (hts (.fieldLink RX0 14 "ThriceCounted$Bank" "clerks" "LThriceCounted$Rows;") (by decide +kernel)) (fun _ h9 => h9) rfl dX0_copyFrom_1 ?_
  refine lv_aload_n hx hb dX0_copyFrom_4 rfl (lv_at hl 1 rfl) ?_
  refine va_get (D := (dC, dI)) (ci := 0) (v := .ref rp0) (C := RX0) (T := TX0) (N := 6) hx hb hts iw_k_bcopy_X0 hown hK hP 1 rfl rfl 0 (by decide) (hts (.fieldLink RX0 14 "ThriceCounted$Bank" "clerks" "LThriceCounted$Rows;") (by decide +kernel)) (fun _ h9 => h9) rfl dX0_copyFrom_5 ?_
  have hPc := hP.sub (ws' := [(r0, .inr (6, [wr00, .int 5, .ref ca0, wr03])), (rp0, .inr (6, [wrp00, wrp01, .ref cb0, .int 0])), (ca0, .inl (cx0, 5, .inl fa0)), (cb0, .inl (cy0, 5, .inl fb0))]) [3, 4, 5, 6] rfl
  have hDc := hD.sub (ws' := [(r0, .inr (6, [wr00, .int 5, .ref ca0, wr03])), (rp0, .inr (6, [wrp00, wrp01, .ref cb0, .int 0])), (ca0, .inl (cx0, 5, .inl fa0)), (cb0, .inl (cy0, 5, .inl fb0))]) [3, 4, 5, 6] (by decide) rfl
  have hKc := hK.sub (tys' := [(cx0, .int), (cy0, .int)]) [1, 2] rfl
  have hFc := va_free (wc := [(r0, .inr (6, [wr00, .int 5, .ref ca0, wr03])), (rp0, .inr (6, [wrp00, wrp01, .ref cb0, .int 0])), (ca0, .inl (cx0, 5, .inl fa0)), (cb0, .inl (cy0, 5, .inl fb0))]) hD hS hA [3, 4, 5, 6] rfl
  refine va_callv (va_runV (As := [.ref rp0]) (rest := []) ⟨hx, hb, hml, hown, hts⟩ (k_rcopy_5 l dC dI r0 wr00 ca0 wr03 rp0 wrp00 wrp01 cb0 cx0 fa0 cy0 fb0 s.heap.size) (cwV 1 hts gX0_copyFrom_X6_copyFrom rfl rfl rfl (by decide +kernel) ⟨Nat.le_of_ble_eq_true rfl, Nat.le_of_ble_eq_true rfl⟩) ⟨fun a U g mk q => by obtain ⟨q0, q1, qP, qK, qD⟩ := q; exact ⟨q0, q1, qP, va_K.moved (u := U) (U := U.calling g mk a) (Vm.Alike.refl U.vm) qK, qD⟩, va_recv hK hP (ci := 6) (q0 := 3) rfl rfl, fun U hU hW => ⟨rfl, by rw [hU], by rw [hU]; exact hPc, va_K.moved hW.alike hKc, hDc.weaken (fun _ _ _ _ => trivial)⟩⟩ rfl rfl hl.1 rfl (lv_room (Nat.le_of_ble_eq_true rfl)) dX0_copyFrom_8 ⟨Nat.le_of_ble_eq_true rfl, Nat.le_of_ble_eq_true rfl⟩) hS (fun q _ h => hFc q h) hFc (fun u_ t H1 locs ht hvm hw_2 hB hz1 hk1 hS => ?_)
  obtain ⟨hP, hD⟩ := va_join (wr := [(bo, .inr (0, [.ref r0, .ref r1, .ref r2, .ref r3, .ref ea, vb5])), (bp, .inr (0, [.ref rp0, .ref rp1, .ref rp2, .ref rp3, vp4, .int 0])), (ea, .inl (ce, 8, .inr (.inr (.inr (.inr fe))))), (r1, .inr (6, [wr10, .int 5, .ref ca1, wr13])), (rp1, .inr (6, [wrp10, wrp11, .ref cb1, .int 0])), (ca1, .inl (cx1, 20, .inl fa1)), (cb1, .inl (cy1, 20, .inl fb1)), (r2, .inr (6, [wr20, .int 8, .ref ca2, wr23])), (rp2, .inr (6, [wrp20, wrp21, .ref cb2, .int 0])), (ca2, .inl (cx2, 32, .inl fa2)), (cb2, .inl (cy2, 32, .inl fb2)), (r3, .inr (6, [wr30, .int 6, .ref ca3, wr33])), (rp3, .inr (6, [wrp30, wrp31, .ref cb3, .int 0])), (ca3, .inl (cx3, 24, .inl fa3)), (cb3, .inl (cy3, 24, .inl fb3))]) (w1 := []) hP hD [3, 4, 5, 6] [0, 1, 2, 7, 8, 9, 10, 11, 12, 13, 14, 15, 16, 17, 18] rfl rfl (by decide) (by decide) hk1 hFc tz_P0 tz_D0
  generalize H1 = H at hP hS ⊢
  have hP : va_P (dC, dI) vwCl [(bo, .inr (0, [.ref r0, .ref r1, .ref r2, .ref r3, .ref ea, vb5])), (bp, .inr (0, [.ref rp0, .ref rp1, .ref rp2, .ref rp3, vp4, .int 0])), (ea, .inl (ce, 8, .inr (.inr (.inr (.inr fe))))), (r1, .inr (6, [wr10, .int 5, .ref ca1, wr13])), (rp1, .inr (6, [wrp10, wrp11, .ref cb1, .int 0])), (ca1, .inl (cx1, 20, .inl fa1)), (cb1, .inl (cy1, 20, .inl fb1)), (r2, .inr (6, [wr20, .int 8, .ref ca2, wr23])), (rp2, .inr (6, [wrp20, wrp21, .ref cb2, .int 0])), (ca2, .inl (cx2, 32, .inl fa2)), (cb2, .inl (cy2, 32, .inl fb2)), (r3, .inr (6, [wr30, .int 6, .ref ca3, wr33])), (rp3, .inr (6, [wrp30, wrp31, .ref cb3, .int 0])), (ca3, .inl (cx3, 24, .inl fa3)), (cb3, .inl (cy3, 24, .inl fb3))] H := hP
  have hD : va_D A [(bo, .inr (0, [.ref r0, .ref r1, .ref r2, .ref r3, .ref ea, vb5])), (bp, .inr (0, [.ref rp0, .ref rp1, .ref rp2, .ref rp3, vp4, .int 0])), (ea, .inl (ce, 8, .inr (.inr (.inr (.inr fe))))), (r1, .inr (6, [wr10, .int 5, .ref ca1, wr13])), (rp1, .inr (6, [wrp10, wrp11, .ref cb1, .int 0])), (ca1, .inl (cx1, 20, .inl fa1)), (cb1, .inl (cy1, 20, .inl fb1)), (r2, .inr (6, [wr20, .int 8, .ref ca2, wr23])), (rp2, .inr (6, [wrp20, wrp21, .ref cb2, .int 0])), (ca2, .inl (cx2, 32, .inl fa2)), (cb2, .inl (cy2, 32, .inl fb2)), (r3, .inr (6, [wr30, .int 6, .ref ca3, wr33])), (rp3, .inr (6, [wrp30, wrp31, .ref cb3, .int 0])), (ca3, .inl (cx3, 24, .inl fa3)), (cb3, .inl (cy3, 24, .inl fb3))] := hD
  refine lv_aload_n hx hb dX0_copyFrom_11 rfl (lv_at hl 0 rfl) ?_
  refine va_get (D := (dC, dI)) (ci := 0) (v := .ref r1) (C := RX0) (T := TX0) (N := 6) hx hb hts iw_k_bcopy_X0 hown hK hP 0 rfl rfl 1 (by decide) (hts (.fieldLink RX0 20 "ThriceCounted$Bank" "bundles" "LThriceCounted$Rows;") (by decide +kernel)) (fun _ h9 => h9) rfl dX0_copyFrom_12 ?_
  refine lv_aload_n hx hb dX0_copyFrom_15 rfl (lv_at hl 1 rfl) ?_
  refine va_get (D := (dC, dI)) (ci := 0) (v := .ref rp1) (C := RX0) (T := TX0) (N := 6) hx hb hts iw_k_bcopy_X0 hown hK hP 1 rfl rfl 1 (by decide) (hts (.fieldLink RX0 20 "ThriceCounted$Bank" "bundles" "LThriceCounted$Rows;") (by decide +kernel)) (fun _ h9 => h9) rfl dX0_copyFrom_16 ?_
  have hPc := hP.sub (ws' := [(r1, .inr (6, [wr10, .int 5, .ref ca1, wr13])), (rp1, .inr (6, [wrp10, wrp11, .ref cb1, .int 0])), (ca1, .inl (cx1, 20, .inl fa1)), (cb1, .inl (cy1, 20, .inl fb1))]) [3, 4, 5, 6] rfl
  have hDc := hD.sub (ws' := [(r1, .inr (6, [wr10, .int 5, .ref ca1, wr13])), (rp1, .inr (6, [wrp10, wrp11, .ref cb1, .int 0])), (ca1, .inl (cx1, 20, .inl fa1)), (cb1, .inl (cy1, 20, .inl fb1))]) [3, 4, 5, 6] (by decide) rfl
  have hKc := hK.sub (tys' := [(cx1, .int), (cy1, .int)]) [3, 4] rfl
  have hFc := va_free (wc := [(r1, .inr (6, [wr10, .int 5, .ref ca1, wr13])), (rp1, .inr (6, [wrp10, wrp11, .ref cb1, .int 0])), (ca1, .inl (cx1, 20, .inl fa1)), (cb1, .inl (cy1, 20, .inl fb1))]) hD hS hA [3, 4, 5, 6] rfl
  refine va_callv (va_runV (As := [.ref rp1]) (rest := []) ⟨hx, hb, hml, hown, hts⟩ (k_rcopy_20 l dC dI r1 wr10 ca1 wr13 rp1 wrp10 wrp11 cb1 cx1 fa1 cy1 fb1 H.size) (cwV 1 hts gX0_copyFrom_X6_copyFrom rfl rfl rfl (by decide +kernel) ⟨Nat.le_of_ble_eq_true rfl, Nat.le_of_ble_eq_true rfl⟩) ⟨fun a U g mk q => by obtain ⟨q0, q1, qP, qK, qD⟩ := q; exact ⟨q0, q1, qP, va_K.moved (u := U) (U := U.calling g mk a) (Vm.Alike.refl U.vm) qK, qD⟩, va_recv hK hP (ci := 6) (q0 := 3) rfl rfl, fun U hU hW => ⟨rfl, by rw [hU], by rw [hU]; exact hPc, va_K.moved hW.alike hKc, hDc.weaken (fun _ _ _ _ => trivial)⟩⟩ rfl rfl hl.1 rfl (lv_room (Nat.le_of_ble_eq_true rfl)) dX0_copyFrom_19 ⟨Nat.le_of_ble_eq_true rfl, Nat.le_of_ble_eq_true rfl⟩) hS (fun q _ h => hFc q h) hFc (fun u_ t H1 locs ht hvm hw_4 hB hz1 hk1 hS => ?_)
  obtain ⟨hP, hD⟩ := va_join (wr := [(bo, .inr (0, [.ref r0, .ref r1, .ref r2, .ref r3, .ref ea, vb5])), (bp, .inr (0, [.ref rp0, .ref rp1, .ref rp2, .ref rp3, vp4, .int 0])), (ea, .inl (ce, 8, .inr (.inr (.inr (.inr fe))))), (r2, .inr (6, [wr20, .int 8, .ref ca2, wr23])), (rp2, .inr (6, [wrp20, wrp21, .ref cb2, .int 0])), (ca2, .inl (cx2, 32, .inl fa2)), (cb2, .inl (cy2, 32, .inl fb2)), (r3, .inr (6, [wr30, .int 6, .ref ca3, wr33])), (rp3, .inr (6, [wrp30, wrp31, .ref cb3, .int 0])), (ca3, .inl (cx3, 24, .inl fa3)), (cb3, .inl (cy3, 24, .inl fb3))]) (w1 := []) hP hD [3, 4, 5, 6] [0, 1, 2, 7, 8, 9, 10, 11, 12, 13, 14] rfl rfl (by decide) (by decide) hk1 hFc tz_P0 tz_D0
  generalize H1 = H at hP hS ⊢
  have hP : va_P (dC, dI) vwCl [(bo, .inr (0, [.ref r0, .ref r1, .ref r2, .ref r3, .ref ea, vb5])), (bp, .inr (0, [.ref rp0, .ref rp1, .ref rp2, .ref rp3, vp4, .int 0])), (ea, .inl (ce, 8, .inr (.inr (.inr (.inr fe))))), (r2, .inr (6, [wr20, .int 8, .ref ca2, wr23])), (rp2, .inr (6, [wrp20, wrp21, .ref cb2, .int 0])), (ca2, .inl (cx2, 32, .inl fa2)), (cb2, .inl (cy2, 32, .inl fb2)), (r3, .inr (6, [wr30, .int 6, .ref ca3, wr33])), (rp3, .inr (6, [wrp30, wrp31, .ref cb3, .int 0])), (ca3, .inl (cx3, 24, .inl fa3)), (cb3, .inl (cy3, 24, .inl fb3))] H := hP
  have hD : va_D A [(bo, .inr (0, [.ref r0, .ref r1, .ref r2, .ref r3, .ref ea, vb5])), (bp, .inr (0, [.ref rp0, .ref rp1, .ref rp2, .ref rp3, vp4, .int 0])), (ea, .inl (ce, 8, .inr (.inr (.inr (.inr fe))))), (r2, .inr (6, [wr20, .int 8, .ref ca2, wr23])), (rp2, .inr (6, [wrp20, wrp21, .ref cb2, .int 0])), (ca2, .inl (cx2, 32, .inl fa2)), (cb2, .inl (cy2, 32, .inl fb2)), (r3, .inr (6, [wr30, .int 6, .ref ca3, wr33])), (rp3, .inr (6, [wrp30, wrp31, .ref cb3, .int 0])), (ca3, .inl (cx3, 24, .inl fa3)), (cb3, .inl (cy3, 24, .inl fb3))] := hD
  refine lv_aload_n hx hb dX0_copyFrom_22 rfl (lv_at hl 0 rfl) ?_
  refine va_get (D := (dC, dI)) (ci := 0) (v := .ref r2) (C := RX0) (T := TX0) (N := 6) hx hb hts iw_k_bcopy_X0 hown hK hP 0 rfl rfl 2 (by decide) (hts (.fieldLink RX0 23 "ThriceCounted$Bank" "counts" "LThriceCounted$Rows;") (by decide +kernel)) (fun _ h9 => h9) rfl dX0_copyFrom_23 ?_
  refine lv_aload_n hx hb dX0_copyFrom_26 rfl (lv_at hl 1 rfl) ?_
  refine va_get (D := (dC, dI)) (ci := 0) (v := .ref rp2) (C := RX0) (T := TX0) (N := 6) hx hb hts iw_k_bcopy_X0 hown hK hP 1 rfl rfl 2 (by decide) (hts (.fieldLink RX0 23 "ThriceCounted$Bank" "counts" "LThriceCounted$Rows;") (by decide +kernel)) (fun _ h9 => h9) rfl dX0_copyFrom_27 ?_
  have hPc := hP.sub (ws' := [(r2, .inr (6, [wr20, .int 8, .ref ca2, wr23])), (rp2, .inr (6, [wrp20, wrp21, .ref cb2, .int 0])), (ca2, .inl (cx2, 32, .inl fa2)), (cb2, .inl (cy2, 32, .inl fb2))]) [3, 4, 5, 6] rfl
  have hDc := hD.sub (ws' := [(r2, .inr (6, [wr20, .int 8, .ref ca2, wr23])), (rp2, .inr (6, [wrp20, wrp21, .ref cb2, .int 0])), (ca2, .inl (cx2, 32, .inl fa2)), (cb2, .inl (cy2, 32, .inl fb2))]) [3, 4, 5, 6] (by decide) rfl
  have hKc := hK.sub (tys' := [(cx2, .int), (cy2, .int)]) [5, 6] rfl
  have hFc := va_free (wc := [(r2, .inr (6, [wr20, .int 8, .ref ca2, wr23])), (rp2, .inr (6, [wrp20, wrp21, .ref cb2, .int 0])), (ca2, .inl (cx2, 32, .inl fa2)), (cb2, .inl (cy2, 32, .inl fb2))]) hD hS hA [3, 4, 5, 6] rfl
  refine va_callv (va_runV (As := [.ref rp2]) (rest := []) ⟨hx, hb, hml, hown, hts⟩ (k_rcopy_32 l dC dI r2 wr20 ca2 wr23 rp2 wrp20 wrp21 cb2 cx2 fa2 cy2 fb2 H.size) (cwV 1 hts gX0_copyFrom_X6_copyFrom rfl rfl rfl (by decide +kernel) ⟨Nat.le_of_ble_eq_true rfl, Nat.le_of_ble_eq_true rfl⟩) ⟨fun a U g mk q => by obtain ⟨q0, q1, qP, qK, qD⟩ := q; exact ⟨q0, q1, qP, va_K.moved (u := U) (U := U.calling g mk a) (Vm.Alike.refl U.vm) qK, qD⟩, va_recv hK hP (ci := 6) (q0 := 3) rfl rfl, fun U hU hW => ⟨rfl, by rw [hU], by rw [hU]; exact hPc, va_K.moved hW.alike hKc, hDc.weaken (fun _ _ _ _ => trivial)⟩⟩ rfl rfl hl.1 rfl (lv_room (Nat.le_of_ble_eq_true rfl)) dX0_copyFrom_30 ⟨Nat.le_of_ble_eq_true rfl, Nat.le_of_ble_eq_true rfl⟩) hS (fun q _ h => hFc q h) hFc (fun u_ t H1 locs ht hvm hw_6 hB hz1 hk1 hS => ?_)
  obtain ⟨hP, hD⟩ := va_join (wr := [(bo, .inr (0, [.ref r0, .ref r1, .ref r2, .ref r3, .ref ea, vb5])), (bp, .inr (0, [.ref rp0, .ref rp1, .ref rp2, .ref rp3, vp4, .int 0])), (ea, .inl (ce, 8, .inr (.inr (.inr (.inr fe))))), (r3, .inr (6, [wr30, .int 6, .ref ca3, wr33])), (rp3, .inr (6, [wrp30, wrp31, .ref cb3, .int 0])), (ca3, .inl (cx3, 24, .inl fa3)), (cb3, .inl (cy3, 24, .inl fb3))]) (w1 := []) hP hD [3, 4, 5, 6] [0, 1, 2, 7, 8, 9, 10] rfl rfl (by decide) (by decide) hk1 hFc tz_P0 tz_D0
  generalize H1 = H at hP hS ⊢
  have hP : va_P (dC, dI) vwCl [(bo, .inr (0, [.ref r0, .ref r1, .ref r2, .ref r3, .ref ea, vb5])), (bp, .inr (0, [.ref rp0, .ref rp1, .ref rp2, .ref rp3, vp4, .int 0])), (ea, .inl (ce, 8, .inr (.inr (.inr (.inr fe))))), (r3, .inr (6, [wr30, .int 6, .ref ca3, wr33])), (rp3, .inr (6, [wrp30, wrp31, .ref cb3, .int 0])), (ca3, .inl (cx3, 24, .inl fa3)), (cb3, .inl (cy3, 24, .inl fb3))] H := hP
  have hD : va_D A [(bo, .inr (0, [.ref r0, .ref r1, .ref r2, .ref r3, .ref ea, vb5])), (bp, .inr (0, [.ref rp0, .ref rp1, .ref rp2, .ref rp3, vp4, .int 0])), (ea, .inl (ce, 8, .inr (.inr (.inr (.inr fe))))), (r3, .inr (6, [wr30, .int 6, .ref ca3, wr33])), (rp3, .inr (6, [wrp30, wrp31, .ref cb3, .int 0])), (ca3, .inl (cx3, 24, .inl fa3)), (cb3, .inl (cy3, 24, .inl fb3))] := hD
  refine lv_aload_n hx hb dX0_copyFrom_33 rfl (lv_at hl 0 rfl) ?_
  refine va_get (D := (dC, dI)) (ci := 0) (v := .ref r3) (C := RX0) (T := TX0) (N := 6) hx hb hts iw_k_bcopy_X0 hown hK hP 0 rfl rfl 3 (by decide) (hts (.fieldLink RX0 26 "ThriceCounted$Bank" "causes" "LThriceCounted$Rows;") (by decide +kernel)) (fun _ h9 => h9) rfl dX0_copyFrom_34 ?_
  refine lv_aload_n hx hb dX0_copyFrom_37 rfl (lv_at hl 1 rfl) ?_
  refine va_get (D := (dC, dI)) (ci := 0) (v := .ref rp3) (C := RX0) (T := TX0) (N := 6) hx hb hts iw_k_bcopy_X0 hown hK hP 1 rfl rfl 3 (by decide) (hts (.fieldLink RX0 26 "ThriceCounted$Bank" "causes" "LThriceCounted$Rows;") (by decide +kernel)) (fun _ h9 => h9) rfl dX0_copyFrom_38 ?_
  have hPc := hP.sub (ws' := [(r3, .inr (6, [wr30, .int 6, .ref ca3, wr33])), (rp3, .inr (6, [wrp30, wrp31, .ref cb3, .int 0])), (ca3, .inl (cx3, 24, .inl fa3)), (cb3, .inl (cy3, 24, .inl fb3))]) [3, 4, 5, 6] rfl
  have hDc := hD.sub (ws' := [(r3, .inr (6, [wr30, .int 6, .ref ca3, wr33])), (rp3, .inr (6, [wrp30, wrp31, .ref cb3, .int 0])), (ca3, .inl (cx3, 24, .inl fa3)), (cb3, .inl (cy3, 24, .inl fb3))]) [3, 4, 5, 6] (by decide) rfl
  have hKc := hK.sub (tys' := [(cx3, .int), (cy3, .int)]) [7, 8] rfl
  have hFc := va_free (wc := [(r3, .inr (6, [wr30, .int 6, .ref ca3, wr33])), (rp3, .inr (6, [wrp30, wrp31, .ref cb3, .int 0])), (ca3, .inl (cx3, 24, .inl fa3)), (cb3, .inl (cy3, 24, .inl fb3))]) hD hS hA [3, 4, 5, 6] rfl
  refine va_callv (va_runV (As := [.ref rp3]) (rest := []) ⟨hx, hb, hml, hown, hts⟩ (k_rcopy_24 l dC dI r3 wr30 ca3 wr33 rp3 wrp30 wrp31 cb3 cx3 fa3 cy3 fb3 H.size) (cwV 1 hts gX0_copyFrom_X6_copyFrom rfl rfl rfl (by decide +kernel) ⟨Nat.le_of_ble_eq_true rfl, Nat.le_of_ble_eq_true rfl⟩) ⟨fun a U g mk q => by obtain ⟨q0, q1, qP, qK, qD⟩ := q; exact ⟨q0, q1, qP, va_K.moved (u := U) (U := U.calling g mk a) (Vm.Alike.refl U.vm) qK, qD⟩, va_recv hK hP (ci := 6) (q0 := 3) rfl rfl, fun U hU hW => ⟨rfl, by rw [hU], by rw [hU]; exact hPc, va_K.moved hW.alike hKc, hDc.weaken (fun _ _ _ _ => trivial)⟩⟩ rfl rfl hl.1 rfl (lv_room (Nat.le_of_ble_eq_true rfl)) dX0_copyFrom_41 ⟨Nat.le_of_ble_eq_true rfl, Nat.le_of_ble_eq_true rfl⟩) hS (fun q _ h => hFc q h) hFc (fun u_ t H1 locs ht hvm hw_8 hB hz1 hk1 hS => ?_)
  obtain ⟨hP, hD⟩ := va_join (wr := [(bo, .inr (0, [.ref r0, .ref r1, .ref r2, .ref r3, .ref ea, vb5])), (bp, .inr (0, [.ref rp0, .ref rp1, .ref rp2, .ref rp3, vp4, .int 0])), (ea, .inl (ce, 8, .inr (.inr (.inr (.inr fe)))))]) (w1 := []) hP hD [3, 4, 5, 6] [0, 1, 2] rfl rfl (by decide) (by decide) hk1 hFc tz_P0 tz_D0
  generalize H1 = H at hP hS ⊢
  have hP : va_P (dC, dI) vwCl [(bo, .inr (0, [.ref r0, .ref r1, .ref r2, .ref r3, .ref ea, vb5])), (bp, .inr (0, [.ref rp0, .ref rp1, .ref rp2, .ref rp3, vp4, .int 0])), (ea, .inl (ce, 8, .inr (.inr (.inr (.inr fe)))))] H := hP
  have hD : va_D A [(bo, .inr (0, [.ref r0, .ref r1, .ref r2, .ref r3, .ref ea, vb5])), (bp, .inr (0, [.ref rp0, .ref rp1, .ref rp2, .ref rp3, vp4, .int 0])), (ea, .inl (ce, 8, .inr (.inr (.inr (.inr fe)))))] := hD
  refine lv_aload_n hx hb dX0_copyFrom_44 rfl (lv_at hl 0 rfl) ?_
  refine lv_aload_n hx hb dX0_copyFrom_45 rfl (lv_at hl 1 rfl) ?_
  refine va_get (D := (dC, dI)) (ci := 0) (v := .int 0) (C := RX0) (T := TX0) (N := 6) hx hb hts iw_k_bcopy_X0 hown hK hP 1 rfl rfl 5 (by decide) (hts (.fieldLink RX0 33 "ThriceCounted$Bank" "undos" "I") (by decide +kernel)) (fun _ h9 => h9) rfl dX0_copyFrom_46 ?_
  refine lv_aload_n hx hb dX0_copyFrom_49 rfl (lv_at hl 0 rfl) ?_
  refine va_get (D := (dC, dI)) (ci := 0) (v := .ref ea) (C := RX0) (T := TX0) (N := 6) hx hb hts iw_k_bcopy_X0 hown hK hP 0 rfl rfl 4 (by decide) (hts (.fieldLink RX0 29 "ThriceCounted$Bank" "earlier" "[LThriceCounted$Rows;") (by decide +kernel)) (fun _ h9 => h9) rfl dX0_copyFrom_50 ?_
  refine va_alen (v := 8) hx hb hK hP 2 0 rfl rfl rfl dX0_copyFrom_53 ?_
  refine va_mmin hx hb (hml.trans hl.1.symm) hown (hts (.methodLink RX0 44 Lib.Math.min.name) (by decide +kernel)) (hts (.static Lib.Math.min.name) (by decide +kernel)) (hts (.initialized "java/lang/Math") (by decide +kernel)) (hts (.code Lib.Math.min.name Lib.Math.min.code 2 (some .int)) (by decide +kernel)) (Nat.le_of_ble_eq_true rfl) (Nat.le_of_ble_eq_true rfl) (Nat.le_of_ble_eq_true rfl) (Nat.le_of_ble_eq_true rfl) dX0_copyFrom_54 ?_
  refine tz_i 0 (by decide) ?_
  refine va_put (D := (dC, dI)) (ci := 0) (v := .int 0) (ty := .int) (C := RX0) (T := TX0) (N := 6) hx hb hts iw_k_bcopy_X0 tyX0 tyX0_ok nmX0 hown hK hP hD hS 0 rfl rfl 5 (by decide) (hts (.fieldLink RX0 33 "ThriceCounted$Bank" "undos" "I") (by decide +kernel)) (fun _ h9 => h9) rfl (by decide +kernel) rfl rfl (Nat.le_of_ble_eq_true rfl) dX0_copyFrom_57 (fun H locs hP hD hS => ?_)
  have hP : va_P (dC, dI) vwCl [(bo, .inr (0, [.ref r0, .ref r1, .ref r2, .ref r3, .ref ea, .int 0])), (bp, .inr (0, [.ref rp0, .ref rp1, .ref rp2, .ref rp3, vp4, .int 0])), (ea, .inl (ce, 8, .inr (.inr (.inr (.inr fe)))))] H := hP
  have hD : va_D A [(bo, .inr (0, [.ref r0, .ref r1, .ref r2, .ref r3, .ref ea, .int 0])), (bp, .inr (0, [.ref rp0, .ref rp1, .ref rp2, .ref rp3, vp4, .int 0])), (ea, .inl (ce, 8, .inr (.inr (.inr (.inr fe)))))] := hD
  refine lv_iconst (v := 0) hx hb dX0_copyFrom_60 (by decide) ?_
  refine lv_istore_n (lv' := [(2, .int 0), (0, .ref bo), (1, .ref bp)]) hx hb dX0_copyFrom_61 rfl hl (by decide) rfl (fun ls hl => ?_)
  refine lv_iload_n hx hb dX0_copyFrom_62 rfl (lv_at hl 0 rfl) ?_
  refine lv_aload_n hx hb dX0_copyFrom_63 rfl (lv_at hl 1 rfl) ?_
  refine va_get (D := (dC, dI)) (ci := 0) (v := .int 0) (C := RX0) (T := TX0) (N := 6) hx hb hts iw_k_bcopy_X0 hown hK hP 0 rfl rfl 5 (by decide) (hts (.fieldLink RX0 33 "ThriceCounted$Bank" "undos" "I") (by decide +kernel)) (fun _ h9 => h9) rfl dX0_copyFrom_64 ?_
  refine lv_icmp_ge (tgt := 100) hx hb dX0_copyFrom_67 (by decide) (fun c_9 => ?_) (fun c_9 => ?_)
  · exact W.vret hx hb hr (fun t ht hW => ⟨⟨(), rfl, trivial, trivial⟩, hS.F ht⟩) hS.2.2 dX0_copyFrom_100
  · exact absurd c_9 (by decide)
theorem dX6_mixInto_0 : decode cX6_mixInto 0 = .ok (.lload_n 1, 1) := by decide +kernel
theorem dX6_mixInto_1 : decode cX6_mixInto 1 = .ok (.lstore_n 3, 1) := by decide +kernel
theorem dX6_mixInto_2 : decode cX6_mixInto 2 = .ok (.iconst 0, 1) := by decide +kernel
theorem dX6_mixInto_3 : decode cX6_mixInto 3 = .ok (.istore 5, 2) := by decide +kernel
theorem dX6_mixInto_5 : decode cX6_mixInto 5 = .ok (.iload 5, 2) := by decide +kernel
theorem dX6_mixInto_7 : decode cX6_mixInto 7 = .ok (.aload_n 0, 1) := by decide +kernel
theorem dX6_mixInto_8 : decode cX6_mixInto 8 = .ok (.getfield 9, 3) := by decide +kernel
theorem dX6_mixInto_11 : decode cX6_mixInto 11 = .ok (.aload_n 0, 1) := by decide +kernel
theorem dX6_mixInto_12 : decode cX6_mixInto 12 = .ok (.getfield 24, 3) := by decide +kernel
theorem dX6_mixInto_15 : decode cX6_mixInto 15 = .ok (.imul, 1) := by decide +kernel
theorem dX6_mixInto_16 : decode cX6_mixInto 16 = .ok (.if_icmp .ge 34, 3) := by decide +kernel
theorem dX6_mixInto_50 : decode cX6_mixInto 50 = .ok (.lload_n 3, 1) := by decide +kernel
theorem dX6_mixInto_51 : decode cX6_mixInto 51 = .ok (.lreturn, 1) := by decide +kernel
set_option maxRecDepth 20000 in
theorem iw_k_mix_1_X6 : ∀ w ∈ wsX60, w ∈ wsX6_mixInto := by decide +kernel
set_option maxHeartbeats 4000000 in
set_option maxRecDepth 100000 in
theorem k_mix_1 (l : Launch) (dC : Nat → ClassId) (dI : Nat → Nat → Nat) (ro : Nat) (w1 : Value) (w2 : Value) (hh : Int64) : Met l yX6_mixInto wsX6_mixInto ({ frames := 0, cells := 0, slots := 0, locals := 0 }) (va_Pc [.ref ro, .long hh] (fun U => va_P (dC, dI) vwCl [(ro, .inr (6, [.int 1, w1, w2, .int 0]))] U.heap ∧ va_K (dC, dI) vwCl [] U)) (vp_Sl (fun r => r = hh)) 0 0 (fun _ => False) := by
  refine Met.ofW (cc := cX6_mixInto) (maxL := 6) (ret := (some .long)) (by decide) rfl ?_
  intro p e s m args below meth c s₁ B hml hv
  obtain ⟨rfl, hP, hK⟩ := hv
  have hx := B.exec
  have hb := B.bytes
  have hr := B.returns
  have hts := atoms_spec (ws := wsX6_mixInto) B.pre
  have hown : s.vm.findClass RX6 = some m.cls := findClass_of_methodNamed B.named
  have hlocks := B.notSynchronized
  have hl := lv_entry ([.ref ro, .long hh]) (n := 6) (Nat.le_of_ble_eq_true rfl)
  rw [lg_entry_eq]
  generalize (lg_sl ([.ref ro, .long hh]) ++ List.replicate (6 - (lg_sl ([.ref ro, .long hh])).length) Slot.unset).toArray = ls at hl ⊢
  have hl : lv_has ls 6 [(0, .ref ro), (1, .long hh)] := hl
  refine lv_lload_n hx hb dX6_mixInto_0 rfl (lv_at hl 1 rfl) ?_
  refine lv_lstore_n (lv' := [(3, .long hh), (0, .ref ro), (1, .long hh)]) hx hb dX6_mixInto_1 rfl hl (by decide) rfl (fun ls hl => ?_)
  refine lv_iconst (v := 0) hx hb dX6_mixInto_2 (by decide) ?_
  refine lv_istore (lv' := [(5, .int 0), (3, .long hh), (0, .ref ro), (1, .long hh)]) hx hb dX6_mixInto_3 hl (by decide) rfl (fun ls hl => ?_)
  refine lv_iload hx hb dX6_mixInto_5 (lv_at hl 0 rfl) ?_
  refine lv_aload_n hx hb dX6_mixInto_7 rfl (lv_at hl 2 rfl) ?_
  refine va_get (D := (dC, dI)) (ci := 6) (v := .int 0) (C := RX6) (T := TX6) (N := 4) hx hb hts iw_k_mix_1_X6 hown hK hP 0 rfl rfl 3 (by decide) (hts (.fieldLink RX6 9 "ThriceCounted$Rows" "size" "I") (by decide +kernel)) (fun _ h9 => h9) rfl dX6_mixInto_8 ?_
  refine lv_aload_n hx hb dX6_mixInto_11 rfl (lv_at hl 2 rfl) ?_
  refine va_get (D := (dC, dI)) (ci := 6) (v := .int 1) (C := RX6) (T := TX6) (N := 4) hx hb hts iw_k_mix_1_X6 hown hK hP 0 rfl rfl 0 (by decide) (hts (.fieldLink RX6 24 "ThriceCounted$Rows" "width" "I") (by decide +kernel)) (fun _ h9 => h9) rfl dX6_mixInto_12 ?_
  refine lv_imul hx hb dX6_mixInto_15 ?_
  refine tz_i 0 (by decide) ?_
  refine lv_icmp_ge (tgt := 50) hx hb dX6_mixInto_16 (by decide) (fun c_1 => ?_) (fun c_1 => ?_)
  · refine lv_lload_n hx hb dX6_mixInto_50 rfl (lv_at hl 1 rfl) ?_
    exact W.lret (v := hh) hx hb hr (fun t ht hW => ⟨hh, rfl, rfl, ht⟩) (fun _ h => absurd h List.not_mem_nil) dX6_mixInto_51
  · exact absurd c_1 (by decide)
set_option maxRecDepth 20000 in
theorem iw_k_mix_4_X6 : ∀ w ∈ wsX60, w ∈ wsX6_mixInto := by decide +kernel
set_option maxHeartbeats 4000000 in
set_option maxRecDepth 100000 in
theorem k_mix_4 (l : Launch) (dC : Nat → ClassId) (dI : Nat → Nat → Nat) (ro : Nat) (w1 : Value) (w2 : Value) (hh : Int64) : Met l yX6_mixInto wsX6_mixInto ({ frames := 0, cells := 0, slots := 0, locals := 0 }) (va_Pc [.ref ro, .long hh] (fun U => va_P (dC, dI) vwCl [(ro, .inr (6, [.int 4, w1, w2, .int 0]))] U.heap ∧ va_K (dC, dI) vwCl [] U)) (vp_Sl (fun r => r = hh)) 0 0 (fun _ => False) := by
  refine Met.ofW (cc := cX6_mixInto) (maxL := 6) (ret := (some .long)) (by decide) rfl ?_
  intro p e s m args below meth c s₁ B hml hv
  obtain ⟨rfl, hP, hK⟩ := hv
  have hx := B.exec
  have hb := B.bytes
  have hr := B.returns
  have hts := atoms_spec (ws := wsX6_mixInto) B.pre
  have hown : s.vm.findClass RX6 = some m.cls := findClass_of_methodNamed B.named
  have hlocks := B.notSynchronized
  have hl := lv_entry ([.ref ro, .long hh]) (n := 6) (Nat.le_of_ble_eq_true rfl)
  rw [lg_entry_eq]
  generalize (lg_sl ([.ref ro, .long hh]) ++ List.replicate (6 - (lg_sl ([.ref ro, .long hh])).length) Slot.unset).toArray = ls at hl ⊢
  have hl : lv_has ls 6 [(0, .ref ro), (1, .long hh)] := hl
  refine lv_lload_n hx hb dX6_mixInto_0 rfl (lv_at hl 1 rfl) ?_
  refine lv_lstore_n (lv' := [(3, .long hh), (0, .ref ro), (1, .long hh)]) hx hb dX6_mixInto_1 rfl hl (by decide) rfl (fun ls hl => ?_)
  refine lv_iconst (v := 0) hx hb dX6_mixInto_2 (by decide) ?_
  refine lv_istore (lv' := [(5, .int 0), (3, .long hh), (0, .ref ro), (1, .long hh)]) hx hb dX6_mixInto_3 hl (by decide) rfl (fun ls hl => ?_)
  refine lv_iload hx hb dX6_mixInto_5 (lv_at hl 0 rfl) ?_
  refine lv_aload_n hx hb dX6_mixInto_7 rfl (lv_at hl 2 rfl) ?_
  refine va_get (D := (dC, dI)) (ci := 6) (v := .int 0) (C := RX6) (T := TX6) (N := 4) hx hb hts iw_k_mix_4_X6 hown hK hP 0 rfl rfl 3 (by decide) (hts (.fieldLink RX6 9 "ThriceCounted$Rows" "size" "I") (by decide +kernel)) (fun _ h9 => h9) rfl dX6_mixInto_8 ?_
  refine lv_aload_n hx hb dX6_mixInto_11 rfl (lv_at hl 2 rfl) ?_
  refine va_get (D := (dC, dI)) (ci := 6) (v := .int 4) (C := RX6) (T := TX6) (N := 4) hx hb hts iw_k_mix_4_X6 hown hK hP 0 rfl rfl 0 (by decide) (hts (.fieldLink RX6 24 "ThriceCounted$Rows" "width" "I") (by decide +kernel)) (fun _ h9 => h9) rfl dX6_mixInto_12 ?_
  refine lv_imul hx hb dX6_mixInto_15 ?_
  refine tz_i 0 (by decide) ?_
  refine lv_icmp_ge (tgt := 50) hx hb dX6_mixInto_16 (by decide) (fun c_1 => ?_) (fun c_1 => ?_)
  · refine lv_lload_n hx hb dX6_mixInto_50 rfl (lv_at hl 1 rfl) ?_
    exact W.lret (v := hh) hx hb hr (fun t ht hW => ⟨hh, rfl, rfl, ht⟩) (fun _ h => absurd h List.not_mem_nil) dX6_mixInto_51
  · exact absurd c_1 (by decide)
theorem dX2_above_0 : decode cX2_above 0 = .ok (.aload_n 0, 1) := by decide +kernel
theorem dX2_above_1 : decode cX2_above 1 = .ok (.getfield 7, 3) := by decide +kernel
theorem dX2_above_4 : decode cX2_above 4 = .ok (.lreturn, 1) := by decide +kernel
set_option maxRecDepth 20000 in
theorem iw_k_above_X2 : ∀ w ∈ wsX20, w ∈ wsX2_above := by decide +kernel
set_option maxHeartbeats 4000000 in
set_option maxRecDepth 100000 in
theorem k_above (l : Launch) (dC : Nat → ClassId) (dI : Nat → Nat → Nat) (fo : Nat) (la : Int64) (vf1 : Value) : Met l yX2_above wsX2_above ({ frames := 0, cells := 0, slots := 0, locals := 0 }) (va_Pc [.ref fo] (fun U => va_P (dC, dI) vwCl [(fo, .inr (2, [.long la, vf1]))] U.heap ∧ va_K (dC, dI) vwCl [] U)) (vp_Sl (fun r => r = la)) 0 0 (fun _ => False) := by
  refine Met.ofW (cc := cX2_above) (maxL := 1) (ret := (some .long)) (by decide) rfl ?_
  intro p e s m args below meth c s₁ B hml hv
  obtain ⟨rfl, hP, hK⟩ := hv
  have hx := B.exec
  have hb := B.bytes
  have hr := B.returns
  have hts := atoms_spec (ws := wsX2_above) B.pre
  have hown : s.vm.findClass RX2 = some m.cls := findClass_of_methodNamed B.named
  have hlocks := B.notSynchronized
  have hl := lv_entry ([.ref fo]) (n := 1) (Nat.le_of_ble_eq_true rfl)
  rw [lg_entry_eq]
  generalize (lg_sl ([.ref fo]) ++ List.replicate (1 - (lg_sl ([.ref fo])).length) Slot.unset).toArray = ls at hl ⊢
  have hl : lv_has ls 1 [(0, .ref fo)] := hl
  refine lv_aload_n hx hb dX2_above_0 rfl (lv_at hl 0 rfl) ?_
  refine va_get (D := (dC, dI)) (ci := 2) (v := .long la) (C := RX2) (T := TX2) (N := 2) hx hb hts iw_k_above_X2 hown hK hP 0 rfl rfl 0 (by decide) (hts (.fieldLink RX2 7 "ThriceCounted$Fraction" "above" "J") (by decide +kernel)) (fun _ h9 => h9) rfl dX2_above_1 ?_
  exact W.lret (v := la) hx hb hr (fun t ht hW => ⟨la, rfl, rfl, ht⟩) (fun _ h => absurd h List.not_mem_nil) dX2_above_4
theorem dX2_below_0 : decode cX2_below 0 = .ok (.aload_n 0, 1) := by decide +kernel
theorem dX2_below_1 : decode cX2_below 1 = .ok (.getfield 13, 3) := by decide +kernel
theorem dX2_below_4 : decode cX2_below 4 = .ok (.lreturn, 1) := by decide +kernel
set_option maxRecDepth 20000 in
theorem iw_k_below_X2 : ∀ w ∈ wsX20, w ∈ wsX2_below := by decide +kernel
set_option maxHeartbeats 4000000 in
set_option maxRecDepth 100000 in
theorem k_below (l : Launch) (dC : Nat → ClassId) (dI : Nat → Nat → Nat) (fo : Nat) (vf0 : Value) (lb : Int64) : Met l yX2_below wsX2_below ({ frames := 0, cells := 0, slots := 0, locals := 0 }) (va_Pc [.ref fo] (fun U => va_P (dC, dI) vwCl [(fo, .inr (2, [vf0, .long lb]))] U.heap ∧ va_K (dC, dI) vwCl [] U)) (vp_Sl (fun r => r = lb)) 0 0 (fun _ => False) := by
  refine Met.ofW (cc := cX2_below) (maxL := 1) (ret := (some .long)) (by decide) rfl ?_
  intro p e s m args below meth c s₁ B hml hv
  obtain ⟨rfl, hP, hK⟩ := hv
  have hx := B.exec
  have hb := B.bytes
  have hr := B.returns
  have hts := atoms_spec (ws := wsX2_below) B.pre
  have hown : s.vm.findClass RX2 = some m.cls := findClass_of_methodNamed B.named
  have hlocks := B.notSynchronized
  have hl := lv_entry ([.ref fo]) (n := 1) (Nat.le_of_ble_eq_true rfl)
  rw [lg_entry_eq]
  generalize (lg_sl ([.ref fo]) ++ List.replicate (1 - (lg_sl ([.ref fo])).length) Slot.unset).toArray = ls at hl ⊢
  have hl : lv_has ls 1 [(0, .ref fo)] := hl
  refine lv_aload_n hx hb dX2_below_0 rfl (lv_at hl 0 rfl) ?_
  refine va_get (D := (dC, dI)) (ci := 2) (v := .long lb) (C := RX2) (T := TX2) (N := 2) hx hb hts iw_k_below_X2 hown hK hP 0 rfl rfl 1 (by decide) (hts (.fieldLink RX2 13 "ThriceCounted$Fraction" "below" "J") (by decide +kernel)) (fun _ h9 => h9) rfl dX2_below_1 ?_
  exact W.lret (v := lb) hx hb hr (fun t ht hW => ⟨lb, rfl, rfl, ht⟩) (fun _ h => absurd h List.not_mem_nil) dX2_below_4
theorem dX2_commonDivisor_0 : decode cX2_commonDivisor 0 = .ok (.lload_n 0, 1) := by decide +kernel
theorem dX2_commonDivisor_1 : decode cX2_commonDivisor 1 = .ok (.lstore 4, 2) := by decide +kernel
theorem dX2_commonDivisor_3 : decode cX2_commonDivisor 3 = .ok (.lload_n 2, 1) := by decide +kernel
theorem dX2_commonDivisor_4 : decode cX2_commonDivisor 4 = .ok (.lstore 6, 2) := by decide +kernel
theorem dX2_commonDivisor_6 : decode cX2_commonDivisor 6 = .ok (.iconst 0, 1) := by decide +kernel
theorem dX2_commonDivisor_7 : decode cX2_commonDivisor 7 = .ok (.istore 8, 2) := by decide +kernel
theorem dX2_commonDivisor_9 : decode cX2_commonDivisor 9 = .ok (.iload 8, 2) := by decide +kernel
theorem dX2_commonDivisor_11 : decode cX2_commonDivisor 11 = .ok (.bipush 100, 2) := by decide +kernel
theorem dX2_commonDivisor_13 : decode cX2_commonDivisor 13 = .ok (.if_icmp .ge 31, 3) := by decide +kernel
theorem dX2_commonDivisor_16 : decode cX2_commonDivisor 16 = .ok (.lload 6, 2) := by decide +kernel
theorem dX2_commonDivisor_18 : decode cX2_commonDivisor 18 = .ok (.lconst 0, 1) := by decide +kernel
theorem dX2_commonDivisor_19 : decode cX2_commonDivisor 19 = .ok (.lcmp, 1) := by decide +kernel
theorem dX2_commonDivisor_20 : decode cX2_commonDivisor 20 = .ok (.ifCond .eq 24, 3) := by decide +kernel
theorem dX2_commonDivisor_23 : decode cX2_commonDivisor 23 = .ok (.lload 4, 2) := by decide +kernel
theorem dX2_commonDivisor_25 : decode cX2_commonDivisor 25 = .ok (.lload 6, 2) := by decide +kernel
theorem dX2_commonDivisor_27 : decode cX2_commonDivisor 27 = .ok (.lrem, 1) := by decide +kernel
theorem dX2_commonDivisor_28 : decode cX2_commonDivisor 28 = .ok (.lstore 9, 2) := by decide +kernel
theorem dX2_commonDivisor_30 : decode cX2_commonDivisor 30 = .ok (.lload 6, 2) := by decide +kernel
theorem dX2_commonDivisor_32 : decode cX2_commonDivisor 32 = .ok (.lstore 4, 2) := by decide +kernel
theorem dX2_commonDivisor_34 : decode cX2_commonDivisor 34 = .ok (.lload 9, 2) := by decide +kernel
theorem dX2_commonDivisor_36 : decode cX2_commonDivisor 36 = .ok (.lstore 6, 2) := by decide +kernel
theorem dX2_commonDivisor_38 : decode cX2_commonDivisor 38 = .ok (.iinc 8 1, 3) := by decide +kernel
theorem dX2_commonDivisor_41 : decode cX2_commonDivisor 41 = .ok (.goto (-32), 3) := by decide +kernel
theorem dX2_commonDivisor_44 : decode cX2_commonDivisor 44 = .ok (.lload 4, 2) := by decide +kernel
theorem dX2_commonDivisor_46 : decode cX2_commonDivisor 46 = .ok (.lreturn, 1) := by decide +kernel
set_option maxHeartbeats 4000000 in
set_option maxRecDepth 100000 in
theorem k_gcd01 (l : Launch) (dC : Nat → ClassId) (dI : Nat → Nat → Nat) : Met l yX2_commonDivisor wsX2_commonDivisor ({ frames := 0, cells := 0, slots := 0, locals := 0 }) (va_Pc [.long 0, .long 1] (fun _ => True)) (vp_Sl (fun r => r = 1)) 0 0 (fun _ => False) := by
  refine Met.ofW (cc := cX2_commonDivisor) (maxL := 11) (ret := (some .long)) (by decide) rfl ?_
  intro p e s m args below meth c s₁ B hml hv
  obtain ⟨rfl, -⟩ := hv
  have hx := B.exec
  have hb := B.bytes
  have hr := B.returns
  have hts := atoms_spec (ws := wsX2_commonDivisor) B.pre
  have hown : s.vm.findClass RX2 = some m.cls := findClass_of_methodNamed B.named
  have hlocks := B.notSynchronized
  have hl := lv_entry ([.long 0, .long 1]) (n := 11) (Nat.le_of_ble_eq_true rfl)
  rw [lg_entry_eq]
  generalize (lg_sl ([.long 0, .long 1]) ++ List.replicate (11 - (lg_sl ([.long 0, .long 1])).length) Slot.unset).toArray = ls at hl ⊢
  have hl : lv_has ls 11 [(0, .long 0), (2, .long 1)] := hl
  refine lv_lload_n hx hb dX2_commonDivisor_0 rfl (lv_at hl 0 rfl) ?_
  refine lv_lstore (lv' := [(4, .long 0), (0, .long 0), (2, .long 1)]) hx hb dX2_commonDivisor_1 hl (by decide) rfl (fun ls hl => ?_)
  refine lv_lload_n hx hb dX2_commonDivisor_3 rfl (lv_at hl 2 rfl) ?_
  refine lv_lstore (lv' := [(6, .long 1), (4, .long 0), (0, .long 0), (2, .long 1)]) hx hb dX2_commonDivisor_4 hl (by decide) rfl (fun ls hl => ?_)
  refine lv_iconst (v := 0) hx hb dX2_commonDivisor_6 (by decide) ?_
  refine lv_istore (lv' := [(8, .int 0), (6, .long 1), (4, .long 0), (0, .long 0), (2, .long 1)]) hx hb dX2_commonDivisor_7 hl (by decide) rfl (fun ls hl => ?_)
  refine lv_iload hx hb dX2_commonDivisor_9 (lv_at hl 0 rfl) ?_
  refine lv_bipush (v := 100) hx hb dX2_commonDivisor_11 (by decide) ?_
  refine lv_icmp_ge (tgt := 44) hx hb dX2_commonDivisor_13 (by decide) (fun c_1 => ?_) (fun c_1 => ?_)
  · exact absurd c_1 (by decide)
  · refine lv_lload hx hb dX2_commonDivisor_16 (lv_at hl 1 rfl) ?_
    refine lv_lconst (v := 0) hx hb dX2_commonDivisor_18 (by decide) ?_
    refine W.lcmp hx hb dX2_commonDivisor_19 ?_
    refine tz_i 1 (by decide) ?_
    refine lv_if_eq (tgt := 44) hx hb dX2_commonDivisor_20 (by decide) (fun c_2 => ?_) (fun c_2 => ?_)
    · exact absurd c_2 (by decide)
    · refine lv_lload hx hb dX2_commonDivisor_23 (lv_at hl 2 rfl) ?_
      refine lv_lload hx hb dX2_commonDivisor_25 (lv_at hl 1 rfl) ?_
      refine lv_lrem hx hb dX2_commonDivisor_27 (by decide) ?_
      refine tz_l 0 (by decide) ?_
      refine lv_lstore (lv' := [(9, .long 0), (8, .int 0), (6, .long 1), (4, .long 0), (0, .long 0), (2, .long 1)]) hx hb dX2_commonDivisor_28 hl (by decide) rfl (fun ls hl => ?_)
      refine lv_lload hx hb dX2_commonDivisor_30 (lv_at hl 2 rfl) ?_
      refine lv_lstore (lv' := [(4, .long 1), (9, .long 0), (8, .int 0), (6, .long 1), (0, .long 0), (2, .long 1)]) hx hb dX2_commonDivisor_32 hl (by decide) rfl (fun ls hl => ?_)
      refine lv_lload hx hb dX2_commonDivisor_34 (lv_at hl 1 rfl) ?_
      refine lv_lstore (lv' := [(6, .long 0), (4, .long 1), (9, .long 0), (8, .int 0), (0, .long 0), (2, .long 1)]) hx hb dX2_commonDivisor_36 hl (by decide) rfl (fun ls hl => ?_)
      refine lv_iinc (v := 1) (lv' := [(8, .int 1), (6, .long 0), (4, .long 1), (9, .long 0), (0, .long 0), (2, .long 1)]) hx hb dX2_commonDivisor_38 hl (k := 3) rfl (by decide) (by decide) rfl (fun ls hl => ?_)
      refine lv_goto (tgt := 9) hx hb dX2_commonDivisor_41 (by decide) ?_
      refine lv_iload hx hb dX2_commonDivisor_9 (lv_at hl 0 rfl) ?_
      refine lv_bipush (v := 100) hx hb dX2_commonDivisor_11 (by decide) ?_
      refine lv_icmp_ge (tgt := 44) hx hb dX2_commonDivisor_13 (by decide) (fun c_3 => ?_) (fun c_3 => ?_)
      · exact absurd c_3 (by decide)
      · refine lv_lload hx hb dX2_commonDivisor_16 (lv_at hl 1 rfl) ?_
        refine lv_lconst (v := 0) hx hb dX2_commonDivisor_18 (by decide) ?_
        refine W.lcmp hx hb dX2_commonDivisor_19 ?_
        refine tz_i 0 (by decide) ?_
        refine lv_if_eq (tgt := 44) hx hb dX2_commonDivisor_20 (by decide) (fun c_4 => ?_) (fun c_4 => ?_)
        · refine lv_lload hx hb dX2_commonDivisor_44 (lv_at hl 2 rfl) ?_
          exact W.lret (v := 1) hx hb hr (fun t ht hW => ⟨1, rfl, rfl, ht⟩) (fun _ h => absurd h List.not_mem_nil) dX2_commonDivisor_46
        · exact absurd c_4 (by decide)
set_option maxRecDepth 20000 in
theorem ggX2_become_X2_commonDivisor : GoodIn wsX2_become wsX2_commonDivisor := goodIn_r _ [6] (by decide +kernel) (by decide +kernel)
set_option maxRecDepth 20000 in
theorem gX2_become_X2_commonDivisor : GoodIn wsX2_become (va_wsS RX2 16 yX2_commonDivisor wsX2_commonDivisor) := goodIn_app (goodIn_of _ (by decide +kernel)) ggX2_become_X2_commonDivisor
theorem dX2_become_0 : decode cX2_become 0 = .ok (.lload_n 1, 1) := by decide +kernel
theorem dX2_become_1 : decode cX2_become 1 = .ok (.lload_n 3, 1) := by decide +kernel
theorem dX2_become_2 : decode cX2_become 2 = .ok (.invokestatic 16, 3) := by decide +kernel
theorem dX2_become_5 : decode cX2_become 5 = .ok (.lstore 5, 2) := by decide +kernel
theorem dX2_become_7 : decode cX2_become 7 = .ok (.lload 5, 2) := by decide +kernel
theorem dX2_become_9 : decode cX2_become 9 = .ok (.lconst 0, 1) := by decide +kernel
theorem dX2_become_10 : decode cX2_become 10 = .ok (.lcmp, 1) := by decide +kernel
theorem dX2_become_11 : decode cX2_become 11 = .ok (.ifCond .le 9, 3) := by decide +kernel
theorem dX2_become_14 : decode cX2_become 14 = .ok (.lload_n 3, 1) := by decide +kernel
theorem dX2_become_15 : decode cX2_become 15 = .ok (.lconst 0, 1) := by decide +kernel
theorem dX2_become_16 : decode cX2_become 16 = .ok (.lcmp, 1) := by decide +kernel
theorem dX2_become_17 : decode cX2_become 17 = .ok (.ifCond .gt 4, 3) := by decide +kernel
theorem dX2_become_21 : decode cX2_become 21 = .ok (.aload_n 0, 1) := by decide +kernel
theorem dX2_become_22 : decode cX2_become 22 = .ok (.lload_n 1, 1) := by decide +kernel
theorem dX2_become_23 : decode cX2_become 23 = .ok (.lload 5, 2) := by decide +kernel
theorem dX2_become_25 : decode cX2_become 25 = .ok (.ldiv, 1) := by decide +kernel
theorem dX2_become_26 : decode cX2_become 26 = .ok (.putfield 7, 3) := by decide +kernel
theorem dX2_become_29 : decode cX2_become 29 = .ok (.aload_n 0, 1) := by decide +kernel
theorem dX2_become_30 : decode cX2_become 30 = .ok (.lload_n 3, 1) := by decide +kernel
theorem dX2_become_31 : decode cX2_become 31 = .ok (.lload 5, 2) := by decide +kernel
theorem dX2_become_33 : decode cX2_become 33 = .ok (.ldiv, 1) := by decide +kernel
theorem dX2_become_34 : decode cX2_become 34 = .ok (.putfield 13, 3) := by decide +kernel
theorem dX2_become_37 : decode cX2_become 37 = .ok (.return_, 1) := by decide +kernel
set_option maxRecDepth 20000 in
theorem iw_k_become01_X2 : ∀ w ∈ wsX20, w ∈ wsX2_become := by decide +kernel
set_option maxHeartbeats 4000000 in
set_option maxRecDepth 100000 in
theorem k_become01 (l : Launch) (dC : Nat → ClassId) (dI : Nat → Nat → Nat) (fo : Nat) (vf0 : Value) (vf1 : Value) (sz : Nat) : Met l yX2_become wsX2_become ({ frames := 1, cells := 0, slots := 0, locals := 30 }) (va_Pc [.ref fo, .long 0, .long 1] (fun U => U.heap.size = sz ∧ va_P (dC, dI) vwCl [(fo, .inr (2, [vf0, vf1]))] U.heap ∧ va_K (dC, dI) vwCl [] U ∧ va_D (fun _ => True) [(fo, .inr (2, [vf0, vf1]))])) (va_Qv (fun (_ : Unit) => True) (fun _ _ => True) (va_A [(fo, .inr (2, [vf0, vf1]))] sz)) 0 0 (va_A [(fo, .inr (2, [vf0, vf1]))] sz) := by
  refine Met.ofW (cc := cX2_become) (maxL := 7) (ret := none) (by decide) rfl ?_
  intro p e s m args below meth c s₁ B hml hv
  obtain ⟨rfl, hsz, hP, hK, hD0⟩ := hv
  have hx := B.exec
  have hb := B.bytes
  have hr := B.returns
  have hts := atoms_spec (ws := wsX2_become) B.pre
  have hown : s.vm.findClass RX2 = some m.cls := findClass_of_methodNamed B.named
  have hlocks := B.notSynchronized
  subst hsz
  have hD := hD0.self (sz := s.heap.size)
  generalize hAe : va_A [(fo, .inr (2, [vf0, vf1]))] s.heap.size = A at hD ⊢
  have hA : ∀ q : Nat, s.heap.size ≤ q → A q := fun q h => by rw [← hAe]; exact Or.inr h
  have hS : va_S A s.heap s.heap [] := va_S.rf
  have hP : va_P (dC, dI) vwCl [(fo, .inr (2, [vf0, vf1]))] s.heap := hP
  have hl := lv_entry ([.ref fo, .long 0, .long 1]) (n := 7) (Nat.le_of_ble_eq_true rfl)
  rw [lg_entry_eq]
  generalize (lg_sl ([.ref fo, .long 0, .long 1]) ++ List.replicate (7 - (lg_sl ([.ref fo, .long 0, .long 1])).length) Slot.unset).toArray = ls at hl ⊢
  have hl : lv_has ls 7 [(0, .ref fo), (1, .long 0), (3, .long 1)] := hl
  refine lv_lload_n hx hb dX2_become_0 rfl (lv_at hl 1 rfl) ?_
  refine lv_lload_n hx hb dX2_become_1 rfl (lv_at hl 2 rfl) ?_
  refine vp_callSl (va_Run.run (va_runS (As := [.long 0, .long 1]) (rest := []) ⟨hx, hb, hml, hown, hts⟩ (k_gcd01 l dC dI) (va_cwS 2 hts gX2_become_X2_commonDivisor rfl rfl rfl (by decide +kernel) ⟨Nat.le_of_ble_eq_true rfl, Nat.le_of_ble_eq_true rfl⟩) ⟨fun a U g mk q => ⟨q.1, trivial⟩, fun U hU hW => ⟨rfl, trivial⟩⟩ rfl rfl hl.1 rfl (lv_room (Nat.le_of_ble_eq_true rfl)) dX2_become_2 ⟨Nat.le_of_ble_eq_true rfl, Nat.le_of_ble_eq_true rfl⟩)) (fun r_1 hw_2 => ?_)
  obtain rfl : 1 = r_1 := hw_2.symm
  refine lv_lstore (lv' := [(5, .long 1), (0, .ref fo), (1, .long 0), (3, .long 1)]) hx hb dX2_become_5 hl (by decide) rfl (fun ls hl => ?_)
  refine lv_lload hx hb dX2_become_7 (lv_at hl 0 rfl) ?_
  refine lv_lconst (v := 0) hx hb dX2_become_9 (by decide) ?_
  refine W.lcmp hx hb dX2_become_10 ?_
  refine tz_i 1 (by decide) ?_
  refine lv_if_le (tgt := 20) hx hb dX2_become_11 (by decide) (fun c_3 => ?_) (fun c_3 => ?_)
  · exact absurd c_3 (by decide)
  · refine lv_lload_n hx hb dX2_become_14 rfl (lv_at hl 3 rfl) ?_
    refine lv_lconst (v := 0) hx hb dX2_become_15 (by decide) ?_
    refine W.lcmp hx hb dX2_become_16 ?_
    refine tz_i 1 (by decide) ?_
    refine lv_if_gt (tgt := 21) hx hb dX2_become_17 (by decide) (fun c_4 => ?_) (fun c_4 => ?_)
    · refine lv_aload_n hx hb dX2_become_21 rfl (lv_at hl 1 rfl) ?_
      refine lv_lload_n hx hb dX2_become_22 rfl (lv_at hl 2 rfl) ?_
      refine lv_lload hx hb dX2_become_23 (lv_at hl 0 rfl) ?_
      refine lv_ldiv hx hb dX2_become_25 (by decide) ?_
      refine tz_l 0 (by decide) ?_
      refine va_put (D := (dC, dI)) (ci := 2) (v := .long 0) (ty := .long) (C := RX2) (T := TX2) (N := 2) hx hb hts iw_k_become01_X2 tyX2 tyX2_ok nmX2 hown hK hP hD hS 0 rfl rfl 0 (by decide) (hts (.fieldLink RX2 7 "ThriceCounted$Fraction" "above" "J") (by decide +kernel)) (fun _ h9 => h9) rfl (by decide +kernel) rfl rfl (Nat.le_of_ble_eq_true rfl) dX2_become_26 (fun H locs hP hD hS => ?_)
      have hP : va_P (dC, dI) vwCl [(fo, .inr (2, [.long 0, vf1]))] H := hP
      have hD : va_D A [(fo, .inr (2, [.long 0, vf1]))] := hD
      refine lv_aload_n hx hb dX2_become_29 rfl (lv_at hl 1 rfl) ?_
      refine lv_lload_n hx hb dX2_become_30 rfl (lv_at hl 3 rfl) ?_
      refine lv_lload hx hb dX2_become_31 (lv_at hl 0 rfl) ?_
      refine lv_ldiv hx hb dX2_become_33 (by decide) ?_
      refine tz_l 1 (by decide) ?_
      refine va_put (D := (dC, dI)) (ci := 2) (v := .long 1) (ty := .long) (C := RX2) (T := TX2) (N := 2) hx hb hts iw_k_become01_X2 tyX2 tyX2_ok nmX2 hown hK hP hD hS 0 rfl rfl 1 (by decide) (hts (.fieldLink RX2 13 "ThriceCounted$Fraction" "below" "J") (by decide +kernel)) (fun _ h9 => h9) rfl (by decide +kernel) rfl rfl (Nat.le_of_ble_eq_true rfl) dX2_become_34 (fun H locs hP hD hS => ?_)
      have hP : va_P (dC, dI) vwCl [(fo, .inr (2, [.long 0, .long 1]))] H := hP
      have hD : va_D A [(fo, .inr (2, [.long 0, .long 1]))] := hD
      exact W.vret hx hb hr (fun t ht hW => ⟨⟨(), rfl, trivial, trivial⟩, hS.F ht⟩) hS.2.2 dX2_become_37
    · exact absurd c_4 (by decide)
theorem dX5_at_0 : decode cX5_at 0 = .ok (.iload_n 1, 1) := by decide +kernel
theorem dX5_at_1 : decode cX5_at 1 = .ok (.ifCond .lt 29, 3) := by decide +kernel
theorem dX5_at_4 : decode cX5_at 4 = .ok (.iload_n 1, 1) := by decide +kernel
theorem dX5_at_5 : decode cX5_at 5 = .ok (.aload_n 0, 1) := by decide +kernel
theorem dX5_at_6 : decode cX5_at 6 = .ok (.getfield 22, 3) := by decide +kernel
theorem dX5_at_9 : decode cX5_at 9 = .ok (.if_icmp .ge 21, 3) := by decide +kernel
theorem dX5_at_30 : decode cX5_at 30 = .ok (.iconst (-1), 1) := by decide +kernel
theorem dX5_at_31 : decode cX5_at 31 = .ok (.ireturn, 1) := by decide +kernel
set_option maxRecDepth 20000 in
theorem iw_k_at0_X5 : ∀ w ∈ wsX50, w ∈ wsX5_at := by decide +kernel
set_option maxHeartbeats 4000000 in
set_option maxRecDepth 100000 in
theorem k_at0 (l : Launch) (dC : Nat → ClassId) (dI : Nat → Nat → Nat) (rd : Nat) (vr0 : Value) (vr1 : Value) (vr3 : Value) (vr4 : Value) (vr5 : Value) (vr6 : Value) (vr7 : Value) (vr8 : Value) : Met l yX5_at wsX5_at ({ frames := 0, cells := 0, slots := 0, locals := 0 }) (va_Pc [.ref rd, .int 0] (fun U => va_P (dC, dI) vwCl [(rd, .inr (5, [vr0, vr1, .int 0, vr3, vr4, vr5, vr6, vr7, vr8]))] U.heap ∧ va_K (dC, dI) vwCl [] U)) (vp_Si (fun r => r = (-1))) 0 0 (fun _ => False) := by
  refine Met.ofW (cc := cX5_at) (maxL := 2) (ret := (some .int)) (by decide) rfl ?_
  intro p e s m args below meth c s₁ B hml hv
  obtain ⟨rfl, hP, hK⟩ := hv
  have hx := B.exec
  have hb := B.bytes
  have hr := B.returns
  have hts := atoms_spec (ws := wsX5_at) B.pre
  have hown : s.vm.findClass RX5 = some m.cls := findClass_of_methodNamed B.named
  have hlocks := B.notSynchronized
  have hl := lv_entry ([.ref rd, .int 0]) (n := 2) (Nat.le_of_ble_eq_true rfl)
  rw [lg_entry_eq]
  generalize (lg_sl ([.ref rd, .int 0]) ++ List.replicate (2 - (lg_sl ([.ref rd, .int 0])).length) Slot.unset).toArray = ls at hl ⊢
  have hl : lv_has ls 2 [(0, .ref rd), (1, .int 0)] := hl
  refine lv_iload_n hx hb dX5_at_0 rfl (lv_at hl 1 rfl) ?_
  refine lv_if_lt (tgt := 30) hx hb dX5_at_1 (by decide) (fun c_1 => ?_) (fun c_1 => ?_)
  · exact absurd c_1 (by decide)
  · refine lv_iload_n hx hb dX5_at_4 rfl (lv_at hl 1 rfl) ?_
    refine lv_aload_n hx hb dX5_at_5 rfl (lv_at hl 0 rfl) ?_
    refine va_get (D := (dC, dI)) (ci := 5) (v := .int 0) (C := RX5) (T := TX5) (N := 9) hx hb hts iw_k_at0_X5 hown hK hP 0 rfl rfl 2 (by decide) (hts (.fieldLink RX5 22 "ThriceCounted$Reader" "length" "I") (by decide +kernel)) (fun _ h9 => h9) rfl dX5_at_6 ?_
    refine lv_icmp_ge (tgt := 30) hx hb dX5_at_9 (by decide) (fun c_2 => ?_) (fun c_2 => ?_)
    · refine lv_iconst (v := (-1)) hx hb dX5_at_30 (by decide) ?_
      exact W.iret (v := (-1)) hx hb hr (fun t ht hW => ⟨(-1), rfl, rfl, ht⟩) (fun _ h => absurd h List.not_mem_nil) dX5_at_31
    · exact absurd c_2 (by decide)
set_option maxRecDepth 20000 in
theorem ggX5_step_X5_at : GoodIn wsX5_step wsX5_at := goodIn_r _ [9, 2, 10, 30, 31, 32, 33, 34, 35, 36, 37, 38] (by decide +kernel) (by decide +kernel)
set_option maxRecDepth 20000 in
theorem gX5_step_X5_at : GoodIn wsX5_step (wsV RX5 134 RX5 yX5_at wsX5_at) := goodIn_app (goodIn_of _ (by decide +kernel)) ggX5_step_X5_at
theorem dX5_step_0 : decode cX5_step 0 = .ok (.aload_n 0, 1) := by decide +kernel
theorem dX5_step_1 : decode cX5_step 1 = .ok (.getfield 26, 3) := by decide +kernel
theorem dX5_step_4 : decode cX5_step 4 = .ok (.aload_n 0, 1) := by decide +kernel
theorem dX5_step_5 : decode cX5_step 5 = .ok (.getfield 22, 3) := by decide +kernel
theorem dX5_step_8 : decode cX5_step 8 = .ok (.if_icmp .ge 29, 3) := by decide +kernel
theorem dX5_step_37 : decode cX5_step 37 = .ok (.aload_n 0, 1) := by decide +kernel
theorem dX5_step_38 : decode cX5_step 38 = .ok (.aload_n 0, 1) := by decide +kernel
theorem dX5_step_39 : decode cX5_step 39 = .ok (.getfield 26, 3) := by decide +kernel
theorem dX5_step_42 : decode cX5_step 42 = .ok (.putfield 32, 3) := by decide +kernel
theorem dX5_step_45 : decode cX5_step 45 = .ok (.aload_n 0, 1) := by decide +kernel
theorem dX5_step_46 : decode cX5_step 46 = .ok (.aload_n 0, 1) := by decide +kernel
theorem dX5_step_47 : decode cX5_step 47 = .ok (.getfield 26, 3) := by decide +kernel
theorem dX5_step_50 : decode cX5_step 50 = .ok (.invokevirtual 134, 3) := by decide +kernel
theorem dX5_step_53 : decode cX5_step 53 = .ok (.istore_n 1, 1) := by decide +kernel
theorem dX5_step_54 : decode cX5_step 54 = .ok (.iload_n 1, 1) := by decide +kernel
theorem dX5_step_55 : decode cX5_step 55 = .ok (.iconst (-1), 1) := by decide +kernel
theorem dX5_step_56 : decode cX5_step 56 = .ok (.if_icmp .ne 11, 3) := by decide +kernel
theorem dX5_step_59 : decode cX5_step 59 = .ok (.aload_n 0, 1) := by decide +kernel
theorem dX5_step_60 : decode cX5_step 60 = .ok (.iconst 0, 1) := by decide +kernel
theorem dX5_step_61 : decode cX5_step 61 = .ok (.putfield 29, 3) := by decide +kernel
theorem dX5_step_64 : decode cX5_step 64 = .ok (.goto 56, 3) := by decide +kernel
theorem dX5_step_120 : decode cX5_step 120 = .ok (.return_, 1) := by decide +kernel
set_option maxRecDepth 20000 in
theorem iw_k_step0_X5 : ∀ w ∈ wsX50, w ∈ wsX5_step := by decide +kernel
set_option maxHeartbeats 4000000 in
set_option maxRecDepth 100000 in
theorem k_step0 (l : Launch) (dC : Nat → ClassId) (dI : Nat → Nat → Nat) (rd : Nat) (vr0 : Value) (vr1 : Value) (vr4 : Value) (vr5 : Value) (vr6 : Value) (vr7 : Value) (vr8 : Value) (sz : Nat) : Met l yX5_step wsX5_step ({ frames := 1, cells := 0, slots := 0, locals := 21 }) (va_Pc [.ref rd] (fun U => U.heap.size = sz ∧ va_P (dC, dI) vwCl [(rd, .inr (5, [vr0, vr1, .int 0, .int 0, vr4, vr5, vr6, vr7, vr8]))] U.heap ∧ va_K (dC, dI) vwCl [] U ∧ va_D (fun _ => True) [(rd, .inr (5, [vr0, vr1, .int 0, .int 0, vr4, vr5, vr6, vr7, vr8]))])) (va_Qv (fun (_ : Unit) => True) (fun _ t => va_P (dC, dI) vwCl [(rd, .inr (5, [vr0, vr1, .int 0, .int 0, .int 0, .int 0, vr6, vr7, vr8]))] t.heap ∧ va_K (dC, dI) vwCl [] t ∧ va_D (va_A [(rd, .inr (5, [vr0, vr1, .int 0, .int 0, vr4, vr5, vr6, vr7, vr8]))] sz) [(rd, .inr (5, [vr0, vr1, .int 0, .int 0, .int 0, .int 0, vr6, vr7, vr8]))]) (va_A [(rd, .inr (5, [vr0, vr1, .int 0, .int 0, vr4, vr5, vr6, vr7, vr8]))] sz)) 0 0 (va_A [(rd, .inr (5, [vr0, vr1, .int 0, .int 0, vr4, vr5, vr6, vr7, vr8]))] sz) := by
  refine Met.ofW (cc := cX5_step) (maxL := 2) (ret := none) (by decide) rfl ?_
  intro p e s m args below meth c s₁ B hml hv
  obtain ⟨rfl, hsz, hP, hK, hD0⟩ := hv
  have hx := B.exec
  have hb := B.bytes
  have hr := B.returns
  have hts := atoms_spec (ws := wsX5_step) B.pre
  have hown : s.vm.findClass RX5 = some m.cls := findClass_of_methodNamed B.named
  have hlocks := B.notSynchronized
  subst hsz
  have hD := hD0.self (sz := s.heap.size)
  generalize hAe : va_A [(rd, .inr (5, [vr0, vr1, .int 0, .int 0, vr4, vr5, vr6, vr7, vr8]))] s.heap.size = A at hD ⊢
  have hA : ∀ q : Nat, s.heap.size ≤ q → A q := fun q h => by rw [← hAe]; exact Or.inr h
  have hS : va_S A s.heap s.heap [] := va_S.rf
  have hP : va_P (dC, dI) vwCl [(rd, .inr (5, [vr0, vr1, .int 0, .int 0, vr4, vr5, vr6, vr7, vr8]))] s.heap := hP
  have hl := lv_entry ([.ref rd]) (n := 2) (Nat.le_of_ble_eq_true rfl)
  rw [lg_entry_eq]
  generalize (lg_sl ([.ref rd]) ++ List.replicate (2 - (lg_sl ([.ref rd])).length) Slot.unset).toArray = ls at hl ⊢
  have hl : lv_has ls 2 [(0, .ref rd)] := hl
  refine lv_aload_n hx hb dX5_step_0 rfl (lv_at hl 0 rfl) ?_
  refine va_get (D := (dC, dI)) (ci := 5) (v := .int 0) (C := RX5) (T := TX5) (N := 9) hx hb hts iw_k_step0_X5 hown hK hP 0 rfl rfl 3 (by decide) (hts (.fieldLink RX5 26 "ThriceCounted$Reader" "place" "I") (by decide +kernel)) (fun _ h9 => h9) rfl dX5_step_1 ?_
  refine lv_aload_n hx hb dX5_step_4 rfl (lv_at hl 0 rfl) ?_
  refine va_get (D := (dC, dI)) (ci := 5) (v := .int 0) (C := RX5) (T := TX5) (N := 9) hx hb hts iw_k_step0_X5 hown hK hP 0 rfl rfl 2 (by decide) (hts (.fieldLink RX5 22 "ThriceCounted$Reader" "length" "I") (by decide +kernel)) (fun _ h9 => h9) rfl dX5_step_5 ?_
  refine lv_icmp_ge (tgt := 37) hx hb dX5_step_8 (by decide) (fun c_1 => ?_) (fun c_1 => ?_)
  · refine lv_aload_n hx hb dX5_step_37 rfl (lv_at hl 0 rfl) ?_
    refine lv_aload_n hx hb dX5_step_38 rfl (lv_at hl 0 rfl) ?_
    refine va_get (D := (dC, dI)) (ci := 5) (v := .int 0) (C := RX5) (T := TX5) (N := 9) hx hb hts iw_k_step0_X5 hown hK hP 0 rfl rfl 3 (by decide) (hts (.fieldLink RX5 26 "ThriceCounted$Reader" "place" "I") (by decide +kernel)) (fun _ h9 => h9) rfl dX5_step_39 ?_
    refine va_put (D := (dC, dI)) (ci := 5) (v := .int 0) (ty := .int) (C := RX5) (T := TX5) (N := 9) hx hb hts iw_k_step0_X5 tyX5 tyX5_ok nmX5 hown hK hP hD hS 0 rfl rfl 5 (by decide) (hts (.fieldLink RX5 32 "ThriceCounted$Reader" "start" "I") (by decide +kernel)) (fun _ h9 => h9) rfl (by decide +kernel) rfl rfl (Nat.le_of_ble_eq_true rfl) dX5_step_42 (fun H locs hP hD hS => ?_)
    have hP : va_P (dC, dI) vwCl [(rd, .inr (5, [vr0, vr1, .int 0, .int 0, vr4, .int 0, vr6, vr7, vr8]))] H := hP
    have hD : va_D A [(rd, .inr (5, [vr0, vr1, .int 0, .int 0, vr4, .int 0, vr6, vr7, vr8]))] := hD
    refine lv_aload_n hx hb dX5_step_45 rfl (lv_at hl 0 rfl) ?_
    refine lv_aload_n hx hb dX5_step_46 rfl (lv_at hl 0 rfl) ?_
    refine va_get (D := (dC, dI)) (ci := 5) (v := .int 0) (C := RX5) (T := TX5) (N := 9) hx hb hts iw_k_step0_X5 hown hK hP 0 rfl rfl 3 (by decide) (hts (.fieldLink RX5 26 "ThriceCounted$Reader" "place" "I") (by decide +kernel)) (fun _ h9 => h9) rfl dX5_step_47 ?_
    have hPc_2 := hP.sub (ws' := [(rd, .inr (5, [vr0, vr1, .int 0, .int 0, vr4, .int 0, vr6, vr7, vr8]))]) [0] rfl
    have hKc_3 := hK.sub (tys' := []) [] rfl
    refine vp_callSi (va_Run.run (va_runV (As := [.int 0]) (rest := []) ⟨hx, hb, hml, hown, hts⟩ (k_at0 l dC dI rd vr0 vr1 (.int 0) vr4 (.int 0) vr6 vr7 vr8) (cwV 1 hts gX5_step_X5_at rfl rfl rfl (by decide +kernel) ⟨Nat.le_of_ble_eq_true rfl, Nat.le_of_ble_eq_true rfl⟩) ⟨fun a U g mk q => by obtain ⟨q0, qP, qK⟩ := q; exact ⟨q0, qP, va_K.moved (u := U) (U := U.calling g mk a) (Vm.Alike.refl U.vm) qK⟩, va_recv hK hP (ci := 5) (q0 := 0) rfl rfl, fun U hU hW => ⟨rfl, by rw [hU]; exact hPc_2, va_K.moved hW.alike hKc_3⟩⟩ rfl rfl hl.1 rfl (lv_room (Nat.le_of_ble_eq_true rfl)) dX5_step_50 ⟨Nat.le_of_ble_eq_true rfl, Nat.le_of_ble_eq_true rfl⟩)) (fun r_4 hw_5 => ?_)
    obtain rfl : (-1) = r_4 := hw_5.symm
    refine lv_istore_n (lv' := [(1, .int (-1)), (0, .ref rd)]) hx hb dX5_step_53 rfl hl (by decide) rfl (fun ls hl => ?_)
    refine lv_iload_n hx hb dX5_step_54 rfl (lv_at hl 0 rfl) ?_
    refine lv_iconst (v := (-1)) hx hb dX5_step_55 (by decide) ?_
    refine lv_icmp_ne (tgt := 67) hx hb dX5_step_56 (by decide) (fun c_6 => ?_) (fun c_6 => ?_)
    · exact absurd c_6 (by decide)
    · refine lv_aload_n hx hb dX5_step_59 rfl (lv_at hl 1 rfl) ?_
      refine lv_iconst (v := 0) hx hb dX5_step_60 (by decide) ?_
      refine va_put (D := (dC, dI)) (ci := 5) (v := .int 0) (ty := .int) (C := RX5) (T := TX5) (N := 9) hx hb hts iw_k_step0_X5 tyX5 tyX5_ok nmX5 hown hK hP hD hS 0 rfl rfl 4 (by decide) (hts (.fieldLink RX5 29 "ThriceCounted$Reader" "kind" "I") (by decide +kernel)) (fun _ h9 => h9) rfl (by decide +kernel) rfl rfl (Nat.le_of_ble_eq_true rfl) dX5_step_61 (fun H locs hP hD hS => ?_)
      have hP : va_P (dC, dI) vwCl [(rd, .inr (5, [vr0, vr1, .int 0, .int 0, .int 0, .int 0, vr6, vr7, vr8]))] H := hP
      have hD : va_D A [(rd, .inr (5, [vr0, vr1, .int 0, .int 0, .int 0, .int 0, vr6, vr7, vr8]))] := hD
      refine lv_goto (tgt := 120) hx hb dX5_step_64 (by decide) ?_
      have hP9 := hP.sub (ws' := [(rd, .inr (5, [vr0, vr1, .int 0, .int 0, .int 0, .int 0, vr6, vr7, vr8]))]) [0] rfl
      have hD9 := hD.sub (ws' := [(rd, .inr (5, [vr0, vr1, .int 0, .int 0, .int 0, .int 0, vr6, vr7, vr8]))]) [0] (by decide) rfl
      have hK9 := hK.sub (tys' := []) [] rfl
      exact W.vret hx hb hr (fun t ht hW => ⟨⟨(), rfl, trivial, by rw [ht]; exact hP9, va_K.moved hW.alike hK9, hD9⟩, hS.F ht⟩) hS.2.2 dX5_step_120
  · exact absurd c_1 (by decide)
theorem dX5_isWord_0 : decode cX5_isWord 0 = .ok (.aload_n 0, 1) := by decide +kernel
theorem dX5_isWord_1 : decode cX5_isWord 1 = .ok (.getfield 29, 3) := by decide +kernel
theorem dX5_isWord_4 : decode cX5_isWord 4 = .ok (.iconst 1, 1) := by decide +kernel
theorem dX5_isWord_5 : decode cX5_isWord 5 = .ok (.if_icmp .ne 19, 3) := by decide +kernel
theorem dX5_isWord_24 : decode cX5_isWord 24 = .ok (.iconst 0, 1) := by decide +kernel
theorem dX5_isWord_25 : decode cX5_isWord 25 = .ok (.ireturn, 1) := by decide +kernel
set_option maxRecDepth 20000 in
theorem iw_k_isWord0_X5 : ∀ w ∈ wsX50, w ∈ wsX5_isWord := by decide +kernel
set_option maxHeartbeats 4000000 in
set_option maxRecDepth 100000 in
theorem k_isWord0 (l : Launch) (dC : Nat → ClassId) (dI : Nat → Nat → Nat) (rd : Nat) (vr0 : Value) (vr1 : Value) (vr2 : Value) (vr3 : Value) (vr5 : Value) (vr6 : Value) (vr7 : Value) (vr8 : Value) (sw : Nat) : Met l yX5_isWord wsX5_isWord ({ frames := 0, cells := 0, slots := 0, locals := 0 }) (va_Pc [.ref rd, .ref sw] (fun U => va_P (dC, dI) vwCl [(rd, .inr (5, [vr0, vr1, vr2, vr3, .int 0, vr5, vr6, vr7, vr8]))] U.heap ∧ va_K (dC, dI) vwCl [] U)) (vp_Si (fun r => r = 0)) 0 0 (fun _ => False) := by
  refine Met.ofW (cc := cX5_isWord) (maxL := 3) (ret := (some .boolean)) (by decide) rfl ?_
  intro p e s m args below meth c s₁ B hml hv
  obtain ⟨rfl, hP, hK⟩ := hv
  have hx := B.exec
  have hb := B.bytes
  have hr := B.returns
  have hts := atoms_spec (ws := wsX5_isWord) B.pre
  have hown : s.vm.findClass RX5 = some m.cls := findClass_of_methodNamed B.named
  have hlocks := B.notSynchronized
  have hl := lv_entry ([.ref rd, .ref sw]) (n := 3) (Nat.le_of_ble_eq_true rfl)
  rw [lg_entry_eq]
  generalize (lg_sl ([.ref rd, .ref sw]) ++ List.replicate (3 - (lg_sl ([.ref rd, .ref sw])).length) Slot.unset).toArray = ls at hl ⊢
  have hl : lv_has ls 3 [(0, .ref rd), (1, .ref sw)] := hl
  refine lv_aload_n hx hb dX5_isWord_0 rfl (lv_at hl 0 rfl) ?_
  refine va_get (D := (dC, dI)) (ci := 5) (v := .int 0) (C := RX5) (T := TX5) (N := 9) hx hb hts iw_k_isWord0_X5 hown hK hP 0 rfl rfl 4 (by decide) (hts (.fieldLink RX5 29 "ThriceCounted$Reader" "kind" "I") (by decide +kernel)) (fun _ h9 => h9) rfl dX5_isWord_1 ?_
  refine lv_iconst (v := 1) hx hb dX5_isWord_4 (by decide) ?_
  refine lv_icmp_ne (tgt := 24) hx hb dX5_isWord_5 (by decide) (fun c_1 => ?_) (fun c_1 => ?_)
  · refine lv_iconst (v := 0) hx hb dX5_isWord_24 (by decide) ?_
    exact W.zret (v := 0) hx hb hr (by decide) (fun t ht hW => ⟨0, rfl, rfl, ht⟩) (fun _ h => absurd h List.not_mem_nil) dX5_isWord_25
  · exact absurd c_1 (by decide)
set_option maxRecDepth 20000 in
theorem ggX5_parse_X0_empty : GoodIn wsX5_parse wsX0_empty := goodIn_r _ [19, 20, 21, 22, 23, 24, 25, 26, 27, 28, 29, 30, 189, 190, 191, 192, 193, 194, 195, 196, 197, 198] (by decide +kernel) (by decide +kernel)
set_option maxRecDepth 20000 in
theorem gX5_parse_X0_empty : GoodIn wsX5_parse (wsV RX5 54 RX0 yX0_empty wsX0_empty) := goodIn_app (goodIn_of _ (by decide +kernel)) ggX5_parse_X0_empty
set_option maxRecDepth 20000 in
theorem ggX5_parse_X5_step : GoodIn wsX5_parse wsX5_step := goodIn_r _ [35, 10, 9, 36, 14, 37, 38, 39, 34, 40, 1, 41, 42, 43, 44, 45, 46, 47, 48, 49, 50, 51, 52, 53, 54, 55, 2, 3, 4, 5, 180, 181, 182, 183, 184, 185, 186, 187, 188] (by decide +kernel) (by decide +kernel)
set_option maxRecDepth 20000 in
theorem gX5_parse_X5_step : GoodIn wsX5_parse (wsV RX5 57 RX5 yX5_step wsX5_step) := goodIn_app (goodIn_of _ (by decide +kernel)) ggX5_parse_X5_step
set_option maxRecDepth 20000 in
theorem ggX5_parse_X5_isWord : GoodIn wsX5_parse wsX5_isWord := goodIn_r _ [59, 14, 10, 36, 60, 61, 62, 63, 64, 65, 66, 67, 68, 69, 70, 71, 37, 38, 39, 34, 40, 9, 1, 72, 73, 74, 75, 76, 77, 78, 79, 80, 81, 82, 83, 84, 85, 86, 87, 88, 89, 90, 91, 92, 93, 94, 95, 96, 97, 98, 99, 100, 101, 102, 103, 104, 105, 106, 107, 108, 180, 181, 182, 183, 184, 185, 186, 187, 188] (by decide +kernel) (by decide +kernel)
set_option maxRecDepth 20000 in
theorem gX5_parse_X5_isWord : GoodIn wsX5_parse (wsV RX5 62 RX5 yX5_isWord wsX5_isWord) := goodIn_app (goodIn_of _ (by decide +kernel)) ggX5_parse_X5_isWord
theorem dX5_parse_0 : decode cX5_parse 0 = .ok (.aload_n 0, 1) := by decide +kernel
theorem dX5_parse_1 : decode cX5_parse 1 = .ok (.aload_n 1, 1) := by decide +kernel
theorem dX5_parse_2 : decode cX5_parse 2 = .ok (.putfield 18, 3) := by decide +kernel
theorem dX5_parse_5 : decode cX5_parse 5 = .ok (.aload_n 0, 1) := by decide +kernel
theorem dX5_parse_6 : decode cX5_parse 6 = .ok (.iconst 0, 1) := by decide +kernel
theorem dX5_parse_7 : decode cX5_parse 7 = .ok (.iload_n 2, 1) := by decide +kernel
theorem dX5_parse_8 : decode cX5_parse 8 = .ok (.aload_n 1, 1) := by decide +kernel
theorem dX5_parse_9 : decode cX5_parse 9 = .ok (.arraylength, 1) := by decide +kernel
theorem dX5_parse_10 : decode cX5_parse 10 = .ok (.invokestatic 45, 3) := by decide +kernel
theorem dX5_parse_13 : decode cX5_parse 13 = .ok (.invokestatic 51, 3) := by decide +kernel
theorem dX5_parse_16 : decode cX5_parse 16 = .ok (.putfield 22, 3) := by decide +kernel
theorem dX5_parse_19 : decode cX5_parse 19 = .ok (.aload_n 0, 1) := by decide +kernel
theorem dX5_parse_20 : decode cX5_parse 20 = .ok (.iconst 0, 1) := by decide +kernel
theorem dX5_parse_21 : decode cX5_parse 21 = .ok (.putfield 26, 3) := by decide +kernel
theorem dX5_parse_24 : decode cX5_parse 24 = .ok (.aload_n 0, 1) := by decide +kernel
theorem dX5_parse_25 : decode cX5_parse 25 = .ok (.iconst 0, 1) := by decide +kernel
theorem dX5_parse_26 : decode cX5_parse 26 = .ok (.putfield 38, 3) := by decide +kernel
theorem dX5_parse_29 : decode cX5_parse 29 = .ok (.aload_n 0, 1) := by decide +kernel
theorem dX5_parse_30 : decode cX5_parse 30 = .ok (.iconst 0, 1) := by decide +kernel
theorem dX5_parse_31 : decode cX5_parse 31 = .ok (.putfield 41, 3) := by decide +kernel
theorem dX5_parse_34 : decode cX5_parse 34 = .ok (.aload_n 0, 1) := by decide +kernel
theorem dX5_parse_35 : decode cX5_parse 35 = .ok (.getfield 12, 3) := by decide +kernel
theorem dX5_parse_38 : decode cX5_parse 38 = .ok (.invokevirtual 54, 3) := by decide +kernel
theorem dX5_parse_41 : decode cX5_parse 41 = .ok (.aload_n 0, 1) := by decide +kernel
theorem dX5_parse_42 : decode cX5_parse 42 = .ok (.invokevirtual 57, 3) := by decide +kernel
theorem dX5_parse_45 : decode cX5_parse 45 = .ok (.aload_n 0, 1) := by decide +kernel
theorem dX5_parse_46 : decode cX5_parse 46 = .ok (.ldc 60, 2) := by decide +kernel
theorem dX5_parse_48 : decode cX5_parse 48 = .ok (.invokevirtual 62, 3) := by decide +kernel
theorem dX5_parse_51 : decode cX5_parse 51 = .ok (.ifCond .ne 5, 3) := by decide +kernel
theorem dX5_parse_54 : decode cX5_parse 54 = .ok (.iconst 0, 1) := by decide +kernel
theorem dX5_parse_55 : decode cX5_parse 55 = .ok (.ireturn, 1) := by decide +kernel
set_option maxRecDepth 20000 in
theorem iw_k_parse0_X5 : ∀ w ∈ wsX50, w ∈ wsX5_parse := by decide +kernel
set_option maxHeartbeats 4000000 in
set_option maxRecDepth 100000 in
theorem k_parse0 (l : Launch) (dC : Nat → ClassId) (dI : Nat → Nat → Nat) (rd : Nat) (bo : Nat) (vr1 : Value) (vr2 : Value) (vr3 : Value) (vr4 : Value) (vr5 : Value) (vr6 : Value) (vr7 : Value) (vr8 : Value) (r0 : Nat) (r1 : Nat) (r2 : Nat) (r3 : Nat) (vb4 : Value) (vb5 : Value) (wr00 : Value) (wr01 : Value) (wr02 : Value) (wr03 : Value) (wr10 : Value) (wr11 : Value) (wr12 : Value) (wr13 : Value) (wr20 : Value) (wr21 : Value) (wr22 : Value) (wr23 : Value) (wr30 : Value) (wr31 : Value) (wr32 : Value) (wr33 : Value) (tx : Nat) (ct : ClassId) (ft : Nat → Int32) (sz : Nat) : Met l yX5_parse wsX5_parse ({ frames := 2, cells := 0, slots := 0, locals := 42 }) (va_Pc [.ref rd, .ref tx, .int 0] (fun U => U.heap.size = sz ∧ va_P (dC, dI) vwCl [(rd, .inr (5, [.ref bo, vr1, vr2, vr3, vr4, vr5, vr6, vr7, vr8])), (bo, .inr (0, [.ref r0, .ref r1, .ref r2, .ref r3, vb4, vb5])), (r0, .inr (6, [wr00, wr01, wr02, wr03])), (r1, .inr (6, [wr10, wr11, wr12, wr13])), (r2, .inr (6, [wr20, wr21, wr22, wr23])), (r3, .inr (6, [wr30, wr31, wr32, wr33])), (tx, .inl (ct, 150, .inl ft))] U.heap ∧ va_K (dC, dI) vwCl [(ct, .byte)] U ∧ va_D (fun _ => True) [(rd, .inr (5, [.ref bo, vr1, vr2, vr3, vr4, vr5, vr6, vr7, vr8])), (bo, .inr (0, [.ref r0, .ref r1, .ref r2, .ref r3, vb4, vb5])), (r0, .inr (6, [wr00, wr01, wr02, wr03])), (r1, .inr (6, [wr10, wr11, wr12, wr13])), (r2, .inr (6, [wr20, wr21, wr22, wr23])), (r3, .inr (6, [wr30, wr31, wr32, wr33])), (tx, .inl (ct, 150, .inl ft))] ∧ tz_N U)) (va_Qi (fun (r : Int32) (_ : Unit) => r = 0) (fun _ t => va_P (dC, dI) vwCl [(rd, .inr (5, [.ref bo, .ref tx, .int 0, .int 0, .int 0, .int 0, vr6, .int 0, .int 0]))] t.heap ∧ va_K (dC, dI) vwCl [] t ∧ va_D (va_A [(rd, .inr (5, [.ref bo, vr1, vr2, vr3, vr4, vr5, vr6, vr7, vr8])), (bo, .inr (0, [.ref r0, .ref r1, .ref r2, .ref r3, vb4, vb5])), (r0, .inr (6, [wr00, wr01, wr02, wr03])), (r1, .inr (6, [wr10, wr11, wr12, wr13])), (r2, .inr (6, [wr20, wr21, wr22, wr23])), (r3, .inr (6, [wr30, wr31, wr32, wr33])), (tx, .inl (ct, 150, .inl ft))] sz) [(rd, .inr (5, [.ref bo, .ref tx, .int 0, .int 0, .int 0, .int 0, vr6, .int 0, .int 0]))]) (va_A [(rd, .inr (5, [.ref bo, vr1, vr2, vr3, vr4, vr5, vr6, vr7, vr8])), (bo, .inr (0, [.ref r0, .ref r1, .ref r2, .ref r3, vb4, vb5])), (r0, .inr (6, [wr00, wr01, wr02, wr03])), (r1, .inr (6, [wr10, wr11, wr12, wr13])), (r2, .inr (6, [wr20, wr21, wr22, wr23])), (r3, .inr (6, [wr30, wr31, wr32, wr33])), (tx, .inl (ct, 150, .inl ft))] sz)) 0 0 (va_A [(rd, .inr (5, [.ref bo, vr1, vr2, vr3, vr4, vr5, vr6, vr7, vr8])), (bo, .inr (0, [.ref r0, .ref r1, .ref r2, .ref r3, vb4, vb5])), (r0, .inr (6, [wr00, wr01, wr02, wr03])), (r1, .inr (6, [wr10, wr11, wr12, wr13])), (r2, .inr (6, [wr20, wr21, wr22, wr23])), (r3, .inr (6, [wr30, wr31, wr32, wr33])), (tx, .inl (ct, 150, .inl ft))] sz) := by
  refine Met.ofW (cc := cX5_parse) (maxL := 4) (ret := (some .boolean)) (by decide) rfl ?_
  intro p e s m args below meth c s₁ B hml hv
  obtain ⟨rfl, hsz, hP, hK, hD0, hN⟩ := hv
  have hx := B.exec
  have hb := B.bytes
  have hr := B.returns
  have hts := atoms_spec (ws := wsX5_parse) B.pre
  have hown : s.vm.findClass RX5 = some m.cls := findClass_of_methodNamed B.named
  have hlocks := B.notSynchronized
  subst hsz
  have hD := hD0.self (sz := s.heap.size)
  generalize hAe : va_A [(rd, .inr (5, [.ref bo, vr1, vr2, vr3, vr4, vr5, vr6, vr7, vr8])), (bo, .inr (0, [.ref r0, .ref r1, .ref r2, .ref r3, vb4, vb5])), (r0, .inr (6, [wr00, wr01, wr02, wr03])), (r1, .inr (6, [wr10, wr11, wr12, wr13])), (r2, .inr (6, [wr20, wr21, wr22, wr23])), (r3, .inr (6, [wr30, wr31, wr32, wr33])), (tx, .inl (ct, 150, .inl ft))] s.heap.size = A at hD ⊢
  have hA : ∀ q : Nat, s.heap.size ≤ q → A q := fun q h => by rw [← hAe]; exact Or.inr h
  have hS : va_S A s.heap s.heap [] := va_S.rf
  have hP : va_P (dC, dI) vwCl [(rd, .inr (5, [.ref bo, vr1, vr2, vr3, vr4, vr5, vr6, vr7, vr8])), (bo, .inr (0, [.ref r0, .ref r1, .ref r2, .ref r3, vb4, vb5])), (r0, .inr (6, [wr00, wr01, wr02, wr03])), (r1, .inr (6, [wr10, wr11, wr12, wr13])), (r2, .inr (6, [wr20, wr21, wr22, wr23])), (r3, .inr (6, [wr30, wr31, wr32, wr33])), (tx, .inl (ct, 150, .inl ft))] s.heap := hP
  have hl := lv_entry ([.ref rd, .ref tx, .int 0]) (n := 4) (Nat.le_of_ble_eq_true rfl)
  rw [lg_entry_eq]
  generalize (lg_sl ([.ref rd, .ref tx, .int 0]) ++ List.replicate (4 - (lg_sl ([.ref rd, .ref tx, .int 0])).length) Slot.unset).toArray = ls at hl ⊢
  have hl : lv_has ls 4 [(0, .ref rd), (1, .ref tx), (2, .int 0)] := hl
  refine lv_aload_n hx hb dX5_parse_0 rfl (lv_at hl 0 rfl) ?_
  refine lv_aload_n hx hb dX5_parse_1 rfl (lv_at hl 1 rfl) ?_
  refine va_put (D := (dC, dI)) (ci := 5) (v := .ref tx) (ty := .array .byte) (C := RX5) (T := TX5) (N := 9) hx hb hts iw_k_parse0_X5 tyX5 tyX5_ok nmX5 hown hK hP hD hS 0 rfl rfl 1 (by decide) (hts (.fieldLink RX5 18 "ThriceCounted$Reader" "text" "[B") (by decide +kernel)) (fun _ h9 => h9) rfl (by decide +kernel) rfl rfl (Nat.le_of_ble_eq_true rfl) dX5_parse_2 (fun H locs hP hD hS => ?_)
  have hP : va_P (dC, dI) vwCl [(rd, .inr (5, [.ref bo, .ref tx, vr2, vr3, vr4, vr5, vr6, vr7, vr8])), (bo, .inr (0, [.ref r0, .ref r1, .ref r2, .ref r3, vb4, vb5])), (r0, .inr (6, [wr00, wr01, wr02, wr03])), (r1, .inr (6, [wr10, wr11, wr12, wr13])), (r2, .inr (6, [wr20, wr21, wr22, wr23])), (r3, .inr (6, [wr30, wr31, wr32, wr33])), (tx, .inl (ct, 150, .inl ft))] H := hP
  have hD : va_D A [(rd, .inr (5, [.ref bo, .ref tx, vr2, vr3, vr4, vr5, vr6, vr7, vr8])), (bo, .inr (0, [.ref r0, .ref r1, .ref r2, .ref r3, vb4, vb5])), (r0, .inr (6, [wr00, wr01, wr02, wr03])), (r1, .inr (6, [wr10, wr11, wr12, wr13])), (r2, .inr (6, [wr20, wr21, wr22, wr23])), (r3, .inr (6, [wr30, wr31, wr32, wr33])), (tx, .inl (ct, 150, .inl ft))] := hD
  refine lv_aload_n hx hb dX5_parse_5 rfl (lv_at hl 0 rfl) ?_
  refine lv_iconst (v := 0) hx hb dX5_parse_6 (by decide) ?_
  refine lv_iload_n hx hb dX5_parse_7 rfl (lv_at hl 2 rfl) ?_
  refine lv_aload_n hx hb dX5_parse_8 rfl (lv_at hl 1 rfl) ?_
  refine va_alen (v := 150) hx hb hK hP 6 0 rfl rfl rfl dX5_parse_9 ?_
  refine va_mmin hx hb (hml.trans hl.1.symm) hown (hts (.methodLink RX5 45 Lib.Math.min.name) (by decide +kernel)) (hts (.static Lib.Math.min.name) (by decide +kernel)) (hts (.initialized "java/lang/Math") (by decide +kernel)) (hts (.code Lib.Math.min.name Lib.Math.min.code 2 (some .int)) (by decide +kernel)) (Nat.le_of_ble_eq_true rfl) (Nat.le_of_ble_eq_true rfl) (Nat.le_of_ble_eq_true rfl) (Nat.le_of_ble_eq_true rfl) dX5_parse_10 ?_
  refine tz_i 0 (by decide) ?_
  refine va_mmax hx hb (hml.trans hl.1.symm) hown (hts (.methodLink RX5 51 Lib.Math.max.name) (by decide +kernel)) (hts (.static Lib.Math.max.name) (by decide +kernel)) (hts (.initialized "java/lang/Math") (by decide +kernel)) (hts (.code Lib.Math.max.name Lib.Math.max.code 2 (some .int)) (by decide +kernel)) (Nat.le_of_ble_eq_true rfl) (Nat.le_of_ble_eq_true rfl) (Nat.le_of_ble_eq_true rfl) (Nat.le_of_ble_eq_true rfl) dX5_parse_13 ?_
  refine tz_i 0 (by decide) ?_
  refine va_put (D := (dC, dI)) (ci := 5) (v := .int 0) (ty := .int) (C := RX5) (T := TX5) (N := 9) hx hb hts iw_k_parse0_X5 tyX5 tyX5_ok nmX5 hown hK hP hD hS 0 rfl rfl 2 (by decide) (hts (.fieldLink RX5 22 "ThriceCounted$Reader" "length" "I") (by decide +kernel)) (fun _ h9 => h9) rfl (by decide +kernel) rfl rfl (Nat.le_of_ble_eq_true rfl) dX5_parse_16 (fun H locs hP hD hS => ?_)
  have hP : va_P (dC, dI) vwCl [(rd, .inr (5, [.ref bo, .ref tx, .int 0, vr3, vr4, vr5, vr6, vr7, vr8])), (bo, .inr (0, [.ref r0, .ref r1, .ref r2, .ref r3, vb4, vb5])), (r0, .inr (6, [wr00, wr01, wr02, wr03])), (r1, .inr (6, [wr10, wr11, wr12, wr13])), (r2, .inr (6, [wr20, wr21, wr22, wr23])), (r3, .inr (6, [wr30, wr31, wr32, wr33])), (tx, .inl (ct, 150, .inl ft))] H := hP
  have hD : va_D A [(rd, .inr (5, [.ref bo, .ref tx, .int 0, vr3, vr4, vr5, vr6, vr7, vr8])), (bo, .inr (0, [.ref r0, .ref r1, .ref r2, .ref r3, vb4, vb5])), (r0, .inr (6, [wr00, wr01, wr02, wr03])), (r1, .inr (6, [wr10, wr11, wr12, wr13])), (r2, .inr (6, [wr20, wr21, wr22, wr23])), (r3, .inr (6, [wr30, wr31, wr32, wr33])), (tx, .inl (ct, 150, .inl ft))] := hD
  refine lv_aload_n hx hb dX5_parse_19 rfl (lv_at hl 0 rfl) ?_
  refine lv_iconst (v := 0) hx hb dX5_parse_20 (by decide) ?_
  refine va_put (D := (dC, dI)) (ci := 5) (v := .int 0) (ty := .int) (C := RX5) (T := TX5) (N := 9) hx hb hts iw_k_parse0_X5 tyX5 tyX5_ok nmX5 hown hK hP hD hS 0 rfl rfl 3 (by decide) (hts (.fieldLink RX5 26 "ThriceCounted$Reader" "place" "I") (by decide +kernel)) (fun _ h9 => h9) rfl (by decide +kernel) rfl rfl (Nat.le_of_ble_eq_true rfl) dX5_parse_21 (fun H locs hP hD hS => ?_)
  have hP : va_P (dC, dI) vwCl [(rd, .inr (5, [.ref bo, .ref tx, .int 0, .int 0, vr4, vr5, vr6, vr7, vr8])), (bo, .inr (0, [.ref r0, .ref r1, .ref r2, .ref r3, vb4, vb5])), (r0, .inr (6, [wr00, wr01, wr02, wr03])), (r1, .inr (6, [wr10, wr11, wr12, wr13])), (r2, .inr (6, [wr20, wr21, wr22, wr23])), (r3, .inr (6, [wr30, wr31, wr32, wr33])), (tx, .inl (ct, 150, .inl ft))] H := hP
  have hD : va_D A [(rd, .inr (5, [.ref bo, .ref tx, .int 0, .int 0, vr4, vr5, vr6, vr7, vr8])), (bo, .inr (0, [.ref r0, .ref r1, .ref r2, .ref r3, vb4, vb5])), (r0, .inr (6, [wr00, wr01, wr02, wr03])), (r1, .inr (6, [wr10, wr11, wr12, wr13])), (r2, .inr (6, [wr20, wr21, wr22, wr23])), (r3, .inr (6, [wr30, wr31, wr32, wr33])), (tx, .inl (ct, 150, .inl ft))] := hD
  refine lv_aload_n hx hb dX5_parse_24 rfl (lv_at hl 0 rfl) ?_
  refine lv_iconst (v := 0) hx hb dX5_parse_25 (by decide) ?_
  refine va_put (D := (dC, dI)) (ci := 5) (v := .int 0) (ty := .int) (C := RX5) (T := TX5) (N := 9) hx hb hts iw_k_parse0_X5 tyX5 tyX5_ok nmX5 hown hK hP hD hS 0 rfl rfl 7 (by decide) (hts (.fieldLink RX5 38 "ThriceCounted$Reader" "items" "I") (by decide +kernel)) (fun _ h9 => h9) rfl (by decide +kernel) rfl rfl (Nat.le_of_ble_eq_true rfl) dX5_parse_26 (fun H locs hP hD hS => ?_)
  have hP : va_P (dC, dI) vwCl [(rd, .inr (5, [.ref bo, .ref tx, .int 0, .int 0, vr4, vr5, vr6, .int 0, vr8])), (bo, .inr (0, [.ref r0, .ref r1, .ref r2, .ref r3, vb4, vb5])), (r0, .inr (6, [wr00, wr01, wr02, wr03])), (r1, .inr (6, [wr10, wr11, wr12, wr13])), (r2, .inr (6, [wr20, wr21, wr22, wr23])), (r3, .inr (6, [wr30, wr31, wr32, wr33])), (tx, .inl (ct, 150, .inl ft))] H := hP
  have hD : va_D A [(rd, .inr (5, [.ref bo, .ref tx, .int 0, .int 0, vr4, vr5, vr6, .int 0, vr8])), (bo, .inr (0, [.ref r0, .ref r1, .ref r2, .ref r3, vb4, vb5])), (r0, .inr (6, [wr00, wr01, wr02, wr03])), (r1, .inr (6, [wr10, wr11, wr12, wr13])), (r2, .inr (6, [wr20, wr21, wr22, wr23])), (r3, .inr (6, [wr30, wr31, wr32, wr33])), (tx, .inl (ct, 150, .inl ft))] := hD
  refine lv_aload_n hx hb dX5_parse_29 rfl (lv_at hl 0 rfl) ?_
  refine lv_iconst (v := 0) hx hb dX5_parse_30 (by decide) ?_
  refine va_put (D := (dC, dI)) (ci := 5) (v := .int 0) (ty := .boolean) (C := RX5) (T := TX5) (N := 9) hx hb hts iw_k_parse0_X5 tyX5 tyX5_ok nmX5 hown hK hP hD hS 0 rfl rfl 8 (by decide) (hts (.fieldLink RX5 41 "ThriceCounted$Reader" "faulty" "Z") (by decide +kernel)) (fun _ h9 => h9) rfl (by decide +kernel) rfl rfl (Nat.le_of_ble_eq_true rfl) dX5_parse_31 (fun H locs hP hD hS => ?_)
  have hP : va_P (dC, dI) vwCl [(rd, .inr (5, [.ref bo, .ref tx, .int 0, .int 0, vr4, vr5, vr6, .int 0, .int 0])), (bo, .inr (0, [.ref r0, .ref r1, .ref r2, .ref r3, vb4, vb5])), (r0, .inr (6, [wr00, wr01, wr02, wr03])), (r1, .inr (6, [wr10, wr11, wr12, wr13])), (r2, .inr (6, [wr20, wr21, wr22, wr23])), (r3, .inr (6, [wr30, wr31, wr32, wr33])), (tx, .inl (ct, 150, .inl ft))] H := hP
  have hD : va_D A [(rd, .inr (5, [.ref bo, .ref tx, .int 0, .int 0, vr4, vr5, vr6, .int 0, .int 0])), (bo, .inr (0, [.ref r0, .ref r1, .ref r2, .ref r3, vb4, vb5])), (r0, .inr (6, [wr00, wr01, wr02, wr03])), (r1, .inr (6, [wr10, wr11, wr12, wr13])), (r2, .inr (6, [wr20, wr21, wr22, wr23])), (r3, .inr (6, [wr30, wr31, wr32, wr33])), (tx, .inl (ct, 150, .inl ft))] := hD
  refine lv_aload_n hx hb dX5_parse_34 rfl (lv_at hl 0 rfl) ?_
  refine va_get (D := (dC, dI)) (ci := 5) (v := .ref bo) (C := RX5) (T := TX5) (N := 9) hx hb hts iw_k_parse0_X5 hown hK hP 0 rfl rfl 0 (by decide) (hts (.fieldLink RX5 12 "ThriceCounted$Reader" "draft" "LThriceCounted$Bank;") (by decide +kernel)) (fun _ h9 => h9) rfl dX5_parse_35 ?_
  have hPc := hP.sub (ws' := [(bo, .inr (0, [.ref r0, .ref r1, .ref r2, .ref r3, vb4, vb5])), (r0, .inr (6, [wr00, wr01, wr02, wr03])), (r1, .inr (6, [wr10, wr11, wr12, wr13])), (r2, .inr (6, [wr20, wr21, wr22, wr23])), (r3, .inr (6, [wr30, wr31, wr32, wr33]))]) [1, 2, 3, 4, 5] rfl
  have hDc := hD.sub (ws' := [(bo, .inr (0, [.ref r0, .ref r1, .ref r2, .ref r3, vb4, vb5])), (r0, .inr (6, [wr00, wr01, wr02, wr03])), (r1, .inr (6, [wr10, wr11, wr12, wr13])), (r2, .inr (6, [wr20, wr21, wr22, wr23])), (r3, .inr (6, [wr30, wr31, wr32, wr33]))]) [1, 2, 3, 4, 5] (by decide) rfl
  have hKc := hK.sub (tys' := []) [] rfl
  have hFc := va_free (wc := [(bo, .inr (0, [.ref r0, .ref r1, .ref r2, .ref r3, vb4, vb5])), (r0, .inr (6, [wr00, wr01, wr02, wr03])), (r1, .inr (6, [wr10, wr11, wr12, wr13])), (r2, .inr (6, [wr20, wr21, wr22, wr23])), (r3, .inr (6, [wr30, wr31, wr32, wr33]))]) hD hS hA [1, 2, 3, 4, 5] rfl
  refine va_callv (va_runV (As := []) (rest := []) ⟨hx, hb, hml, hown, hts⟩ (k_bempty l dC dI bo r0 r1 r2 r3 vb4 vb5 wr00 wr01 wr02 wr03 wr10 wr11 wr12 wr13 wr20 wr21 wr22 wr23 wr30 wr31 wr32 wr33 H.size) (cwV 0 hts gX5_parse_X0_empty rfl rfl rfl (by decide +kernel) ⟨Nat.le_of_ble_eq_true rfl, Nat.le_of_ble_eq_true rfl⟩) ⟨fun a U g mk q => by obtain ⟨q0, q1, qP, qK, qD⟩ := q; exact ⟨q0, q1, qP, va_K.moved (u := U) (U := U.calling g mk a) (Vm.Alike.refl U.vm) qK, qD⟩, va_recv hK hP (ci := 0) (q0 := 1) rfl rfl, fun U hU hW => ⟨rfl, by rw [hU], by rw [hU]; exact hPc, va_K.moved hW.alike hKc, hDc.weaken (fun _ _ _ _ => trivial)⟩⟩ rfl rfl hl.1 rfl (lv_room (Nat.le_of_ble_eq_true rfl)) dX5_parse_38 ⟨Nat.le_of_ble_eq_true rfl, Nat.le_of_ble_eq_true rfl⟩) hS (fun q _ h => hFc q h) hFc (fun u_ t H1 locs ht hvm hw_2 hB hz1 hk1 hS => ?_)
  obtain ⟨hP, hD⟩ := va_join (wr := [(rd, .inr (5, [.ref bo, .ref tx, .int 0, .int 0, vr4, vr5, vr6, .int 0, .int 0])), (tx, .inl (ct, 150, .inl ft))]) (w1 := []) hP hD [1, 2, 3, 4, 5] [0, 6] rfl rfl (by decide) (by decide) hk1 hFc tz_P0 tz_D0
  generalize H1 = H at hP hS ⊢
  have hP : va_P (dC, dI) vwCl [(rd, .inr (5, [.ref bo, .ref tx, .int 0, .int 0, vr4, vr5, vr6, .int 0, .int 0])), (tx, .inl (ct, 150, .inl ft))] H := hP
  have hD : va_D A [(rd, .inr (5, [.ref bo, .ref tx, .int 0, .int 0, vr4, vr5, vr6, .int 0, .int 0])), (tx, .inl (ct, 150, .inl ft))] := hD
  refine lv_aload_n hx hb dX5_parse_41 rfl (lv_at hl 0 rfl) ?_
  have hPc := hP.sub (ws' := [(rd, .inr (5, [.ref bo, .ref tx, .int 0, .int 0, vr4, vr5, vr6, .int 0, .int 0]))]) [0] rfl
  have hDc := hD.sub (ws' := [(rd, .inr (5, [.ref bo, .ref tx, .int 0, .int 0, vr4, vr5, vr6, .int 0, .int 0]))]) [0] (by decide) rfl
  have hKc := hK.sub (tys' := []) [] rfl
  have hFc := va_free (wc := [(rd, .inr (5, [.ref bo, .ref tx, .int 0, .int 0, vr4, vr5, vr6, .int 0, .int 0]))]) hD hS hA [0] rfl
  refine va_callv (va_runV (As := []) (rest := []) ⟨hx, hb, hml, hown, hts⟩ (k_step0 l dC dI rd (.ref bo) (.ref tx) vr4 vr5 vr6 (.int 0) (.int 0) H.size) (cwV 0 hts gX5_parse_X5_step rfl rfl rfl (by decide +kernel) ⟨Nat.le_of_ble_eq_true rfl, Nat.le_of_ble_eq_true rfl⟩) ⟨fun a U g mk q => by obtain ⟨q0, q1, qP, qK, qD⟩ := q; exact ⟨q0, q1, qP, va_K.moved (u := U) (U := U.calling g mk a) (Vm.Alike.refl U.vm) qK, qD⟩, va_recv hK hP (ci := 5) (q0 := 0) rfl rfl, fun U hU hW => ⟨rfl, by rw [hU], by rw [hU]; exact hPc, va_K.moved hW.alike hKc, hDc.weaken (fun _ _ _ _ => trivial)⟩⟩ rfl rfl hl.1 rfl (lv_room (Nat.le_of_ble_eq_true rfl)) dX5_parse_42 ⟨Nat.le_of_ble_eq_true rfl, Nat.le_of_ble_eq_true rfl⟩) hS (fun q _ h => hFc q h) hFc (fun u_ t H1 locs ht hvm hw_4 hB hz1 hk1 hS => ?_)
  obtain ⟨hP1, hK1, hD1⟩ := hB
  rw [ht] at hP1
  have hK1 := va_K.moved hvm.symm hK1
  obtain ⟨hP, hD⟩ := va_join (wr := [(tx, .inl (ct, 150, .inl ft))]) (w1 := [(rd, .inr (5, [.ref bo, .ref tx, .int 0, .int 0, .int 0, .int 0, vr6, .int 0, .int 0]))]) hP hD [0] [1] rfl rfl (by decide) (by decide) hk1 hFc hP1 hD1
  generalize H1 = H at hP hS ⊢
  have hP : va_P (dC, dI) vwCl [(tx, .inl (ct, 150, .inl ft)), (rd, .inr (5, [.ref bo, .ref tx, .int 0, .int 0, .int 0, .int 0, vr6, .int 0, .int 0]))] H := hP
  have hD : va_D A [(tx, .inl (ct, 150, .inl ft)), (rd, .inr (5, [.ref bo, .ref tx, .int 0, .int 0, .int 0, .int 0, vr6, .int 0, .int 0]))] := hD
  refine lv_aload_n hx hb dX5_parse_45 rfl (lv_at hl 0 rfl) ?_
  obtain ⟨qs, hqs⟩ := hN.2.2.2.2
  refine va_ldcS hx hb hown hqs dX5_parse_46 ?_
  have hPc_5 := hP.sub (ws' := [(rd, .inr (5, [.ref bo, .ref tx, .int 0, .int 0, .int 0, .int 0, vr6, .int 0, .int 0]))]) [1] rfl
  have hKc_6 := hK.sub (tys' := []) [] rfl
  refine vp_callSi (va_Run.run (va_runV (As := [.ref qs]) (rest := []) ⟨hx, hb, hml, hown, hts⟩ (k_isWord0 l dC dI rd (.ref bo) (.ref tx) (.int 0) (.int 0) (.int 0) vr6 (.int 0) (.int 0) qs) (cwV 1 hts gX5_parse_X5_isWord rfl rfl rfl (by decide +kernel) ⟨Nat.le_of_ble_eq_true rfl, Nat.le_of_ble_eq_true rfl⟩) ⟨fun a U g mk q => by obtain ⟨q0, qP, qK⟩ := q; exact ⟨q0, qP, va_K.moved (u := U) (U := U.calling g mk a) (Vm.Alike.refl U.vm) qK⟩, va_recv hK hP (ci := 5) (q0 := 1) rfl rfl, fun U hU hW => ⟨rfl, by rw [hU]; exact hPc_5, va_K.moved hW.alike hKc_6⟩⟩ rfl rfl hl.1 rfl (lv_room (Nat.le_of_ble_eq_true rfl)) dX5_parse_48 ⟨Nat.le_of_ble_eq_true rfl, Nat.le_of_ble_eq_true rfl⟩)) (fun r_7 hw_8 => ?_)
  obtain rfl : 0 = r_7 := hw_8.symm
  refine lv_if_ne (tgt := 56) hx hb dX5_parse_51 (by decide) (fun c_9 => ?_) (fun c_9 => ?_)
  · exact absurd c_9 (by decide)
  · refine lv_iconst (v := 0) hx hb dX5_parse_54 (by decide) ?_
    have hP9 := hP.sub (ws' := [(rd, .inr (5, [.ref bo, .ref tx, .int 0, .int 0, .int 0, .int 0, vr6, .int 0, .int 0]))]) [1] rfl
    have hD9 := hD.sub (ws' := [(rd, .inr (5, [.ref bo, .ref tx, .int 0, .int 0, .int 0, .int 0, vr6, .int 0, .int 0]))]) [1] (by decide) rfl
    have hK9 := hK.sub (tys' := []) [] rfl
    exact W.zret (v := 0) hx hb hr (by decide) (fun t ht hW => ⟨⟨0, (), rfl, rfl, by rw [ht]; exact hP9, va_K.moved hW.alike hK9, hD9⟩, hS.F ht⟩) hS.2.2 dX5_parse_55
theorem dX5_fault_0 : decode cX5_fault 0 = .ok (.aload_n 0, 1) := by decide +kernel
theorem dX5_fault_1 : decode cX5_fault 1 = .ok (.getfield 32, 3) := by decide +kernel
theorem dX5_fault_4 : decode cX5_fault 4 = .ok (.ireturn, 1) := by decide +kernel
set_option maxRecDepth 20000 in
theorem iw_k_fault_X5 : ∀ w ∈ wsX50, w ∈ wsX5_fault := by decide +kernel
set_option maxHeartbeats 4000000 in
set_option maxRecDepth 100000 in
theorem k_fault (l : Launch) (dC : Nat → ClassId) (dI : Nat → Nat → Nat) (rd : Nat) (vr0 : Value) (vr1 : Value) (vr2 : Value) (vr3 : Value) (vr4 : Value) (nz : Int32) (vr6 : Value) (vr7 : Value) (vr8 : Value) : Met l yX5_fault wsX5_fault ({ frames := 0, cells := 0, slots := 0, locals := 0 }) (va_Pc [.ref rd] (fun U => va_P (dC, dI) vwCl [(rd, .inr (5, [vr0, vr1, vr2, vr3, vr4, .int nz, vr6, vr7, vr8]))] U.heap ∧ va_K (dC, dI) vwCl [] U)) (vp_Si (fun r => r = nz)) 0 0 (fun _ => False) := by
  refine Met.ofW (cc := cX5_fault) (maxL := 1) (ret := (some .int)) (by decide) rfl ?_
  intro p e s m args below meth c s₁ B hml hv
  obtain ⟨rfl, hP, hK⟩ := hv
  have hx := B.exec
  have hb := B.bytes
  have hr := B.returns
  have hts := atoms_spec (ws := wsX5_fault) B.pre
  have hown : s.vm.findClass RX5 = some m.cls := findClass_of_methodNamed B.named
  have hlocks := B.notSynchronized
  have hl := lv_entry ([.ref rd]) (n := 1) (Nat.le_of_ble_eq_true rfl)
  rw [lg_entry_eq]
  generalize (lg_sl ([.ref rd]) ++ List.replicate (1 - (lg_sl ([.ref rd])).length) Slot.unset).toArray = ls at hl ⊢
  have hl : lv_has ls 1 [(0, .ref rd)] := hl
  refine lv_aload_n hx hb dX5_fault_0 rfl (lv_at hl 0 rfl) ?_
  refine va_get (D := (dC, dI)) (ci := 5) (v := .int nz) (C := RX5) (T := TX5) (N := 9) hx hb hts iw_k_fault_X5 hown hK hP 0 rfl rfl 5 (by decide) (hts (.fieldLink RX5 32 "ThriceCounted$Reader" "start" "I") (by decide +kernel)) (fun _ h9 => h9) rfl dX5_fault_1 ?_
  exact W.iret (v := nz) hx hb hr (fun t ht hW => ⟨nz, rfl, rfl, ht⟩) (fun _ h => absurd h List.not_mem_nil) dX5_fault_4
