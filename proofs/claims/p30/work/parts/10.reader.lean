theorem dX5_isLetter_0 : decode cX5_isLetter 0 = .ok (.iload_n 0, 1) := by decide +kernel
theorem dX5_isLetter_1 : decode cX5_isLetter 1 = .ok (.bipush 97, 2) := by decide +kernel
theorem dX5_isLetter_3 : decode cX5_isLetter 3 = .ok (.if_icmp .lt 13, 3) := by decide +kernel
theorem dX5_isLetter_16 : decode cX5_isLetter 16 = .ok (.iconst 0, 1) := by decide +kernel
theorem dX5_isLetter_17 : decode cX5_isLetter 17 = .ok (.ireturn, 1) := by decide +kernel
theorem dX5_isLetter_6 : decode cX5_isLetter 6 = .ok (.iload_n 0, 1) := by decide +kernel
theorem dX5_isLetter_7 : decode cX5_isLetter 7 = .ok (.bipush 122, 2) := by decide +kernel
theorem dX5_isLetter_9 : decode cX5_isLetter 9 = .ok (.if_icmp .gt 7, 3) := by decide +kernel
theorem dX5_isLetter_12 : decode cX5_isLetter 12 = .ok (.iconst 1, 1) := by decide +kernel
theorem dX5_isLetter_13 : decode cX5_isLetter 13 = .ok (.goto 4, 3) := by decide +kernel
set_option maxHeartbeats 4000000 in
set_option maxRecDepth 100000 in
theorem d_isLetter (l : Launch) (dC : Nat → ClassId) (dI : Nat → Nat → Nat) (na : Int32) : Met l yX5_isLetter wsX5_isLetter ({ frames := 0, cells := 0, slots := 0, locals := 0 }) (va_Pc [.int na] (fun _ => True)) (vp_Si (fun r => r = 0 ∨ r = 1)) 0 0 (fun _ => False) := by
  refine Met.ofW (cc := cX5_isLetter) (maxL := 1) (ret := (some .boolean)) (by decide) rfl ?_
  intro p e s m args below meth c s₁ B hml hv
  obtain ⟨rfl, -⟩ := hv
  have hx := B.exec
  have hb := B.bytes
  have hr := B.returns
  have hts := atoms_spec (ws := wsX5_isLetter) B.pre
  have hown : s.vm.findClass RX5 = some m.cls := findClass_of_methodNamed B.named
  have hlocks := B.notSynchronized
  have hl := lv_entry ([.int na]) (n := 1) (Nat.le_of_ble_eq_true rfl)
  rw [lg_entry_eq]
  generalize (lg_sl ([.int na]) ++ List.replicate (1 - (lg_sl ([.int na])).length) Slot.unset).toArray = ls at hl ⊢
  have hl : lv_has ls 1 [(0, .int na)] := hl
  refine lv_iload_n hx hb dX5_isLetter_0 rfl (lv_at hl 0 rfl) ?_
  refine lv_bipush (v := 97) hx hb dX5_isLetter_1 (by decide) ?_
  refine lv_icmp_lt (tgt := 16) hx hb dX5_isLetter_3 (by decide) (fun c_1 => ?_) (fun c_1 => ?_)
  · refine lv_iconst (v := 0) hx hb dX5_isLetter_16 (by decide) ?_
    exact W.zret (v := 0) hx hb hr (by decide) (fun t ht hW => ⟨0, rfl, Or.inl rfl, ht⟩) (fun _ h => absurd h List.not_mem_nil) dX5_isLetter_17
  · refine lv_iload_n hx hb dX5_isLetter_6 rfl (lv_at hl 0 rfl) ?_
    refine lv_bipush (v := 122) hx hb dX5_isLetter_7 (by decide) ?_
    refine lv_icmp_gt (tgt := 16) hx hb dX5_isLetter_9 (by decide) (fun c_2 => ?_) (fun c_2 => ?_)
    · refine lv_iconst (v := 0) hx hb dX5_isLetter_16 (by decide) ?_
      exact W.zret (v := 0) hx hb hr (by decide) (fun t ht hW => ⟨0, rfl, Or.inl rfl, ht⟩) (fun _ h => absurd h List.not_mem_nil) dX5_isLetter_17
    · refine lv_iconst (v := 1) hx hb dX5_isLetter_12 (by decide) ?_
      refine lv_goto (tgt := 17) hx hb dX5_isLetter_13 (by decide) ?_
      exact W.zret (v := 1) hx hb hr (by decide) (fun t ht hW => ⟨1, rfl, Or.inr rfl, ht⟩) (fun _ h => absurd h List.not_mem_nil) dX5_isLetter_17
theorem dX5_isFigure_0 : decode cX5_isFigure 0 = .ok (.iload_n 0, 1) := by decide +kernel
theorem dX5_isFigure_1 : decode cX5_isFigure 1 = .ok (.bipush 48, 2) := by decide +kernel
theorem dX5_isFigure_3 : decode cX5_isFigure 3 = .ok (.if_icmp .lt 13, 3) := by decide +kernel
theorem dX5_isFigure_16 : decode cX5_isFigure 16 = .ok (.iconst 0, 1) := by decide +kernel
theorem dX5_isFigure_17 : decode cX5_isFigure 17 = .ok (.ireturn, 1) := by decide +kernel
theorem dX5_isFigure_6 : decode cX5_isFigure 6 = .ok (.iload_n 0, 1) := by decide +kernel
theorem dX5_isFigure_7 : decode cX5_isFigure 7 = .ok (.bipush 57, 2) := by decide +kernel
theorem dX5_isFigure_9 : decode cX5_isFigure 9 = .ok (.if_icmp .gt 7, 3) := by decide +kernel
theorem dX5_isFigure_12 : decode cX5_isFigure 12 = .ok (.iconst 1, 1) := by decide +kernel
theorem dX5_isFigure_13 : decode cX5_isFigure 13 = .ok (.goto 4, 3) := by decide +kernel
set_option maxHeartbeats 4000000 in
set_option maxRecDepth 100000 in
theorem d_isFigure (l : Launch) (dC : Nat → ClassId) (dI : Nat → Nat → Nat) (na : Int32) : Met l yX5_isFigure wsX5_isFigure ({ frames := 0, cells := 0, slots := 0, locals := 0 }) (va_Pc [.int na] (fun _ => True)) (vp_Si (fun r => r = 0 ∨ r = 1)) 0 0 (fun _ => False) := by
  refine Met.ofW (cc := cX5_isFigure) (maxL := 1) (ret := (some .boolean)) (by decide) rfl ?_
  intro p e s m args below meth c s₁ B hml hv
  obtain ⟨rfl, -⟩ := hv
  have hx := B.exec
  have hb := B.bytes
  have hr := B.returns
  have hts := atoms_spec (ws := wsX5_isFigure) B.pre
  have hown : s.vm.findClass RX5 = some m.cls := findClass_of_methodNamed B.named
  have hlocks := B.notSynchronized
  have hl := lv_entry ([.int na]) (n := 1) (Nat.le_of_ble_eq_true rfl)
  rw [lg_entry_eq]
  generalize (lg_sl ([.int na]) ++ List.replicate (1 - (lg_sl ([.int na])).length) Slot.unset).toArray = ls at hl ⊢
  have hl : lv_has ls 1 [(0, .int na)] := hl
  refine lv_iload_n hx hb dX5_isFigure_0 rfl (lv_at hl 0 rfl) ?_
  refine lv_bipush (v := 48) hx hb dX5_isFigure_1 (by decide) ?_
  refine lv_icmp_lt (tgt := 16) hx hb dX5_isFigure_3 (by decide) (fun c_1 => ?_) (fun c_1 => ?_)
  · refine lv_iconst (v := 0) hx hb dX5_isFigure_16 (by decide) ?_
    exact W.zret (v := 0) hx hb hr (by decide) (fun t ht hW => ⟨0, rfl, Or.inl rfl, ht⟩) (fun _ h => absurd h List.not_mem_nil) dX5_isFigure_17
  · refine lv_iload_n hx hb dX5_isFigure_6 rfl (lv_at hl 0 rfl) ?_
    refine lv_bipush (v := 57) hx hb dX5_isFigure_7 (by decide) ?_
    refine lv_icmp_gt (tgt := 16) hx hb dX5_isFigure_9 (by decide) (fun c_2 => ?_) (fun c_2 => ?_)
    · refine lv_iconst (v := 0) hx hb dX5_isFigure_16 (by decide) ?_
      exact W.zret (v := 0) hx hb hr (by decide) (fun t ht hW => ⟨0, rfl, Or.inl rfl, ht⟩) (fun _ h => absurd h List.not_mem_nil) dX5_isFigure_17
    · refine lv_iconst (v := 1) hx hb dX5_isFigure_12 (by decide) ?_
      refine lv_goto (tgt := 17) hx hb dX5_isFigure_13 (by decide) ?_
      exact W.zret (v := 1) hx hb hr (by decide) (fun t ht hW => ⟨1, rfl, Or.inr rfl, ht⟩) (fun _ h => absurd h List.not_mem_nil) dX5_isFigure_17
theorem dX5_at_0 : decode cX5_at 0 = .ok (.iload_n 1, 1) := by decide +kernel
theorem dX5_at_1 : decode cX5_at 1 = .ok (.ifCond .lt 29, 3) := by decide +kernel
theorem dX5_at_30 : decode cX5_at 30 = .ok (.iconst (-1), 1) := by decide +kernel
theorem dX5_at_31 : decode cX5_at 31 = .ok (.ireturn, 1) := by decide +kernel
theorem dX5_at_4 : decode cX5_at 4 = .ok (.iload_n 1, 1) := by decide +kernel
theorem dX5_at_5 : decode cX5_at 5 = .ok (.aload_n 0, 1) := by decide +kernel
theorem dX5_at_6 : decode cX5_at 6 = .ok (.getfield 22, 3) := by decide +kernel
theorem dX5_at_9 : decode cX5_at 9 = .ok (.if_icmp .ge 21, 3) := by decide +kernel
theorem dX5_at_12 : decode cX5_at 12 = .ok (.iload_n 1, 1) := by decide +kernel
theorem dX5_at_13 : decode cX5_at 13 = .ok (.aload_n 0, 1) := by decide +kernel
theorem dX5_at_14 : decode cX5_at 14 = .ok (.getfield 18, 3) := by decide +kernel
theorem dX5_at_17 : decode cX5_at 17 = .ok (.arraylength, 1) := by decide +kernel
theorem dX5_at_18 : decode cX5_at 18 = .ok (.if_icmp .ge 12, 3) := by decide +kernel
theorem dX5_at_21 : decode cX5_at 21 = .ok (.aload_n 0, 1) := by decide +kernel
theorem dX5_at_22 : decode cX5_at 22 = .ok (.getfield 18, 3) := by decide +kernel
theorem dX5_at_25 : decode cX5_at 25 = .ok (.iload_n 1, 1) := by decide +kernel
theorem dX5_at_26 : decode cX5_at 26 = .ok (.baload, 1) := by decide +kernel
theorem dX5_at_27 : decode cX5_at 27 = .ok (.goto 4, 3) := by decide +kernel
set_option maxRecDepth 20000 in
theorem iw_d_at_X5 : ∀ w ∈ wsX50, w ∈ wsX5_at := by decide +kernel
set_option maxHeartbeats 4000000 in
set_option maxRecDepth 100000 in
theorem d_at (l : Launch) (dC : Nat → ClassId) (dI : Nat → Nat → Nat) (rd : Nat) (ad : Nat → Nat) (tx : Nat) (nl_ : Int32) (np_ : Int32) (nk_ : Int32) (ns_ : Int32) (nv_ : Int32) (ni_ : Int32) (nf_ : Int32) (ctx : ClassId) (fx : Nat → Int32) (na : Int32) : Met l yX5_at wsX5_at ({ frames := 0, cells := 0, slots := 0, locals := 0 }) (va_Pc [.ref rd, .int na] (fun U => va_P (dC, dI) vwCl [(rd, .inr (5, [.ref (ad 0), .ref tx, .int nl_, .int np_, .int nk_, .int ns_, .int nv_, .int ni_, .int nf_])), (tx, .inl (ctx, 150, .inl fx))] U.heap ∧ va_K (dC, dI) vwCl [(ctx, .byte)] U)) (vp_Si (fun r => True)) 0 0 (fun _ => False) := by
  refine Met.ofW (cc := cX5_at) (maxL := 2) (ret := (some .int)) (by decide) rfl ?_
  intro p e s m args below meth c s₁ B hml hv
  obtain ⟨rfl, hP, hK⟩ := hv
  have hx := B.exec
  have hb := B.bytes
  have hr := B.returns
  have hts := atoms_spec (ws := wsX5_at) B.pre
  have hown : s.vm.findClass RX5 = some m.cls := findClass_of_methodNamed B.named
  have hlocks := B.notSynchronized
  have hl := lv_entry ([.ref rd, .int na]) (n := 2) (Nat.le_of_ble_eq_true rfl)
  rw [lg_entry_eq]
  generalize (lg_sl ([.ref rd, .int na]) ++ List.replicate (2 - (lg_sl ([.ref rd, .int na])).length) Slot.unset).toArray = ls at hl ⊢
  have hl : lv_has ls 2 [(0, .ref rd), (1, .int na)] := hl
  refine lv_iload_n hx hb dX5_at_0 rfl (lv_at hl 1 rfl) ?_
  refine lv_if_lt (tgt := 30) hx hb dX5_at_1 (by decide) (fun c_1 => ?_) (fun c_1 => ?_)
  · refine lv_iconst (v := (-1)) hx hb dX5_at_30 (by decide) ?_
    exact W.iret (v := (-1)) hx hb hr (fun t ht hW => ⟨(-1), rfl, trivial, ht⟩) (fun _ h => absurd h List.not_mem_nil) dX5_at_31
  · refine lv_iload_n hx hb dX5_at_4 rfl (lv_at hl 1 rfl) ?_
    refine lv_aload_n hx hb dX5_at_5 rfl (lv_at hl 0 rfl) ?_
    refine va_get (D := (dC, dI)) (ci := 5) (v := .int nl_) (C := RX5) (T := TX5) (N := 9) hx hb hts iw_d_at_X5 hown hK hP 0 rfl rfl 2 (by decide) (hts (.fieldLink RX5 22 "ThriceCounted$Reader" "length" "I") (by decide +kernel)) (fun _ h9 => h9) rfl dX5_at_6 ?_
    refine lv_icmp_ge (tgt := 30) hx hb dX5_at_9 (by decide) (fun c_2 => ?_) (fun c_2 => ?_)
    · refine lv_iconst (v := (-1)) hx hb dX5_at_30 (by decide) ?_
      exact W.iret (v := (-1)) hx hb hr (fun t ht hW => ⟨(-1), rfl, trivial, ht⟩) (fun _ h => absurd h List.not_mem_nil) dX5_at_31
    · refine lv_iload_n hx hb dX5_at_12 rfl (lv_at hl 1 rfl) ?_
      refine lv_aload_n hx hb dX5_at_13 rfl (lv_at hl 0 rfl) ?_
      refine va_get (D := (dC, dI)) (ci := 5) (v := .ref tx) (C := RX5) (T := TX5) (N := 9) hx hb hts iw_d_at_X5 hown hK hP 0 rfl rfl 1 (by decide) (hts (.fieldLink RX5 18 "ThriceCounted$Reader" "text" "[B") (by decide +kernel)) (fun _ h9 => h9) rfl dX5_at_14 ?_
      refine va_alen (v := 150) hx hb hK hP 1 0 rfl rfl rfl dX5_at_17 ?_
      refine lv_icmp_ge (tgt := 30) hx hb dX5_at_18 (by decide) (fun c_3 => ?_) (fun c_3 => ?_)
      · refine lv_iconst (v := (-1)) hx hb dX5_at_30 (by decide) ?_
        exact W.iret (v := (-1)) hx hb hr (fun t ht hW => ⟨(-1), rfl, trivial, ht⟩) (fun _ h => absurd h List.not_mem_nil) dX5_at_31
      · refine lv_aload_n hx hb dX5_at_21 rfl (lv_at hl 0 rfl) ?_
        refine va_get (D := (dC, dI)) (ci := 5) (v := .ref tx) (C := RX5) (T := TX5) (N := 9) hx hb hts iw_d_at_X5 hown hK hP 0 rfl rfl 1 (by decide) (hts (.fieldLink RX5 18 "ThriceCounted$Reader" "text" "[B") (by decide +kernel)) (fun _ h9 => h9) rfl dX5_at_22 ?_
        refine lv_iload_n hx hb dX5_at_25 rfl (lv_at hl 1 rfl) ?_
        refine va_bald hx hb hK hP 1 0 rfl rfl (tz_in_le c_1 c_3 (M := 150) (by decide)) dX5_at_26 ?_
        refine lv_topi (fun x_4 _ => ?_)
        refine lv_goto (tgt := 31) hx hb dX5_at_27 (by decide) ?_
        exact W.iret (v := x_4) hx hb hr (fun t ht hW => ⟨x_4, rfl, trivial, ht⟩) (fun _ h => absurd h List.not_mem_nil) dX5_at_31
theorem dX5_fault_0 : decode cX5_fault 0 = .ok (.aload_n 0, 1) := by decide +kernel
theorem dX5_fault_1 : decode cX5_fault 1 = .ok (.getfield 32, 3) := by decide +kernel
theorem dX5_fault_4 : decode cX5_fault 4 = .ok (.ireturn, 1) := by decide +kernel
set_option maxRecDepth 20000 in
theorem iw_d_fault_X5 : ∀ w ∈ wsX50, w ∈ wsX5_fault := by decide +kernel
set_option maxHeartbeats 4000000 in
set_option maxRecDepth 100000 in
theorem d_fault (l : Launch) (dC : Nat → ClassId) (dI : Nat → Nat → Nat) (rd : Nat) (ad : Nat → Nat) (tx : Nat) (nl_ : Int32) (np_ : Int32) (nk_ : Int32) (ns_ : Int32) (nv_ : Int32) (ni_ : Int32) (nf_ : Int32) (ctx : ClassId) (fx : Nat → Int32) : Met l yX5_fault wsX5_fault ({ frames := 0, cells := 0, slots := 0, locals := 0 }) (va_Pc [.ref rd] (fun U => va_P (dC, dI) vwCl [(rd, .inr (5, [.ref (ad 0), .ref tx, .int nl_, .int np_, .int nk_, .int ns_, .int nv_, .int ni_, .int nf_])), (tx, .inl (ctx, 150, .inl fx))] U.heap ∧ va_K (dC, dI) vwCl [(ctx, .byte)] U)) (vp_Si (fun r => True)) 0 0 (fun _ => False) := by
  refine Met.ofW (cc := cX5_fault) (maxL := 1) (ret := (some .int)) (by decide) rfl ?_
  intro p e s m args below meth c s₁ B hml hv
  obtain ⟨rfl, hP, hK⟩ := hv
  have hx := B.exec
  have hb := B.bytes
  have hr := B.returns
  have hts := atoms_spec (ws := wsX5_fault) B.pre
  have hown : s.vm.findClass RX5 = some m.cls := findClass_of_methodNamed B.named
  have hlocks := B.notSynchronized
  have hl := lv_entry ([.ref rd]) (n := 1) (Nat.le_of_ble_eq_true rfl)
  rw [lg_entry_eq]
  generalize (lg_sl ([.ref rd]) ++ List.replicate (1 - (lg_sl ([.ref rd])).length) Slot.unset).toArray = ls at hl ⊢
  have hl : lv_has ls 1 [(0, .ref rd)] := hl
  refine lv_aload_n hx hb dX5_fault_0 rfl (lv_at hl 0 rfl) ?_
  refine va_get (D := (dC, dI)) (ci := 5) (v := .int ns_) (C := RX5) (T := TX5) (N := 9) hx hb hts iw_d_fault_X5 hown hK hP 0 rfl rfl 5 (by decide) (hts (.fieldLink RX5 32 "ThriceCounted$Reader" "start" "I") (by decide +kernel)) (fun _ h9 => h9) rfl dX5_fault_1 ?_
  exact W.iret (v := ns_) hx hb hr (fun t ht hW => ⟨ns_, rfl, trivial, ht⟩) (fun _ h => absurd h List.not_mem_nil) dX5_fault_4
theorem dX5_items_0 : decode cX5_items 0 = .ok (.aload_n 0, 1) := by decide +kernel
theorem dX5_items_1 : decode cX5_items 1 = .ok (.getfield 38, 3) := by decide +kernel
theorem dX5_items_4 : decode cX5_items 4 = .ok (.ireturn, 1) := by decide +kernel
set_option maxRecDepth 20000 in
theorem iw_d_items_X5 : ∀ w ∈ wsX50, w ∈ wsX5_items := by decide +kernel
set_option maxHeartbeats 4000000 in
set_option maxRecDepth 100000 in
theorem d_items (l : Launch) (dC : Nat → ClassId) (dI : Nat → Nat → Nat) (rd : Nat) (ad : Nat → Nat) (tx : Nat) (nl_ : Int32) (np_ : Int32) (nk_ : Int32) (ns_ : Int32) (nv_ : Int32) (ni_ : Int32) (nf_ : Int32) (ctx : ClassId) (fx : Nat → Int32) : Met l yX5_items wsX5_items ({ frames := 0, cells := 0, slots := 0, locals := 0 }) (va_Pc [.ref rd] (fun U => va_P (dC, dI) vwCl [(rd, .inr (5, [.ref (ad 0), .ref tx, .int nl_, .int np_, .int nk_, .int ns_, .int nv_, .int ni_, .int nf_])), (tx, .inl (ctx, 150, .inl fx))] U.heap ∧ va_K (dC, dI) vwCl [(ctx, .byte)] U)) (vp_Si (fun r => True)) 0 0 (fun _ => False) := by
  refine Met.ofW (cc := cX5_items) (maxL := 1) (ret := (some .int)) (by decide) rfl ?_
  intro p e s m args below meth c s₁ B hml hv
  obtain ⟨rfl, hP, hK⟩ := hv
  have hx := B.exec
  have hb := B.bytes
  have hr := B.returns
  have hts := atoms_spec (ws := wsX5_items) B.pre
  have hown : s.vm.findClass RX5 = some m.cls := findClass_of_methodNamed B.named
  have hlocks := B.notSynchronized
  have hl := lv_entry ([.ref rd]) (n := 1) (Nat.le_of_ble_eq_true rfl)
  rw [lg_entry_eq]
  generalize (lg_sl ([.ref rd]) ++ List.replicate (1 - (lg_sl ([.ref rd])).length) Slot.unset).toArray = ls at hl ⊢
  have hl : lv_has ls 1 [(0, .ref rd)] := hl
  refine lv_aload_n hx hb dX5_items_0 rfl (lv_at hl 0 rfl) ?_
  refine va_get (D := (dC, dI)) (ci := 5) (v := .int ni_) (C := RX5) (T := TX5) (N := 9) hx hb hts iw_d_items_X5 hown hK hP 0 rfl rfl 7 (by decide) (hts (.fieldLink RX5 38 "ThriceCounted$Reader" "items" "I") (by decide +kernel)) (fun _ h9 => h9) rfl dX5_items_1 ?_
  exact W.iret (v := ni_) hx hb hr (fun t ht hW => ⟨ni_, rfl, trivial, ht⟩) (fun _ h => absurd h List.not_mem_nil) dX5_items_4
set_option maxRecDepth 20000 in
theorem ggX5_stepOverWord_X5_at : GoodIn wsX5_stepOverWord wsX5_at := goodIn_r _ [8, 3, 9, 13, 14, 15, 16, 17, 18, 19, 20, 21] (by decide +kernel) (by decide +kernel)
set_option maxRecDepth 20000 in
theorem gX5_stepOverWord_X5_at : GoodIn wsX5_stepOverWord (wsV RX5 134 RX5 yX5_at wsX5_at) := goodIn_app (goodIn_of _ (by decide +kernel)) ggX5_stepOverWord_X5_at
set_option maxRecDepth 20000 in
theorem ggX5_stepOverWord_X5_isLetter : GoodIn wsX5_stepOverWord wsX5_isLetter := goodIn_r _ [12] (by decide +kernel) (by decide +kernel)
set_option maxRecDepth 20000 in
theorem gX5_stepOverWord_X5_isLetter : GoodIn wsX5_stepOverWord (va_wsS RX5 141 yX5_isLetter wsX5_isLetter) := goodIn_app (goodIn_of _ (by decide +kernel)) ggX5_stepOverWord_X5_isLetter
theorem dX5_stepOverWord_0 : decode cX5_stepOverWord 0 = .ok (.aload_n 0, 1) := by decide +kernel
theorem dX5_stepOverWord_1 : decode cX5_stepOverWord 1 = .ok (.iconst 1, 1) := by decide +kernel
theorem dX5_stepOverWord_2 : decode cX5_stepOverWord 2 = .ok (.putfield 29, 3) := by decide +kernel
theorem dX5_stepOverWord_5 : decode cX5_stepOverWord 5 = .ok (.aload_n 0, 1) := by decide +kernel
theorem dX5_stepOverWord_6 : decode cX5_stepOverWord 6 = .ok (.getfield 26, 3) := by decide +kernel
theorem dX5_stepOverWord_9 : decode cX5_stepOverWord 9 = .ok (.aload_n 0, 1) := by decide +kernel
theorem dX5_stepOverWord_10 : decode cX5_stepOverWord 10 = .ok (.getfield 22, 3) := by decide +kernel
theorem dX5_stepOverWord_13 : decode cX5_stepOverWord 13 = .ok (.if_icmp .ge 30, 3) := by decide +kernel
theorem dX5_stepOverWord_16 : decode cX5_stepOverWord 16 = .ok (.aload_n 0, 1) := by decide +kernel
theorem dX5_stepOverWord_17 : decode cX5_stepOverWord 17 = .ok (.aload_n 0, 1) := by decide +kernel
theorem dX5_stepOverWord_18 : decode cX5_stepOverWord 18 = .ok (.getfield 26, 3) := by decide +kernel
theorem dX5_stepOverWord_21 : decode cX5_stepOverWord 21 = .ok (.invokevirtual 134, 3) := by decide +kernel
theorem dX5_stepOverWord_24 : decode cX5_stepOverWord 24 = .ok (.invokestatic 141, 3) := by decide +kernel
theorem dX5_stepOverWord_27 : decode cX5_stepOverWord 27 = .ok (.ifCond .eq 16, 3) := by decide +kernel
theorem dX5_stepOverWord_30 : decode cX5_stepOverWord 30 = .ok (.aload_n 0, 1) := by decide +kernel
theorem dX5_stepOverWord_31 : decode cX5_stepOverWord 31 = .ok (.dup, 1) := by decide +kernel
theorem dX5_stepOverWord_32 : decode cX5_stepOverWord 32 = .ok (.getfield 26, 3) := by decide +kernel
theorem dX5_stepOverWord_35 : decode cX5_stepOverWord 35 = .ok (.iconst 1, 1) := by decide +kernel
theorem dX5_stepOverWord_36 : decode cX5_stepOverWord 36 = .ok (.iadd, 1) := by decide +kernel
theorem dX5_stepOverWord_37 : decode cX5_stepOverWord 37 = .ok (.putfield 26, 3) := by decide +kernel
theorem dX5_stepOverWord_40 : decode cX5_stepOverWord 40 = .ok (.goto (-35), 3) := by decide +kernel
theorem dX5_stepOverWord_43 : decode cX5_stepOverWord 43 = .ok (.return_, 1) := by decide +kernel
set_option maxRecDepth 20000 in
theorem iw_d_overWord_X5 : ∀ w ∈ wsX50, w ∈ wsX5_stepOverWord := by decide +kernel
set_option maxHeartbeats 4000000 in
set_option maxRecDepth 100000 in
theorem d_overWord (l : Launch) (dC : Nat → ClassId) (dI : Nat → Nat → Nat) (rd : Nat) (ad : Nat → Nat) (tx : Nat) (nl_ : Int32) (np_ : Int32) (nk_ : Int32) (ns_ : Int32) (nv_ : Int32) (ni_ : Int32) (nf_ : Int32) (ctx : ClassId) (fx : Nat → Int32) (sz : Nat) : Met l yX5_stepOverWord wsX5_stepOverWord ({ frames := 1, cells := 0, slots := 0, locals := 21 }) (va_Pc [.ref rd] (fun U => U.heap.size = sz ∧ va_P (dC, dI) vwCl [(rd, .inr (5, [.ref (ad 0), .ref tx, .int nl_, .int np_, .int nk_, .int ns_, .int nv_, .int ni_, .int nf_])), (tx, .inl (ctx, 150, .inl fx))] U.heap ∧ va_K (dC, dI) vwCl [(ctx, .byte)] U ∧ va_D (fun _ => True) [(rd, .inr (5, [.ref (ad 0), .ref tx, .int nl_, .int np_, .int nk_, .int ns_, .int nv_, .int ni_, .int nf_])), (tx, .inl (ctx, 150, .inl fx))])) (va_Qv (fun (_ : Unit) => True) (fun _ t => ∃ (gp_ : Int32) (gk_ : Int32) (gs_ : Int32) (gv_ : Int32) (gi_ : Int32) (gf_ : Int32), va_P (dC, dI) vwCl [(rd, .inr (5, [.ref (ad 0), .ref tx, .int nl_, .int gp_, .int gk_, .int gs_, .int gv_, .int gi_, .int gf_])), (tx, .inl (ctx, 150, .inl fx))] t.heap ∧ va_K (dC, dI) vwCl [(ctx, .byte)] t ∧ va_D (va_A [(rd, .inr (5, [.ref (ad 0), .ref tx, .int nl_, .int np_, .int nk_, .int ns_, .int nv_, .int ni_, .int nf_])), (tx, .inl (ctx, 150, .inl fx))] sz) [(rd, .inr (5, [.ref (ad 0), .ref tx, .int nl_, .int gp_, .int gk_, .int gs_, .int gv_, .int gi_, .int gf_])), (tx, .inl (ctx, 150, .inl fx))]) (va_A [(rd, .inr (5, [.ref (ad 0), .ref tx, .int nl_, .int np_, .int nk_, .int ns_, .int nv_, .int ni_, .int nf_])), (tx, .inl (ctx, 150, .inl fx))] sz)) 0 0 (va_A [(rd, .inr (5, [.ref (ad 0), .ref tx, .int nl_, .int np_, .int nk_, .int ns_, .int nv_, .int ni_, .int nf_])), (tx, .inl (ctx, 150, .inl fx))] sz) := by
  refine Met.ofW (cc := cX5_stepOverWord) (maxL := 1) (ret := none) (by decide) rfl ?_
  intro p e s m args below meth c s₁ B hml hv
  obtain ⟨rfl, hsz, hP, hK, hD0⟩ := hv
  have hx := B.exec
  have hb := B.bytes
  have hr := B.returns
  have hts := atoms_spec (ws := wsX5_stepOverWord) B.pre
  have hown : s.vm.findClass RX5 = some m.cls := findClass_of_methodNamed B.named
  have hlocks := B.notSynchronized
  subst hsz
  have hD := hD0.self (sz := s.heap.size)
  generalize hAe : va_A [(rd, .inr (5, [.ref (ad 0), .ref tx, .int nl_, .int np_, .int nk_, .int ns_, .int nv_, .int ni_, .int nf_])), (tx, .inl (ctx, 150, .inl fx))] s.heap.size = A at hD ⊢
  have hA : ∀ q : Nat, s.heap.size ≤ q → A q := fun q h => by rw [← hAe]; exact Or.inr h
  have hS : va_S A s.heap s.heap [] := va_S.rf
  have hP : va_P (dC, dI) vwCl [(rd, .inr (5, [.ref (ad 0), .ref tx, .int nl_, .int np_, .int nk_, .int ns_, .int nv_, .int ni_, .int nf_])), (tx, .inl (ctx, 150, .inl fx))] s.heap := hP
  have hl := lv_entry ([.ref rd]) (n := 1) (Nat.le_of_ble_eq_true rfl)
  rw [lg_entry_eq]
  generalize (lg_sl ([.ref rd]) ++ List.replicate (1 - (lg_sl ([.ref rd])).length) Slot.unset).toArray = ls at hl ⊢
  have hl : lv_has ls 1 [(0, .ref rd)] := hl
  refine lv_aload_n hx hb dX5_stepOverWord_0 rfl (lv_at hl 0 rfl) ?_
  refine lv_iconst (v := 1) hx hb dX5_stepOverWord_1 (by decide) ?_
  refine va_put (D := (dC, dI)) (ci := 5) (v := .int 1) (ty := .int) (C := RX5) (T := TX5) (N := 9) hx hb hts iw_d_overWord_X5 tyX5 tyX5_ok nmX5 hown hK hP hD hS 0 rfl rfl 4 (by decide) (hts (.fieldLink RX5 29 "ThriceCounted$Reader" "kind" "I") (by decide +kernel)) (fun _ h9 => h9) rfl (by decide +kernel) rfl rfl (Nat.le_of_ble_eq_true rfl) dX5_stepOverWord_2 (fun H locs hP hD hS => ?_)
  have hP : va_P (dC, dI) vwCl [(rd, .inr (5, [.ref (ad 0), .ref tx, .int nl_, .int np_, .int 1, .int ns_, .int nv_, .int ni_, .int nf_])), (tx, .inl (ctx, 150, .inl fx))] H := hP
  have hD : va_D A [(rd, .inr (5, [.ref (ad 0), .ref tx, .int nl_, .int np_, .int 1, .int ns_, .int nv_, .int ni_, .int nf_])), (tx, .inl (ctx, 150, .inl fx))] := hD
  refine tz_while (σ := Int32 × Heap × List Loc × Array Slot) (fun x => W p l e _ s m _ below meth c x.2.1 x.2.2.1 _ _ _ (F0 m 5 x.2.2.2 [])) (fun x => va_P (dC, dI) vwCl [(rd, .inr (5, [.ref (ad 0), .ref tx, .int nl_, .int x.1, .int 1, .int ns_, .int nv_, .int ni_, .int nf_])), (tx, .inl (ctx, 150, .inl fx))] x.2.1 ∧ va_D A [(rd, .inr (5, [.ref (ad 0), .ref tx, .int nl_, .int x.1, .int 1, .int ns_, .int nv_, .int ni_, .int nf_])), (tx, .inl (ctx, 150, .inl fx))] ∧ va_S A s.heap x.2.1 x.2.2.1 ∧ lv_has x.2.2.2 1 [(0, .ref rd)]) (fun x => (nl_.toInt - x.1.toInt).toNat) ?_ (np_, H, locs, ls) ⟨hP, hD, hS, hl⟩
  rintro ⟨v_9, H, locs, ls⟩ ⟨hP, hD, hS, hl⟩ ih_18
  dsimp only at hP hD hS hl ih_18 ⊢
  refine lv_aload_n hx hb dX5_stepOverWord_5 rfl (lv_at hl 0 rfl) ?_
  refine va_get (D := (dC, dI)) (ci := 5) (v := .int v_9) (C := RX5) (T := TX5) (N := 9) hx hb hts iw_d_overWord_X5 hown hK hP 0 rfl rfl 3 (by decide) (hts (.fieldLink RX5 26 "ThriceCounted$Reader" "place" "I") (by decide +kernel)) (fun _ h9 => h9) rfl dX5_stepOverWord_6 ?_
  refine lv_aload_n hx hb dX5_stepOverWord_9 rfl (lv_at hl 0 rfl) ?_
  refine va_get (D := (dC, dI)) (ci := 5) (v := .int nl_) (C := RX5) (T := TX5) (N := 9) hx hb hts iw_d_overWord_X5 hown hK hP 0 rfl rfl 2 (by decide) (hts (.fieldLink RX5 22 "ThriceCounted$Reader" "length" "I") (by decide +kernel)) (fun _ h9 => h9) rfl dX5_stepOverWord_10 ?_
  refine lv_icmp_ge (tgt := 43) hx hb dX5_stepOverWord_13 (by decide) (fun c_19 => ?_) (fun c_19 => ?_)
  · have hP9 := hP.sub (ws' := [(rd, .inr (5, [.ref (ad 0), .ref tx, .int nl_, .int v_9, .int 1, .int ns_, .int nv_, .int ni_, .int nf_])), (tx, .inl (ctx, 150, .inl fx))]) [0, 1] rfl
    have hD9 := hD.sub (ws' := [(rd, .inr (5, [.ref (ad 0), .ref tx, .int nl_, .int v_9, .int 1, .int ns_, .int nv_, .int ni_, .int nf_])), (tx, .inl (ctx, 150, .inl fx))]) [0, 1] (by decide) rfl
    have hK9 := hK.sub (tys' := [(ctx, .byte)]) [0] rfl
    exact W.vret hx hb hr (fun t ht hW => ⟨⟨(), rfl, trivial, v_9, 1, ns_, nv_, ni_, nf_, by rw [ht]; exact hP9, va_K.moved hW.alike hK9, hD9⟩, hS.F ht⟩) hS.2.2 dX5_stepOverWord_43
  · refine lv_aload_n hx hb dX5_stepOverWord_16 rfl (lv_at hl 0 rfl) ?_
    refine lv_aload_n hx hb dX5_stepOverWord_17 rfl (lv_at hl 0 rfl) ?_
    refine va_get (D := (dC, dI)) (ci := 5) (v := .int v_9) (C := RX5) (T := TX5) (N := 9) hx hb hts iw_d_overWord_X5 hown hK hP 0 rfl rfl 3 (by decide) (hts (.fieldLink RX5 26 "ThriceCounted$Reader" "place" "I") (by decide +kernel)) (fun _ h9 => h9) rfl dX5_stepOverWord_18 ?_
    have hPc_20 := hP.sub (ws' := [(rd, .inr (5, [.ref (ad 0), .ref tx, .int nl_, .int v_9, .int 1, .int ns_, .int nv_, .int ni_, .int nf_])), (tx, .inl (ctx, 150, .inl fx))]) [0, 1] rfl
    have hKc_21 := hK.sub (tys' := [(ctx, .byte)]) [0] rfl
    refine vp_callSi (va_Run.run (va_runV (As := [.int v_9]) (rest := []) ⟨hx, hb, hml, hown, hts⟩ (d_at l dC dI rd ad tx nl_ v_9 1 ns_ nv_ ni_ nf_ ctx fx v_9) (cwV 1 hts gX5_stepOverWord_X5_at rfl rfl rfl (by decide +kernel) ⟨Nat.le_of_ble_eq_true rfl, Nat.le_of_ble_eq_true rfl⟩) ⟨fun a U g mk q => by obtain ⟨q0, qP, qK⟩ := q; exact ⟨q0, qP, va_K.moved (u := U) (U := U.calling g mk a) (Vm.Alike.refl U.vm) qK⟩, va_recv hK hP (ci := 5) (q0 := 0) rfl rfl, fun U hU hW => ⟨rfl, by rw [hU]; exact hPc_20, va_K.moved hW.alike hKc_21⟩⟩ rfl rfl hl.1 rfl (lv_room (Nat.le_of_ble_eq_true rfl)) dX5_stepOverWord_21 ⟨Nat.le_of_ble_eq_true rfl, Nat.le_of_ble_eq_true rfl⟩)) (fun r_22 hw_23 => ?_)
    refine vp_callSi (va_Run.run (va_runS (As := [.int r_22]) (rest := []) ⟨hx, hb, hml, hown, hts⟩ (d_isLetter l dC dI r_22) (va_cwS 1 hts gX5_stepOverWord_X5_isLetter rfl rfl rfl (by decide +kernel) ⟨Nat.le_of_ble_eq_true rfl, Nat.le_of_ble_eq_true rfl⟩) ⟨fun a U g mk q => ⟨q.1, trivial⟩, fun U hU hW => ⟨rfl, trivial⟩⟩ rfl rfl hl.1 rfl (lv_room (Nat.le_of_ble_eq_true rfl)) dX5_stepOverWord_24 ⟨Nat.le_of_ble_eq_true rfl, Nat.le_of_ble_eq_true rfl⟩)) (fun r_24 hw_25 => ?_)
    refine lv_if_eq (tgt := 43) hx hb dX5_stepOverWord_27 (by decide) (fun c_26 => ?_) (fun c_26 => ?_)
    · have hP9 := hP.sub (ws' := [(rd, .inr (5, [.ref (ad 0), .ref tx, .int nl_, .int v_9, .int 1, .int ns_, .int nv_, .int ni_, .int nf_])), (tx, .inl (ctx, 150, .inl fx))]) [0, 1] rfl
      have hD9 := hD.sub (ws' := [(rd, .inr (5, [.ref (ad 0), .ref tx, .int nl_, .int v_9, .int 1, .int ns_, .int nv_, .int ni_, .int nf_])), (tx, .inl (ctx, 150, .inl fx))]) [0, 1] (by decide) rfl
      have hK9 := hK.sub (tys' := [(ctx, .byte)]) [0] rfl
      exact W.vret hx hb hr (fun t ht hW => ⟨⟨(), rfl, trivial, v_9, 1, ns_, nv_, ni_, nf_, by rw [ht]; exact hP9, va_K.moved hW.alike hK9, hD9⟩, hS.F ht⟩) hS.2.2 dX5_stepOverWord_43
    · refine lv_aload_n hx hb dX5_stepOverWord_30 rfl (lv_at hl 0 rfl) ?_
      refine lv_dup hx hb dX5_stepOverWord_31 rfl ?_
      refine va_get (D := (dC, dI)) (ci := 5) (v := .int v_9) (C := RX5) (T := TX5) (N := 9) hx hb hts iw_d_overWord_X5 hown hK hP 0 rfl rfl 3 (by decide) (hts (.fieldLink RX5 26 "ThriceCounted$Reader" "place" "I") (by decide +kernel)) (fun _ h9 => h9) rfl dX5_stepOverWord_32 ?_
      refine lv_iconst (v := 1) hx hb dX5_stepOverWord_35 (by decide) ?_
      refine lv_iadd hx hb dX5_stepOverWord_36 ?_
      refine va_put (D := (dC, dI)) (ci := 5) (v := .int (v_9 + 1)) (ty := .int) (C := RX5) (T := TX5) (N := 9) hx hb hts iw_d_overWord_X5 tyX5 tyX5_ok nmX5 hown hK hP hD hS 0 rfl rfl 3 (by decide) (hts (.fieldLink RX5 26 "ThriceCounted$Reader" "place" "I") (by decide +kernel)) (fun _ h9 => h9) rfl (by decide +kernel) rfl rfl (Nat.le_of_ble_eq_true rfl) dX5_stepOverWord_37 (fun H locs hP hD hS => ?_)
      have hP : va_P (dC, dI) vwCl [(rd, .inr (5, [.ref (ad 0), .ref tx, .int nl_, .int (v_9 + 1), .int 1, .int ns_, .int nv_, .int ni_, .int nf_])), (tx, .inl (ctx, 150, .inl fx))] H := hP
      have hD : va_D A [(rd, .inr (5, [.ref (ad 0), .ref tx, .int nl_, .int (v_9 + 1), .int 1, .int ns_, .int nv_, .int ni_, .int nf_])), (tx, .inl (ctx, 150, .inl fx))] := hD
      refine lv_goto (tgt := 5) hx hb dX5_stepOverWord_40 (by decide) ?_
      exact ih_18 ((v_9 + 1), H, locs, ls) ⟨hP, hD, hS, lv_sub hl [0] rfl⟩ (tz_mu c_19)
set_option maxRecDepth 20000 in
theorem ggX5_stepOverNumber_X5_at : GoodIn wsX5_stepOverNumber wsX5_at := goodIn_r _ [14, 3, 15, 19, 20, 21, 22, 23, 24, 25, 26, 27] (by decide +kernel) (by decide +kernel)
set_option maxRecDepth 20000 in
theorem gX5_stepOverNumber_X5_at : GoodIn wsX5_stepOverNumber (wsV RX5 134 RX5 yX5_at wsX5_at) := goodIn_app (goodIn_of _ (by decide +kernel)) ggX5_stepOverNumber_X5_at
set_option maxRecDepth 20000 in
theorem ggX5_stepOverNumber_X5_isFigure : GoodIn wsX5_stepOverNumber wsX5_isFigure := goodIn_r _ [18] (by decide +kernel) (by decide +kernel)
set_option maxRecDepth 20000 in
theorem gX5_stepOverNumber_X5_isFigure : GoodIn wsX5_stepOverNumber (va_wsS RX5 148 yX5_isFigure wsX5_isFigure) := goodIn_app (goodIn_of _ (by decide +kernel)) ggX5_stepOverNumber_X5_isFigure
theorem dX5_stepOverNumber_0 : decode cX5_stepOverNumber 0 = .ok (.aload_n 0, 1) := by decide +kernel
theorem dX5_stepOverNumber_1 : decode cX5_stepOverNumber 1 = .ok (.iconst 0, 1) := by decide +kernel
theorem dX5_stepOverNumber_2 : decode cX5_stepOverNumber 2 = .ok (.putfield 35, 3) := by decide +kernel
theorem dX5_stepOverNumber_5 : decode cX5_stepOverNumber 5 = .ok (.aload_n 0, 1) := by decide +kernel
theorem dX5_stepOverNumber_6 : decode cX5_stepOverNumber 6 = .ok (.getfield 26, 3) := by decide +kernel
theorem dX5_stepOverNumber_9 : decode cX5_stepOverNumber 9 = .ok (.aload_n 0, 1) := by decide +kernel
theorem dX5_stepOverNumber_10 : decode cX5_stepOverNumber 10 = .ok (.getfield 22, 3) := by decide +kernel
theorem dX5_stepOverNumber_13 : decode cX5_stepOverNumber 13 = .ok (.if_icmp .ge 59, 3) := by decide +kernel
theorem dX5_stepOverNumber_16 : decode cX5_stepOverNumber 16 = .ok (.aload_n 0, 1) := by decide +kernel
theorem dX5_stepOverNumber_17 : decode cX5_stepOverNumber 17 = .ok (.aload_n 0, 1) := by decide +kernel
theorem dX5_stepOverNumber_18 : decode cX5_stepOverNumber 18 = .ok (.getfield 26, 3) := by decide +kernel
theorem dX5_stepOverNumber_21 : decode cX5_stepOverNumber 21 = .ok (.invokevirtual 134, 3) := by decide +kernel
theorem dX5_stepOverNumber_24 : decode cX5_stepOverNumber 24 = .ok (.invokestatic 148, 3) := by decide +kernel
theorem dX5_stepOverNumber_27 : decode cX5_stepOverNumber 27 = .ok (.ifCond .eq 45, 3) := by decide +kernel
theorem dX5_stepOverNumber_30 : decode cX5_stepOverNumber 30 = .ok (.aload_n 0, 1) := by decide +kernel
theorem dX5_stepOverNumber_31 : decode cX5_stepOverNumber 31 = .ok (.sipush 1000, 3) := by decide +kernel
theorem dX5_stepOverNumber_34 : decode cX5_stepOverNumber 34 = .ok (.aload_n 0, 1) := by decide +kernel
theorem dX5_stepOverNumber_35 : decode cX5_stepOverNumber 35 = .ok (.getfield 35, 3) := by decide +kernel
theorem dX5_stepOverNumber_38 : decode cX5_stepOverNumber 38 = .ok (.invokestatic 45, 3) := by decide +kernel
theorem dX5_stepOverNumber_41 : decode cX5_stepOverNumber 41 = .ok (.bipush 10, 2) := by decide +kernel
theorem dX5_stepOverNumber_43 : decode cX5_stepOverNumber 43 = .ok (.imul, 1) := by decide +kernel
theorem dX5_stepOverNumber_44 : decode cX5_stepOverNumber 44 = .ok (.aload_n 0, 1) := by decide +kernel
theorem dX5_stepOverNumber_45 : decode cX5_stepOverNumber 45 = .ok (.aload_n 0, 1) := by decide +kernel
theorem dX5_stepOverNumber_46 : decode cX5_stepOverNumber 46 = .ok (.getfield 26, 3) := by decide +kernel
theorem dX5_stepOverNumber_49 : decode cX5_stepOverNumber 49 = .ok (.invokevirtual 134, 3) := by decide +kernel
theorem dX5_stepOverNumber_52 : decode cX5_stepOverNumber 52 = .ok (.iadd, 1) := by decide +kernel
theorem dX5_stepOverNumber_53 : decode cX5_stepOverNumber 53 = .ok (.bipush 48, 2) := by decide +kernel
theorem dX5_stepOverNumber_55 : decode cX5_stepOverNumber 55 = .ok (.isub, 1) := by decide +kernel
theorem dX5_stepOverNumber_56 : decode cX5_stepOverNumber 56 = .ok (.putfield 35, 3) := by decide +kernel
theorem dX5_stepOverNumber_59 : decode cX5_stepOverNumber 59 = .ok (.aload_n 0, 1) := by decide +kernel
theorem dX5_stepOverNumber_60 : decode cX5_stepOverNumber 60 = .ok (.dup, 1) := by decide +kernel
theorem dX5_stepOverNumber_61 : decode cX5_stepOverNumber 61 = .ok (.getfield 26, 3) := by decide +kernel
theorem dX5_stepOverNumber_64 : decode cX5_stepOverNumber 64 = .ok (.iconst 1, 1) := by decide +kernel
theorem dX5_stepOverNumber_65 : decode cX5_stepOverNumber 65 = .ok (.iadd, 1) := by decide +kernel
theorem dX5_stepOverNumber_66 : decode cX5_stepOverNumber 66 = .ok (.putfield 26, 3) := by decide +kernel
theorem dX5_stepOverNumber_69 : decode cX5_stepOverNumber 69 = .ok (.goto (-64), 3) := by decide +kernel
theorem dX5_stepOverNumber_72 : decode cX5_stepOverNumber 72 = .ok (.aload_n 0, 1) := by decide +kernel
theorem dX5_stepOverNumber_73 : decode cX5_stepOverNumber 73 = .ok (.aload_n 0, 1) := by decide +kernel
theorem dX5_stepOverNumber_74 : decode cX5_stepOverNumber 74 = .ok (.getfield 26, 3) := by decide +kernel
theorem dX5_stepOverNumber_77 : decode cX5_stepOverNumber 77 = .ok (.aload_n 0, 1) := by decide +kernel
theorem dX5_stepOverNumber_78 : decode cX5_stepOverNumber 78 = .ok (.getfield 32, 3) := by decide +kernel
theorem dX5_stepOverNumber_81 : decode cX5_stepOverNumber 81 = .ok (.isub, 1) := by decide +kernel
theorem dX5_stepOverNumber_82 : decode cX5_stepOverNumber 82 = .ok (.iconst 3, 1) := by decide +kernel
theorem dX5_stepOverNumber_83 : decode cX5_stepOverNumber 83 = .ok (.if_icmp .gt 7, 3) := by decide +kernel
theorem dX5_stepOverNumber_90 : decode cX5_stepOverNumber 90 = .ok (.iconst 4, 1) := by decide +kernel
theorem dX5_stepOverNumber_91 : decode cX5_stepOverNumber 91 = .ok (.putfield 29, 3) := by decide +kernel
theorem dX5_stepOverNumber_94 : decode cX5_stepOverNumber 94 = .ok (.return_, 1) := by decide +kernel
theorem dX5_stepOverNumber_86 : decode cX5_stepOverNumber 86 = .ok (.iconst 2, 1) := by decide +kernel
theorem dX5_stepOverNumber_87 : decode cX5_stepOverNumber 87 = .ok (.goto 4, 3) := by decide +kernel
set_option maxRecDepth 20000 in
theorem iw_d_overNumber_X5 : ∀ w ∈ wsX50, w ∈ wsX5_stepOverNumber := by decide +kernel
set_option maxHeartbeats 4000000 in
set_option maxRecDepth 100000 in
theorem d_overNumber (l : Launch) (dC : Nat → ClassId) (dI : Nat → Nat → Nat) (rd : Nat) (ad : Nat → Nat) (tx : Nat) (nl_ : Int32) (np_ : Int32) (nk_ : Int32) (ns_ : Int32) (nv_ : Int32) (ni_ : Int32) (nf_ : Int32) (ctx : ClassId) (fx : Nat → Int32) (sz : Nat) : Met l yX5_stepOverNumber wsX5_stepOverNumber ({ frames := 1, cells := 0, slots := 0, locals := 21 }) (va_Pc [.ref rd] (fun U => U.heap.size = sz ∧ va_P (dC, dI) vwCl [(rd, .inr (5, [.ref (ad 0), .ref tx, .int nl_, .int np_, .int nk_, .int ns_, .int nv_, .int ni_, .int nf_])), (tx, .inl (ctx, 150, .inl fx))] U.heap ∧ va_K (dC, dI) vwCl [(ctx, .byte)] U ∧ va_D (fun _ => True) [(rd, .inr (5, [.ref (ad 0), .ref tx, .int nl_, .int np_, .int nk_, .int ns_, .int nv_, .int ni_, .int nf_])), (tx, .inl (ctx, 150, .inl fx))])) (va_Qv (fun (_ : Unit) => True) (fun _ t => ∃ (gp_ : Int32) (gk_ : Int32) (gs_ : Int32) (gv_ : Int32) (gi_ : Int32) (gf_ : Int32), va_P (dC, dI) vwCl [(rd, .inr (5, [.ref (ad 0), .ref tx, .int nl_, .int gp_, .int gk_, .int gs_, .int gv_, .int gi_, .int gf_])), (tx, .inl (ctx, 150, .inl fx))] t.heap ∧ va_K (dC, dI) vwCl [(ctx, .byte)] t ∧ va_D (va_A [(rd, .inr (5, [.ref (ad 0), .ref tx, .int nl_, .int np_, .int nk_, .int ns_, .int nv_, .int ni_, .int nf_])), (tx, .inl (ctx, 150, .inl fx))] sz) [(rd, .inr (5, [.ref (ad 0), .ref tx, .int nl_, .int gp_, .int gk_, .int gs_, .int gv_, .int gi_, .int gf_])), (tx, .inl (ctx, 150, .inl fx))]) (va_A [(rd, .inr (5, [.ref (ad 0), .ref tx, .int nl_, .int np_, .int nk_, .int ns_, .int nv_, .int ni_, .int nf_])), (tx, .inl (ctx, 150, .inl fx))] sz)) 0 0 (va_A [(rd, .inr (5, [.ref (ad 0), .ref tx, .int nl_, .int np_, .int nk_, .int ns_, .int nv_, .int ni_, .int nf_])), (tx, .inl (ctx, 150, .inl fx))] sz) := by
  refine Met.ofW (cc := cX5_stepOverNumber) (maxL := 1) (ret := none) (by decide) rfl ?_
  intro p e s m args below meth c s₁ B hml hv
  obtain ⟨rfl, hsz, hP, hK, hD0⟩ := hv
  have hx := B.exec
  have hb := B.bytes
  have hr := B.returns
  have hts := atoms_spec (ws := wsX5_stepOverNumber) B.pre
  have hown : s.vm.findClass RX5 = some m.cls := findClass_of_methodNamed B.named
  have hlocks := B.notSynchronized
  subst hsz
  have hD := hD0.self (sz := s.heap.size)
  generalize hAe : va_A [(rd, .inr (5, [.ref (ad 0), .ref tx, .int nl_, .int np_, .int nk_, .int ns_, .int nv_, .int ni_, .int nf_])), (tx, .inl (ctx, 150, .inl fx))] s.heap.size = A at hD ⊢
  have hA : ∀ q : Nat, s.heap.size ≤ q → A q := fun q h => by rw [← hAe]; exact Or.inr h
  have hS : va_S A s.heap s.heap [] := va_S.rf
  have hP : va_P (dC, dI) vwCl [(rd, .inr (5, [.ref (ad 0), .ref tx, .int nl_, .int np_, .int nk_, .int ns_, .int nv_, .int ni_, .int nf_])), (tx, .inl (ctx, 150, .inl fx))] s.heap := hP
  have hl := lv_entry ([.ref rd]) (n := 1) (Nat.le_of_ble_eq_true rfl)
  rw [lg_entry_eq]
  generalize (lg_sl ([.ref rd]) ++ List.replicate (1 - (lg_sl ([.ref rd])).length) Slot.unset).toArray = ls at hl ⊢
  have hl : lv_has ls 1 [(0, .ref rd)] := hl
  refine lv_aload_n hx hb dX5_stepOverNumber_0 rfl (lv_at hl 0 rfl) ?_
  refine lv_iconst (v := 0) hx hb dX5_stepOverNumber_1 (by decide) ?_
  refine va_put (D := (dC, dI)) (ci := 5) (v := .int 0) (ty := .int) (C := RX5) (T := TX5) (N := 9) hx hb hts iw_d_overNumber_X5 tyX5 tyX5_ok nmX5 hown hK hP hD hS 0 rfl rfl 6 (by decide) (hts (.fieldLink RX5 35 "ThriceCounted$Reader" "value" "I") (by decide +kernel)) (fun _ h9 => h9) rfl (by decide +kernel) rfl rfl (Nat.le_of_ble_eq_true rfl) dX5_stepOverNumber_2 (fun H locs hP hD hS => ?_)
  have hP : va_P (dC, dI) vwCl [(rd, .inr (5, [.ref (ad 0), .ref tx, .int nl_, .int np_, .int nk_, .int ns_, .int 0, .int ni_, .int nf_])), (tx, .inl (ctx, 150, .inl fx))] H := hP
  have hD : va_D A [(rd, .inr (5, [.ref (ad 0), .ref tx, .int nl_, .int np_, .int nk_, .int ns_, .int 0, .int ni_, .int nf_])), (tx, .inl (ctx, 150, .inl fx))] := hD
  refine tz_while (σ := Int32 × Int32 × Heap × List Loc × Array Slot) (fun x => W p l e _ s m _ below meth c x.2.2.1 x.2.2.2.1 _ _ _ (F0 m 5 x.2.2.2.2 [])) (fun x => va_P (dC, dI) vwCl [(rd, .inr (5, [.ref (ad 0), .ref tx, .int nl_, .int x.1, .int nk_, .int ns_, .int x.2.1, .int ni_, .int nf_])), (tx, .inl (ctx, 150, .inl fx))] x.2.2.1 ∧ va_D A [(rd, .inr (5, [.ref (ad 0), .ref tx, .int nl_, .int x.1, .int nk_, .int ns_, .int x.2.1, .int ni_, .int nf_])), (tx, .inl (ctx, 150, .inl fx))] ∧ va_S A s.heap x.2.2.1 x.2.2.2.1 ∧ lv_has x.2.2.2.2 1 [(0, .ref rd)]) (fun x => (nl_.toInt - x.1.toInt).toNat) ?_ (np_, 0, H, locs, ls) ⟨hP, hD, hS, hl⟩
  rintro ⟨v_15, v_16, H, locs, ls⟩ ⟨hP, hD, hS, hl⟩ ih_33
  dsimp only at hP hD hS hl ih_33 ⊢
  refine lv_aload_n hx hb dX5_stepOverNumber_5 rfl (lv_at hl 0 rfl) ?_
  refine va_get (D := (dC, dI)) (ci := 5) (v := .int v_15) (C := RX5) (T := TX5) (N := 9) hx hb hts iw_d_overNumber_X5 hown hK hP 0 rfl rfl 3 (by decide) (hts (.fieldLink RX5 26 "ThriceCounted$Reader" "place" "I") (by decide +kernel)) (fun _ h9 => h9) rfl dX5_stepOverNumber_6 ?_
  refine lv_aload_n hx hb dX5_stepOverNumber_9 rfl (lv_at hl 0 rfl) ?_
  refine va_get (D := (dC, dI)) (ci := 5) (v := .int nl_) (C := RX5) (T := TX5) (N := 9) hx hb hts iw_d_overNumber_X5 hown hK hP 0 rfl rfl 2 (by decide) (hts (.fieldLink RX5 22 "ThriceCounted$Reader" "length" "I") (by decide +kernel)) (fun _ h9 => h9) rfl dX5_stepOverNumber_10 ?_
  refine lv_icmp_ge (tgt := 72) hx hb dX5_stepOverNumber_13 (by decide) (fun c_34 => ?_) (fun c_34 => ?_)
  · refine lv_aload_n hx hb dX5_stepOverNumber_72 rfl (lv_at hl 0 rfl) ?_
    refine lv_aload_n hx hb dX5_stepOverNumber_73 rfl (lv_at hl 0 rfl) ?_
    refine va_get (D := (dC, dI)) (ci := 5) (v := .int v_15) (C := RX5) (T := TX5) (N := 9) hx hb hts iw_d_overNumber_X5 hown hK hP 0 rfl rfl 3 (by decide) (hts (.fieldLink RX5 26 "ThriceCounted$Reader" "place" "I") (by decide +kernel)) (fun _ h9 => h9) rfl dX5_stepOverNumber_74 ?_
    refine lv_aload_n hx hb dX5_stepOverNumber_77 rfl (lv_at hl 0 rfl) ?_
    refine va_get (D := (dC, dI)) (ci := 5) (v := .int ns_) (C := RX5) (T := TX5) (N := 9) hx hb hts iw_d_overNumber_X5 hown hK hP 0 rfl rfl 5 (by decide) (hts (.fieldLink RX5 32 "ThriceCounted$Reader" "start" "I") (by decide +kernel)) (fun _ h9 => h9) rfl dX5_stepOverNumber_78 ?_
    refine lv_isub hx hb dX5_stepOverNumber_81 ?_
    refine lv_topi (fun x_35 _ => ?_)
    refine lv_iconst (v := 3) hx hb dX5_stepOverNumber_82 (by decide) ?_
    refine lv_icmp_gt (tgt := 90) hx hb dX5_stepOverNumber_83 (by decide) (fun c_36 => ?_) (fun c_36 => ?_)
    · refine lv_iconst (v := 4) hx hb dX5_stepOverNumber_90 (by decide) ?_
      refine va_put (D := (dC, dI)) (ci := 5) (v := .int 4) (ty := .int) (C := RX5) (T := TX5) (N := 9) hx hb hts iw_d_overNumber_X5 tyX5 tyX5_ok nmX5 hown hK hP hD hS 0 rfl rfl 4 (by decide) (hts (.fieldLink RX5 29 "ThriceCounted$Reader" "kind" "I") (by decide +kernel)) (fun _ h9 => h9) rfl (by decide +kernel) rfl rfl (Nat.le_of_ble_eq_true rfl) dX5_stepOverNumber_91 (fun H locs hP hD hS => ?_)
      have hP : va_P (dC, dI) vwCl [(rd, .inr (5, [.ref (ad 0), .ref tx, .int nl_, .int v_15, .int 4, .int ns_, .int v_16, .int ni_, .int nf_])), (tx, .inl (ctx, 150, .inl fx))] H := hP
      have hD : va_D A [(rd, .inr (5, [.ref (ad 0), .ref tx, .int nl_, .int v_15, .int 4, .int ns_, .int v_16, .int ni_, .int nf_])), (tx, .inl (ctx, 150, .inl fx))] := hD
      have hP9 := hP.sub (ws' := [(rd, .inr (5, [.ref (ad 0), .ref tx, .int nl_, .int v_15, .int 4, .int ns_, .int v_16, .int ni_, .int nf_])), (tx, .inl (ctx, 150, .inl fx))]) [0, 1] rfl
      have hD9 := hD.sub (ws' := [(rd, .inr (5, [.ref (ad 0), .ref tx, .int nl_, .int v_15, .int 4, .int ns_, .int v_16, .int ni_, .int nf_])), (tx, .inl (ctx, 150, .inl fx))]) [0, 1] (by decide) rfl
      have hK9 := hK.sub (tys' := [(ctx, .byte)]) [0] rfl
      exact W.vret hx hb hr (fun t ht hW => ⟨⟨(), rfl, trivial, v_15, 4, ns_, v_16, ni_, nf_, by rw [ht]; exact hP9, va_K.moved hW.alike hK9, hD9⟩, hS.F ht⟩) hS.2.2 dX5_stepOverNumber_94
    · refine lv_iconst (v := 2) hx hb dX5_stepOverNumber_86 (by decide) ?_
      refine lv_goto (tgt := 91) hx hb dX5_stepOverNumber_87 (by decide) ?_
      refine va_put (D := (dC, dI)) (ci := 5) (v := .int 2) (ty := .int) (C := RX5) (T := TX5) (N := 9) hx hb hts iw_d_overNumber_X5 tyX5 tyX5_ok nmX5 hown hK hP hD hS 0 rfl rfl 4 (by decide) (hts (.fieldLink RX5 29 "ThriceCounted$Reader" "kind" "I") (by decide +kernel)) (fun _ h9 => h9) rfl (by decide +kernel) rfl rfl (Nat.le_of_ble_eq_true rfl) dX5_stepOverNumber_91 (fun H locs hP hD hS => ?_)
      have hP : va_P (dC, dI) vwCl [(rd, .inr (5, [.ref (ad 0), .ref tx, .int nl_, .int v_15, .int 2, .int ns_, .int v_16, .int ni_, .int nf_])), (tx, .inl (ctx, 150, .inl fx))] H := hP
      have hD : va_D A [(rd, .inr (5, [.ref (ad 0), .ref tx, .int nl_, .int v_15, .int 2, .int ns_, .int v_16, .int ni_, .int nf_])), (tx, .inl (ctx, 150, .inl fx))] := hD
      have hP9 := hP.sub (ws' := [(rd, .inr (5, [.ref (ad 0), .ref tx, .int nl_, .int v_15, .int 2, .int ns_, .int v_16, .int ni_, .int nf_])), (tx, .inl (ctx, 150, .inl fx))]) [0, 1] rfl
      have hD9 := hD.sub (ws' := [(rd, .inr (5, [.ref (ad 0), .ref tx, .int nl_, .int v_15, .int 2, .int ns_, .int v_16, .int ni_, .int nf_])), (tx, .inl (ctx, 150, .inl fx))]) [0, 1] (by decide) rfl
      have hK9 := hK.sub (tys' := [(ctx, .byte)]) [0] rfl
      exact W.vret hx hb hr (fun t ht hW => ⟨⟨(), rfl, trivial, v_15, 2, ns_, v_16, ni_, nf_, by rw [ht]; exact hP9, va_K.moved hW.alike hK9, hD9⟩, hS.F ht⟩) hS.2.2 dX5_stepOverNumber_94
  · refine lv_aload_n hx hb dX5_stepOverNumber_16 rfl (lv_at hl 0 rfl) ?_
    refine lv_aload_n hx hb dX5_stepOverNumber_17 rfl (lv_at hl 0 rfl) ?_
    refine va_get (D := (dC, dI)) (ci := 5) (v := .int v_15) (C := RX5) (T := TX5) (N := 9) hx hb hts iw_d_overNumber_X5 hown hK hP 0 rfl rfl 3 (by decide) (hts (.fieldLink RX5 26 "ThriceCounted$Reader" "place" "I") (by decide +kernel)) (fun _ h9 => h9) rfl dX5_stepOverNumber_18 ?_
    have hPc_37 := hP.sub (ws' := [(rd, .inr (5, [.ref (ad 0), .ref tx, .int nl_, .int v_15, .int nk_, .int ns_, .int v_16, .int ni_, .int nf_])), (tx, .inl (ctx, 150, .inl fx))]) [0, 1] rfl
    have hKc_38 := hK.sub (tys' := [(ctx, .byte)]) [0] rfl
    refine vp_callSi (va_Run.run (va_runV (As := [.int v_15]) (rest := []) ⟨hx, hb, hml, hown, hts⟩ (d_at l dC dI rd ad tx nl_ v_15 nk_ ns_ v_16 ni_ nf_ ctx fx v_15) (cwV 1 hts gX5_stepOverNumber_X5_at rfl rfl rfl (by decide +kernel) ⟨Nat.le_of_ble_eq_true rfl, Nat.le_of_ble_eq_true rfl⟩) ⟨fun a U g mk q => by obtain ⟨q0, qP, qK⟩ := q; exact ⟨q0, qP, va_K.moved (u := U) (U := U.calling g mk a) (Vm.Alike.refl U.vm) qK⟩, va_recv hK hP (ci := 5) (q0 := 0) rfl rfl, fun U hU hW => ⟨rfl, by rw [hU]; exact hPc_37, va_K.moved hW.alike hKc_38⟩⟩ rfl rfl hl.1 rfl (lv_room (Nat.le_of_ble_eq_true rfl)) dX5_stepOverNumber_21 ⟨Nat.le_of_ble_eq_true rfl, Nat.le_of_ble_eq_true rfl⟩)) (fun r_39 hw_40 => ?_)
    refine vp_callSi (va_Run.run (va_runS (As := [.int r_39]) (rest := []) ⟨hx, hb, hml, hown, hts⟩ (d_isFigure l dC dI r_39) (va_cwS 1 hts gX5_stepOverNumber_X5_isFigure rfl rfl rfl (by decide +kernel) ⟨Nat.le_of_ble_eq_true rfl, Nat.le_of_ble_eq_true rfl⟩) ⟨fun a U g mk q => ⟨q.1, trivial⟩, fun U hU hW => ⟨rfl, trivial⟩⟩ rfl rfl hl.1 rfl (lv_room (Nat.le_of_ble_eq_true rfl)) dX5_stepOverNumber_24 ⟨Nat.le_of_ble_eq_true rfl, Nat.le_of_ble_eq_true rfl⟩)) (fun r_41 hw_42 => ?_)
    refine lv_if_eq (tgt := 72) hx hb dX5_stepOverNumber_27 (by decide) (fun c_43 => ?_) (fun c_43 => ?_)
    · refine lv_aload_n hx hb dX5_stepOverNumber_72 rfl (lv_at hl 0 rfl) ?_
      refine lv_aload_n hx hb dX5_stepOverNumber_73 rfl (lv_at hl 0 rfl) ?_
      refine va_get (D := (dC, dI)) (ci := 5) (v := .int v_15) (C := RX5) (T := TX5) (N := 9) hx hb hts iw_d_overNumber_X5 hown hK hP 0 rfl rfl 3 (by decide) (hts (.fieldLink RX5 26 "ThriceCounted$Reader" "place" "I") (by decide +kernel)) (fun _ h9 => h9) rfl dX5_stepOverNumber_74 ?_
      refine lv_aload_n hx hb dX5_stepOverNumber_77 rfl (lv_at hl 0 rfl) ?_
      refine va_get (D := (dC, dI)) (ci := 5) (v := .int ns_) (C := RX5) (T := TX5) (N := 9) hx hb hts iw_d_overNumber_X5 hown hK hP 0 rfl rfl 5 (by decide) (hts (.fieldLink RX5 32 "ThriceCounted$Reader" "start" "I") (by decide +kernel)) (fun _ h9 => h9) rfl dX5_stepOverNumber_78 ?_
      refine lv_isub hx hb dX5_stepOverNumber_81 ?_
      refine lv_topi (fun x_44 _ => ?_)
      refine lv_iconst (v := 3) hx hb dX5_stepOverNumber_82 (by decide) ?_
      refine lv_icmp_gt (tgt := 90) hx hb dX5_stepOverNumber_83 (by decide) (fun c_45 => ?_) (fun c_45 => ?_)
      · refine lv_iconst (v := 4) hx hb dX5_stepOverNumber_90 (by decide) ?_
        refine va_put (D := (dC, dI)) (ci := 5) (v := .int 4) (ty := .int) (C := RX5) (T := TX5) (N := 9) hx hb hts iw_d_overNumber_X5 tyX5 tyX5_ok nmX5 hown hK hP hD hS 0 rfl rfl 4 (by decide) (hts (.fieldLink RX5 29 "ThriceCounted$Reader" "kind" "I") (by decide +kernel)) (fun _ h9 => h9) rfl (by decide +kernel) rfl rfl (Nat.le_of_ble_eq_true rfl) dX5_stepOverNumber_91 (fun H locs hP hD hS => ?_)
        have hP : va_P (dC, dI) vwCl [(rd, .inr (5, [.ref (ad 0), .ref tx, .int nl_, .int v_15, .int 4, .int ns_, .int v_16, .int ni_, .int nf_])), (tx, .inl (ctx, 150, .inl fx))] H := hP
        have hD : va_D A [(rd, .inr (5, [.ref (ad 0), .ref tx, .int nl_, .int v_15, .int 4, .int ns_, .int v_16, .int ni_, .int nf_])), (tx, .inl (ctx, 150, .inl fx))] := hD
        have hP9 := hP.sub (ws' := [(rd, .inr (5, [.ref (ad 0), .ref tx, .int nl_, .int v_15, .int 4, .int ns_, .int v_16, .int ni_, .int nf_])), (tx, .inl (ctx, 150, .inl fx))]) [0, 1] rfl
        have hD9 := hD.sub (ws' := [(rd, .inr (5, [.ref (ad 0), .ref tx, .int nl_, .int v_15, .int 4, .int ns_, .int v_16, .int ni_, .int nf_])), (tx, .inl (ctx, 150, .inl fx))]) [0, 1] (by decide) rfl
        have hK9 := hK.sub (tys' := [(ctx, .byte)]) [0] rfl
        exact W.vret hx hb hr (fun t ht hW => ⟨⟨(), rfl, trivial, v_15, 4, ns_, v_16, ni_, nf_, by rw [ht]; exact hP9, va_K.moved hW.alike hK9, hD9⟩, hS.F ht⟩) hS.2.2 dX5_stepOverNumber_94
      · refine lv_iconst (v := 2) hx hb dX5_stepOverNumber_86 (by decide) ?_
        refine lv_goto (tgt := 91) hx hb dX5_stepOverNumber_87 (by decide) ?_
        refine va_put (D := (dC, dI)) (ci := 5) (v := .int 2) (ty := .int) (C := RX5) (T := TX5) (N := 9) hx hb hts iw_d_overNumber_X5 tyX5 tyX5_ok nmX5 hown hK hP hD hS 0 rfl rfl 4 (by decide) (hts (.fieldLink RX5 29 "ThriceCounted$Reader" "kind" "I") (by decide +kernel)) (fun _ h9 => h9) rfl (by decide +kernel) rfl rfl (Nat.le_of_ble_eq_true rfl) dX5_stepOverNumber_91 (fun H locs hP hD hS => ?_)
        have hP : va_P (dC, dI) vwCl [(rd, .inr (5, [.ref (ad 0), .ref tx, .int nl_, .int v_15, .int 2, .int ns_, .int v_16, .int ni_, .int nf_])), (tx, .inl (ctx, 150, .inl fx))] H := hP
        have hD : va_D A [(rd, .inr (5, [.ref (ad 0), .ref tx, .int nl_, .int v_15, .int 2, .int ns_, .int v_16, .int ni_, .int nf_])), (tx, .inl (ctx, 150, .inl fx))] := hD
        have hP9 := hP.sub (ws' := [(rd, .inr (5, [.ref (ad 0), .ref tx, .int nl_, .int v_15, .int 2, .int ns_, .int v_16, .int ni_, .int nf_])), (tx, .inl (ctx, 150, .inl fx))]) [0, 1] rfl
        have hD9 := hD.sub (ws' := [(rd, .inr (5, [.ref (ad 0), .ref tx, .int nl_, .int v_15, .int 2, .int ns_, .int v_16, .int ni_, .int nf_])), (tx, .inl (ctx, 150, .inl fx))]) [0, 1] (by decide) rfl
        have hK9 := hK.sub (tys' := [(ctx, .byte)]) [0] rfl
        exact W.vret hx hb hr (fun t ht hW => ⟨⟨(), rfl, trivial, v_15, 2, ns_, v_16, ni_, nf_, by rw [ht]; exact hP9, va_K.moved hW.alike hK9, hD9⟩, hS.F ht⟩) hS.2.2 dX5_stepOverNumber_94
    · refine lv_aload_n hx hb dX5_stepOverNumber_30 rfl (lv_at hl 0 rfl) ?_
      refine lv_sipush (v := 1000) hx hb dX5_stepOverNumber_31 (by decide) ?_
      refine lv_aload_n hx hb dX5_stepOverNumber_34 rfl (lv_at hl 0 rfl) ?_
      refine va_get (D := (dC, dI)) (ci := 5) (v := .int v_16) (C := RX5) (T := TX5) (N := 9) hx hb hts iw_d_overNumber_X5 hown hK hP 0 rfl rfl 6 (by decide) (hts (.fieldLink RX5 35 "ThriceCounted$Reader" "value" "I") (by decide +kernel)) (fun _ h9 => h9) rfl dX5_stepOverNumber_35 ?_
      refine va_mmin hx hb (hml.trans hl.1.symm) hown (hts (.methodLink RX5 45 Lib.Math.min.name) (by decide +kernel)) (hts (.static Lib.Math.min.name) (by decide +kernel)) (hts (.initialized "java/lang/Math") (by decide +kernel)) (hts (.code Lib.Math.min.name Lib.Math.min.code 2 (some .int)) (by decide +kernel)) (Nat.le_of_ble_eq_true rfl) (Nat.le_of_ble_eq_true rfl) (Nat.le_of_ble_eq_true rfl) (Nat.le_of_ble_eq_true rfl) dX5_stepOverNumber_38 ?_
      refine lv_topi (fun x_46 _ => ?_)
      refine lv_bipush (v := 10) hx hb dX5_stepOverNumber_41 (by decide) ?_
      refine lv_imul hx hb dX5_stepOverNumber_43 ?_
      refine lv_topi (fun x_47 _ => ?_)
      refine lv_aload_n hx hb dX5_stepOverNumber_44 rfl (lv_at hl 0 rfl) ?_
      refine lv_aload_n hx hb dX5_stepOverNumber_45 rfl (lv_at hl 0 rfl) ?_
      refine va_get (D := (dC, dI)) (ci := 5) (v := .int v_15) (C := RX5) (T := TX5) (N := 9) hx hb hts iw_d_overNumber_X5 hown hK hP 0 rfl rfl 3 (by decide) (hts (.fieldLink RX5 26 "ThriceCounted$Reader" "place" "I") (by decide +kernel)) (fun _ h9 => h9) rfl dX5_stepOverNumber_46 ?_
      have hPc_48 := hP.sub (ws' := [(rd, .inr (5, [.ref (ad 0), .ref tx, .int nl_, .int v_15, .int nk_, .int ns_, .int v_16, .int ni_, .int nf_])), (tx, .inl (ctx, 150, .inl fx))]) [0, 1] rfl
      have hKc_49 := hK.sub (tys' := [(ctx, .byte)]) [0] rfl
      refine vp_callSi (va_Run.run (va_runV (As := [.int v_15]) (rest := [.int x_47, .ref rd]) ⟨hx, hb, hml, hown, hts⟩ (d_at l dC dI rd ad tx nl_ v_15 nk_ ns_ v_16 ni_ nf_ ctx fx v_15) (cwV 1 hts gX5_stepOverNumber_X5_at rfl rfl rfl (by decide +kernel) ⟨Nat.le_of_ble_eq_true rfl, Nat.le_of_ble_eq_true rfl⟩) ⟨fun a U g mk q => by obtain ⟨q0, qP, qK⟩ := q; exact ⟨q0, qP, va_K.moved (u := U) (U := U.calling g mk a) (Vm.Alike.refl U.vm) qK⟩, va_recv hK hP (ci := 5) (q0 := 0) rfl rfl, fun U hU hW => ⟨rfl, by rw [hU]; exact hPc_48, va_K.moved hW.alike hKc_49⟩⟩ rfl rfl hl.1 rfl (lv_room (Nat.le_of_ble_eq_true rfl)) dX5_stepOverNumber_49 ⟨Nat.le_of_ble_eq_true rfl, Nat.le_of_ble_eq_true rfl⟩)) (fun r_50 hw_51 => ?_)
      refine lv_iadd hx hb dX5_stepOverNumber_52 ?_
      refine lv_topi (fun x_52 _ => ?_)
      refine lv_bipush (v := 48) hx hb dX5_stepOverNumber_53 (by decide) ?_
      refine lv_isub hx hb dX5_stepOverNumber_55 ?_
      refine lv_topi (fun x_53 _ => ?_)
      refine va_put (D := (dC, dI)) (ci := 5) (v := .int x_53) (ty := .int) (C := RX5) (T := TX5) (N := 9) hx hb hts iw_d_overNumber_X5 tyX5 tyX5_ok nmX5 hown hK hP hD hS 0 rfl rfl 6 (by decide) (hts (.fieldLink RX5 35 "ThriceCounted$Reader" "value" "I") (by decide +kernel)) (fun _ h9 => h9) rfl (by decide +kernel) rfl rfl (Nat.le_of_ble_eq_true rfl) dX5_stepOverNumber_56 (fun H locs hP hD hS => ?_)
      have hP : va_P (dC, dI) vwCl [(rd, .inr (5, [.ref (ad 0), .ref tx, .int nl_, .int v_15, .int nk_, .int ns_, .int x_53, .int ni_, .int nf_])), (tx, .inl (ctx, 150, .inl fx))] H := hP
      have hD : va_D A [(rd, .inr (5, [.ref (ad 0), .ref tx, .int nl_, .int v_15, .int nk_, .int ns_, .int x_53, .int ni_, .int nf_])), (tx, .inl (ctx, 150, .inl fx))] := hD
      refine lv_aload_n hx hb dX5_stepOverNumber_59 rfl (lv_at hl 0 rfl) ?_
      refine lv_dup hx hb dX5_stepOverNumber_60 rfl ?_
      refine va_get (D := (dC, dI)) (ci := 5) (v := .int v_15) (C := RX5) (T := TX5) (N := 9) hx hb hts iw_d_overNumber_X5 hown hK hP 0 rfl rfl 3 (by decide) (hts (.fieldLink RX5 26 "ThriceCounted$Reader" "place" "I") (by decide +kernel)) (fun _ h9 => h9) rfl dX5_stepOverNumber_61 ?_
      refine lv_iconst (v := 1) hx hb dX5_stepOverNumber_64 (by decide) ?_
      refine lv_iadd hx hb dX5_stepOverNumber_65 ?_
      refine va_put (D := (dC, dI)) (ci := 5) (v := .int (v_15 + 1)) (ty := .int) (C := RX5) (T := TX5) (N := 9) hx hb hts iw_d_overNumber_X5 tyX5 tyX5_ok nmX5 hown hK hP hD hS 0 rfl rfl 3 (by decide) (hts (.fieldLink RX5 26 "ThriceCounted$Reader" "place" "I") (by decide +kernel)) (fun _ h9 => h9) rfl (by decide +kernel) rfl rfl (Nat.le_of_ble_eq_true rfl) dX5_stepOverNumber_66 (fun H locs hP hD hS => ?_)
      have hP : va_P (dC, dI) vwCl [(rd, .inr (5, [.ref (ad 0), .ref tx, .int nl_, .int (v_15 + 1), .int nk_, .int ns_, .int x_53, .int ni_, .int nf_])), (tx, .inl (ctx, 150, .inl fx))] H := hP
      have hD : va_D A [(rd, .inr (5, [.ref (ad 0), .ref tx, .int nl_, .int (v_15 + 1), .int nk_, .int ns_, .int x_53, .int ni_, .int nf_])), (tx, .inl (ctx, 150, .inl fx))] := hD
      refine lv_goto (tgt := 5) hx hb dX5_stepOverNumber_69 (by decide) ?_
      exact ih_33 ((v_15 + 1), x_53, H, locs, ls) ⟨hP, hD, hS, lv_sub hl [0] rfl⟩ (tz_mu c_34)
set_option maxRecDepth 20000 in
theorem ggX5_step_X5_at : GoodIn wsX5_step wsX5_at := goodIn_r _ [9, 2, 10, 30, 31, 32, 33, 34, 35, 36, 37, 38] (by decide +kernel) (by decide +kernel)
set_option maxRecDepth 20000 in
theorem gX5_step_X5_at : GoodIn wsX5_step (wsV RX5 134 RX5 yX5_at wsX5_at) := goodIn_app (goodIn_of _ (by decide +kernel)) ggX5_step_X5_at
set_option maxRecDepth 20000 in
theorem ggX5_step_X5_isLetter : GoodIn wsX5_step wsX5_isLetter := goodIn_r _ [13] (by decide +kernel) (by decide +kernel)
set_option maxRecDepth 20000 in
theorem gX5_step_X5_isLetter : GoodIn wsX5_step (va_wsS RX5 141 yX5_isLetter wsX5_isLetter) := goodIn_app (goodIn_of _ (by decide +kernel)) ggX5_step_X5_isLetter
set_option maxRecDepth 20000 in
theorem ggX5_step_X5_isFigure : GoodIn wsX5_step wsX5_isFigure := goodIn_r _ [20] (by decide +kernel) (by decide +kernel)
set_option maxRecDepth 20000 in
theorem gX5_step_X5_isFigure : GoodIn wsX5_step (va_wsS RX5 148 yX5_isFigure wsX5_isFigure) := goodIn_app (goodIn_of _ (by decide +kernel)) ggX5_step_X5_isFigure
set_option maxRecDepth 20000 in
theorem ggX5_step_X5_stepOverNumber : GoodIn wsX5_step wsX5_stepOverNumber := goodIn_r _ [24, 25, 1, 2, 26, 27, 28, 29, 3, 4, 5, 6, 7, 8, 9, 10, 18, 19, 20, 30, 31, 32, 33, 34, 35, 36, 37, 38] (by decide +kernel) (by decide +kernel)
set_option maxRecDepth 20000 in
theorem gX5_step_X5_stepOverNumber : GoodIn wsX5_step (wsV RX5 151 RX5 yX5_stepOverNumber wsX5_stepOverNumber) := goodIn_app (goodIn_of _ (by decide +kernel)) ggX5_step_X5_stepOverNumber
set_option maxRecDepth 20000 in
theorem ggX5_step_X5_stepOverWord : GoodIn wsX5_step wsX5_stepOverWord := goodIn_r _ [17, 4, 1, 2, 5, 6, 7, 8, 9, 10, 11, 12, 13, 30, 31, 32, 33, 34, 35, 36, 37, 38] (by decide +kernel) (by decide +kernel)
set_option maxRecDepth 20000 in
theorem gX5_step_X5_stepOverWord : GoodIn wsX5_step (wsV RX5 145 RX5 yX5_stepOverWord wsX5_stepOverWord) := goodIn_app (goodIn_of _ (by decide +kernel)) ggX5_step_X5_stepOverWord
theorem dX5_step_0 : decode cX5_step 0 = .ok (.aload_n 0, 1) := by decide +kernel
theorem dX5_step_1 : decode cX5_step 1 = .ok (.getfield 26, 3) := by decide +kernel
theorem dX5_step_4 : decode cX5_step 4 = .ok (.aload_n 0, 1) := by decide +kernel
theorem dX5_step_5 : decode cX5_step 5 = .ok (.getfield 22, 3) := by decide +kernel
theorem dX5_step_8 : decode cX5_step 8 = .ok (.if_icmp .ge 29, 3) := by decide +kernel
theorem dX5_step_11 : decode cX5_step 11 = .ok (.aload_n 0, 1) := by decide +kernel
theorem dX5_step_12 : decode cX5_step 12 = .ok (.aload_n 0, 1) := by decide +kernel
theorem dX5_step_13 : decode cX5_step 13 = .ok (.getfield 26, 3) := by decide +kernel
theorem dX5_step_16 : decode cX5_step 16 = .ok (.invokevirtual 134, 3) := by decide +kernel
theorem dX5_step_19 : decode cX5_step 19 = .ok (.bipush 32, 2) := by decide +kernel
theorem dX5_step_21 : decode cX5_step 21 = .ok (.if_icmp .ne 16, 3) := by decide +kernel
theorem dX5_step_24 : decode cX5_step 24 = .ok (.aload_n 0, 1) := by decide +kernel
theorem dX5_step_25 : decode cX5_step 25 = .ok (.dup, 1) := by decide +kernel
theorem dX5_step_26 : decode cX5_step 26 = .ok (.getfield 26, 3) := by decide +kernel
theorem dX5_step_29 : decode cX5_step 29 = .ok (.iconst 1, 1) := by decide +kernel
theorem dX5_step_30 : decode cX5_step 30 = .ok (.iadd, 1) := by decide +kernel
theorem dX5_step_31 : decode cX5_step 31 = .ok (.putfield 26, 3) := by decide +kernel
theorem dX5_step_34 : decode cX5_step 34 = .ok (.goto (-34), 3) := by decide +kernel
theorem dX5_step_37 : decode cX5_step 37 = .ok (.aload_n 0, 1) := by decide +kernel
theorem dX5_step_38 : decode cX5_step 38 = .ok (.aload_n 0, 1) := by decide +kernel
theorem dX5_step_39 : decode cX5_step 39 = .ok (.getfield 26, 3) := by decide +kernel
theorem dX5_step_42 : decode cX5_step 42 = .ok (.putfield 32, 3) := by decide +kernel
theorem dX5_step_45 : decode cX5_step 45 = .ok (.aload_n 0, 1) := by decide +kernel
theorem dX5_step_46 : decode cX5_step 46 = .ok (.aload_n 0, 1) := by decide +kernel
theorem dX5_step_47 : decode cX5_step 47 = .ok (.getfield 26, 3) := by decide +kernel
theorem dX5_step_50 : decode cX5_step 50 = .ok (.invokevirtual 134, 3) := by decide +kernel
theorem dX5_step_53 : decode cX5_step 53 = .ok (.istore_n 1, 1) := by decide +kernel
theorem dX5_step_54 : decode cX5_step 54 = .ok (.iload_n 1, 1) := by decide +kernel
theorem dX5_step_55 : decode cX5_step 55 = .ok (.iconst (-1), 1) := by decide +kernel
theorem dX5_step_56 : decode cX5_step 56 = .ok (.if_icmp .ne 11, 3) := by decide +kernel
theorem dX5_step_67 : decode cX5_step 67 = .ok (.iload_n 1, 1) := by decide +kernel
theorem dX5_step_68 : decode cX5_step 68 = .ok (.invokestatic 141, 3) := by decide +kernel
theorem dX5_step_71 : decode cX5_step 71 = .ok (.ifCond .eq 10, 3) := by decide +kernel
theorem dX5_step_81 : decode cX5_step 81 = .ok (.iload_n 1, 1) := by decide +kernel
theorem dX5_step_82 : decode cX5_step 82 = .ok (.invokestatic 148, 3) := by decide +kernel
theorem dX5_step_85 : decode cX5_step 85 = .ok (.ifCond .eq 10, 3) := by decide +kernel
theorem dX5_step_95 : decode cX5_step 95 = .ok (.aload_n 0, 1) := by decide +kernel
theorem dX5_step_96 : decode cX5_step 96 = .ok (.iload_n 1, 1) := by decide +kernel
theorem dX5_step_97 : decode cX5_step 97 = .ok (.bipush 59, 2) := by decide +kernel
theorem dX5_step_99 : decode cX5_step 99 = .ok (.if_icmp .ne 7, 3) := by decide +kernel
theorem dX5_step_106 : decode cX5_step 106 = .ok (.iconst 4, 1) := by decide +kernel
theorem dX5_step_107 : decode cX5_step 107 = .ok (.putfield 29, 3) := by decide +kernel
theorem dX5_step_110 : decode cX5_step 110 = .ok (.aload_n 0, 1) := by decide +kernel
theorem dX5_step_111 : decode cX5_step 111 = .ok (.dup, 1) := by decide +kernel
theorem dX5_step_112 : decode cX5_step 112 = .ok (.getfield 26, 3) := by decide +kernel
theorem dX5_step_115 : decode cX5_step 115 = .ok (.iconst 1, 1) := by decide +kernel
theorem dX5_step_116 : decode cX5_step 116 = .ok (.iadd, 1) := by decide +kernel
theorem dX5_step_117 : decode cX5_step 117 = .ok (.putfield 26, 3) := by decide +kernel
theorem dX5_step_120 : decode cX5_step 120 = .ok (.return_, 1) := by decide +kernel
theorem dX5_step_102 : decode cX5_step 102 = .ok (.iconst 3, 1) := by decide +kernel
theorem dX5_step_103 : decode cX5_step 103 = .ok (.goto 4, 3) := by decide +kernel
theorem dX5_step_88 : decode cX5_step 88 = .ok (.aload_n 0, 1) := by decide +kernel
theorem dX5_step_89 : decode cX5_step 89 = .ok (.invokevirtual 151, 3) := by decide +kernel
theorem dX5_step_92 : decode cX5_step 92 = .ok (.goto 28, 3) := by decide +kernel
theorem dX5_step_74 : decode cX5_step 74 = .ok (.aload_n 0, 1) := by decide +kernel
theorem dX5_step_75 : decode cX5_step 75 = .ok (.invokevirtual 145, 3) := by decide +kernel
theorem dX5_step_78 : decode cX5_step 78 = .ok (.goto 42, 3) := by decide +kernel
theorem dX5_step_59 : decode cX5_step 59 = .ok (.aload_n 0, 1) := by decide +kernel
theorem dX5_step_60 : decode cX5_step 60 = .ok (.iconst 0, 1) := by decide +kernel
theorem dX5_step_61 : decode cX5_step 61 = .ok (.putfield 29, 3) := by decide +kernel
theorem dX5_step_64 : decode cX5_step 64 = .ok (.goto 56, 3) := by decide +kernel
set_option maxRecDepth 20000 in
theorem iw_d_step_X5 : ∀ w ∈ wsX50, w ∈ wsX5_step := by decide +kernel
set_option maxHeartbeats 4000000 in
set_option maxRecDepth 100000 in
theorem d_step (l : Launch) (dC : Nat → ClassId) (dI : Nat → Nat → Nat) (rd : Nat) (ad : Nat → Nat) (tx : Nat) (nl_ : Int32) (np_ : Int32) (nk_ : Int32) (ns_ : Int32) (nv_ : Int32) (ni_ : Int32) (nf_ : Int32) (ctx : ClassId) (fx : Nat → Int32) (sz : Nat) : Met l yX5_step wsX5_step ({ frames := 2, cells := 0, slots := 0, locals := 41 }) (va_Pc [.ref rd] (fun U => U.heap.size = sz ∧ va_P (dC, dI) vwCl [(rd, .inr (5, [.ref (ad 0), .ref tx, .int nl_, .int np_, .int nk_, .int ns_, .int nv_, .int ni_, .int nf_])), (tx, .inl (ctx, 150, .inl fx))] U.heap ∧ va_K (dC, dI) vwCl [(ctx, .byte)] U ∧ va_D (fun _ => True) [(rd, .inr (5, [.ref (ad 0), .ref tx, .int nl_, .int np_, .int nk_, .int ns_, .int nv_, .int ni_, .int nf_])), (tx, .inl (ctx, 150, .inl fx))])) (va_Qv (fun (_ : Unit) => True) (fun _ t => ∃ (gp_ : Int32) (gk_ : Int32) (gs_ : Int32) (gv_ : Int32) (gi_ : Int32) (gf_ : Int32), va_P (dC, dI) vwCl [(rd, .inr (5, [.ref (ad 0), .ref tx, .int nl_, .int gp_, .int gk_, .int gs_, .int gv_, .int gi_, .int gf_])), (tx, .inl (ctx, 150, .inl fx))] t.heap ∧ va_K (dC, dI) vwCl [(ctx, .byte)] t ∧ va_D (va_A [(rd, .inr (5, [.ref (ad 0), .ref tx, .int nl_, .int np_, .int nk_, .int ns_, .int nv_, .int ni_, .int nf_])), (tx, .inl (ctx, 150, .inl fx))] sz) [(rd, .inr (5, [.ref (ad 0), .ref tx, .int nl_, .int gp_, .int gk_, .int gs_, .int gv_, .int gi_, .int gf_])), (tx, .inl (ctx, 150, .inl fx))]) (va_A [(rd, .inr (5, [.ref (ad 0), .ref tx, .int nl_, .int np_, .int nk_, .int ns_, .int nv_, .int ni_, .int nf_])), (tx, .inl (ctx, 150, .inl fx))] sz)) 0 0 (va_A [(rd, .inr (5, [.ref (ad 0), .ref tx, .int nl_, .int np_, .int nk_, .int ns_, .int nv_, .int ni_, .int nf_])), (tx, .inl (ctx, 150, .inl fx))] sz) := by
  refine Met.ofW (cc := cX5_step) (maxL := 2) (ret := none) (by decide) rfl ?_
  intro p e s m args below meth c s₁ B hml hv
  obtain ⟨rfl, hsz, hP, hK, hD0⟩ := hv
  have hx := B.exec
  have hb := B.bytes
  have hr := B.returns
  have hts := atoms_spec (ws := wsX5_step) B.pre
  have hown : s.vm.findClass RX5 = some m.cls := findClass_of_methodNamed B.named
  have hlocks := B.notSynchronized
  subst hsz
  have hD := hD0.self (sz := s.heap.size)
  generalize hAe : va_A [(rd, .inr (5, [.ref (ad 0), .ref tx, .int nl_, .int np_, .int nk_, .int ns_, .int nv_, .int ni_, .int nf_])), (tx, .inl (ctx, 150, .inl fx))] s.heap.size = A at hD ⊢
  have hA : ∀ q : Nat, s.heap.size ≤ q → A q := fun q h => by rw [← hAe]; exact Or.inr h
  have hS : va_S A s.heap s.heap [] := va_S.rf
  have hP : va_P (dC, dI) vwCl [(rd, .inr (5, [.ref (ad 0), .ref tx, .int nl_, .int np_, .int nk_, .int ns_, .int nv_, .int ni_, .int nf_])), (tx, .inl (ctx, 150, .inl fx))] s.heap := hP
  have hl := lv_entry ([.ref rd]) (n := 2) (Nat.le_of_ble_eq_true rfl)
  rw [lg_entry_eq]
  generalize (lg_sl ([.ref rd]) ++ List.replicate (2 - (lg_sl ([.ref rd])).length) Slot.unset).toArray = ls at hl ⊢
  have hl : lv_has ls 2 [(0, .ref rd)] := hl
  refine tz_while (σ := Int32 × Heap × List Loc × Array Slot) (fun x => W p l e _ s m _ below meth c x.2.1 x.2.2.1 _ _ _ (F0 m 0 x.2.2.2 [])) (fun x => va_P (dC, dI) vwCl [(rd, .inr (5, [.ref (ad 0), .ref tx, .int nl_, .int x.1, .int nk_, .int ns_, .int nv_, .int ni_, .int nf_])), (tx, .inl (ctx, 150, .inl fx))] x.2.1 ∧ va_D A [(rd, .inr (5, [.ref (ad 0), .ref tx, .int nl_, .int x.1, .int nk_, .int ns_, .int nv_, .int ni_, .int nf_])), (tx, .inl (ctx, 150, .inl fx))] ∧ va_S A s.heap x.2.1 x.2.2.1 ∧ lv_has x.2.2.2 2 [(0, .ref rd)]) (fun x => (nl_.toInt - x.1.toInt).toNat) ?_ (np_, s.heap, [], ls) ⟨hP, hD, hS, hl⟩
  rintro ⟨v_7, H, locs, ls⟩ ⟨hP, hD, hS, hl⟩ ih_14
  dsimp only at hP hD hS hl ih_14 ⊢
  refine lv_aload_n hx hb dX5_step_0 rfl (lv_at hl 0 rfl) ?_
  refine va_get (D := (dC, dI)) (ci := 5) (v := .int v_7) (C := RX5) (T := TX5) (N := 9) hx hb hts iw_d_step_X5 hown hK hP 0 rfl rfl 3 (by decide) (hts (.fieldLink RX5 26 "ThriceCounted$Reader" "place" "I") (by decide +kernel)) (fun _ h9 => h9) rfl dX5_step_1 ?_
  refine lv_aload_n hx hb dX5_step_4 rfl (lv_at hl 0 rfl) ?_
  refine va_get (D := (dC, dI)) (ci := 5) (v := .int nl_) (C := RX5) (T := TX5) (N := 9) hx hb hts iw_d_step_X5 hown hK hP 0 rfl rfl 2 (by decide) (hts (.fieldLink RX5 22 "ThriceCounted$Reader" "length" "I") (by decide +kernel)) (fun _ h9 => h9) rfl dX5_step_5 ?_
  refine lv_icmp_ge (tgt := 37) hx hb dX5_step_8 (by decide) (fun c_15 => ?_) (fun c_15 => ?_)
  · refine lv_aload_n hx hb dX5_step_37 rfl (lv_at hl 0 rfl) ?_
    refine lv_aload_n hx hb dX5_step_38 rfl (lv_at hl 0 rfl) ?_
    refine va_get (D := (dC, dI)) (ci := 5) (v := .int v_7) (C := RX5) (T := TX5) (N := 9) hx hb hts iw_d_step_X5 hown hK hP 0 rfl rfl 3 (by decide) (hts (.fieldLink RX5 26 "ThriceCounted$Reader" "place" "I") (by decide +kernel)) (fun _ h9 => h9) rfl dX5_step_39 ?_
    refine va_put (D := (dC, dI)) (ci := 5) (v := .int v_7) (ty := .int) (C := RX5) (T := TX5) (N := 9) hx hb hts iw_d_step_X5 tyX5 tyX5_ok nmX5 hown hK hP hD hS 0 rfl rfl 5 (by decide) (hts (.fieldLink RX5 32 "ThriceCounted$Reader" "start" "I") (by decide +kernel)) (fun _ h9 => h9) rfl (by decide +kernel) rfl rfl (Nat.le_of_ble_eq_true rfl) dX5_step_42 (fun H locs hP hD hS => ?_)
    have hP : va_P (dC, dI) vwCl [(rd, .inr (5, [.ref (ad 0), .ref tx, .int nl_, .int v_7, .int nk_, .int v_7, .int nv_, .int ni_, .int nf_])), (tx, .inl (ctx, 150, .inl fx))] H := hP
    have hD : va_D A [(rd, .inr (5, [.ref (ad 0), .ref tx, .int nl_, .int v_7, .int nk_, .int v_7, .int nv_, .int ni_, .int nf_])), (tx, .inl (ctx, 150, .inl fx))] := hD
    refine lv_aload_n hx hb dX5_step_45 rfl (lv_at hl 0 rfl) ?_
    refine lv_aload_n hx hb dX5_step_46 rfl (lv_at hl 0 rfl) ?_
    refine va_get (D := (dC, dI)) (ci := 5) (v := .int v_7) (C := RX5) (T := TX5) (N := 9) hx hb hts iw_d_step_X5 hown hK hP 0 rfl rfl 3 (by decide) (hts (.fieldLink RX5 26 "ThriceCounted$Reader" "place" "I") (by decide +kernel)) (fun _ h9 => h9) rfl dX5_step_47 ?_
    have hPc_16 := hP.sub (ws' := [(rd, .inr (5, [.ref (ad 0), .ref tx, .int nl_, .int v_7, .int nk_, .int v_7, .int nv_, .int ni_, .int nf_])), (tx, .inl (ctx, 150, .inl fx))]) [0, 1] rfl
    have hKc_17 := hK.sub (tys' := [(ctx, .byte)]) [0] rfl
    refine vp_callSi (va_Run.run (va_runV (As := [.int v_7]) (rest := []) ⟨hx, hb, hml, hown, hts⟩ (d_at l dC dI rd ad tx nl_ v_7 nk_ v_7 nv_ ni_ nf_ ctx fx v_7) (cwV 1 hts gX5_step_X5_at rfl rfl rfl (by decide +kernel) ⟨Nat.le_of_ble_eq_true rfl, Nat.le_of_ble_eq_true rfl⟩) ⟨fun a U g mk q => by obtain ⟨q0, qP, qK⟩ := q; exact ⟨q0, qP, va_K.moved (u := U) (U := U.calling g mk a) (Vm.Alike.refl U.vm) qK⟩, va_recv hK hP (ci := 5) (q0 := 0) rfl rfl, fun U hU hW => ⟨rfl, by rw [hU]; exact hPc_16, va_K.moved hW.alike hKc_17⟩⟩ rfl rfl hl.1 rfl (lv_room (Nat.le_of_ble_eq_true rfl)) dX5_step_50 ⟨Nat.le_of_ble_eq_true rfl, Nat.le_of_ble_eq_true rfl⟩)) (fun r_18 hw_19 => ?_)
    refine lv_istore_n (lv' := [(1, .int r_18), (0, .ref rd)]) hx hb dX5_step_53 rfl hl (by decide) rfl (fun ls hl => ?_)
    refine lv_iload_n hx hb dX5_step_54 rfl (lv_at hl 0 rfl) ?_
    refine lv_iconst (v := (-1)) hx hb dX5_step_55 (by decide) ?_
    refine lv_icmp_ne (tgt := 67) hx hb dX5_step_56 (by decide) (fun c_20 => ?_) (fun c_20 => ?_)
    · refine lv_iload_n hx hb dX5_step_67 rfl (lv_at hl 0 rfl) ?_
      refine vp_callSi (va_Run.run (va_runS (As := [.int r_18]) (rest := []) ⟨hx, hb, hml, hown, hts⟩ (d_isLetter l dC dI r_18) (va_cwS 1 hts gX5_step_X5_isLetter rfl rfl rfl (by decide +kernel) ⟨Nat.le_of_ble_eq_true rfl, Nat.le_of_ble_eq_true rfl⟩) ⟨fun a U g mk q => ⟨q.1, trivial⟩, fun U hU hW => ⟨rfl, trivial⟩⟩ rfl rfl hl.1 rfl (lv_room (Nat.le_of_ble_eq_true rfl)) dX5_step_68 ⟨Nat.le_of_ble_eq_true rfl, Nat.le_of_ble_eq_true rfl⟩)) (fun r_21 hw_22 => ?_)
      refine lv_if_eq (tgt := 81) hx hb dX5_step_71 (by decide) (fun c_23 => ?_) (fun c_23 => ?_)
      · refine lv_iload_n hx hb dX5_step_81 rfl (lv_at hl 0 rfl) ?_
        refine vp_callSi (va_Run.run (va_runS (As := [.int r_18]) (rest := []) ⟨hx, hb, hml, hown, hts⟩ (d_isFigure l dC dI r_18) (va_cwS 1 hts gX5_step_X5_isFigure rfl rfl rfl (by decide +kernel) ⟨Nat.le_of_ble_eq_true rfl, Nat.le_of_ble_eq_true rfl⟩) ⟨fun a U g mk q => ⟨q.1, trivial⟩, fun U hU hW => ⟨rfl, trivial⟩⟩ rfl rfl hl.1 rfl (lv_room (Nat.le_of_ble_eq_true rfl)) dX5_step_82 ⟨Nat.le_of_ble_eq_true rfl, Nat.le_of_ble_eq_true rfl⟩)) (fun r_24 hw_25 => ?_)
        refine lv_if_eq (tgt := 95) hx hb dX5_step_85 (by decide) (fun c_26 => ?_) (fun c_26 => ?_)
        · refine lv_aload_n hx hb dX5_step_95 rfl (lv_at hl 1 rfl) ?_
          refine lv_iload_n hx hb dX5_step_96 rfl (lv_at hl 0 rfl) ?_
          refine lv_bipush (v := 59) hx hb dX5_step_97 (by decide) ?_
          refine lv_icmp_ne (tgt := 106) hx hb dX5_step_99 (by decide) (fun c_27 => ?_) (fun c_27 => ?_)
          · refine lv_iconst (v := 4) hx hb dX5_step_106 (by decide) ?_
            refine va_put (D := (dC, dI)) (ci := 5) (v := .int 4) (ty := .int) (C := RX5) (T := TX5) (N := 9) hx hb hts iw_d_step_X5 tyX5 tyX5_ok nmX5 hown hK hP hD hS 0 rfl rfl 4 (by decide) (hts (.fieldLink RX5 29 "ThriceCounted$Reader" "kind" "I") (by decide +kernel)) (fun _ h9 => h9) rfl (by decide +kernel) rfl rfl (Nat.le_of_ble_eq_true rfl) dX5_step_107 (fun H locs hP hD hS => ?_)
            have hP : va_P (dC, dI) vwCl [(rd, .inr (5, [.ref (ad 0), .ref tx, .int nl_, .int v_7, .int 4, .int v_7, .int nv_, .int ni_, .int nf_])), (tx, .inl (ctx, 150, .inl fx))] H := hP
            have hD : va_D A [(rd, .inr (5, [.ref (ad 0), .ref tx, .int nl_, .int v_7, .int 4, .int v_7, .int nv_, .int ni_, .int nf_])), (tx, .inl (ctx, 150, .inl fx))] := hD
            refine lv_aload_n hx hb dX5_step_110 rfl (lv_at hl 1 rfl) ?_
            refine lv_dup hx hb dX5_step_111 rfl ?_
            refine va_get (D := (dC, dI)) (ci := 5) (v := .int v_7) (C := RX5) (T := TX5) (N := 9) hx hb hts iw_d_step_X5 hown hK hP 0 rfl rfl 3 (by decide) (hts (.fieldLink RX5 26 "ThriceCounted$Reader" "place" "I") (by decide +kernel)) (fun _ h9 => h9) rfl dX5_step_112 ?_
            refine lv_iconst (v := 1) hx hb dX5_step_115 (by decide) ?_
            refine lv_iadd hx hb dX5_step_116 ?_
            refine lv_topi (fun x_28 _ => ?_)
            refine va_put (D := (dC, dI)) (ci := 5) (v := .int x_28) (ty := .int) (C := RX5) (T := TX5) (N := 9) hx hb hts iw_d_step_X5 tyX5 tyX5_ok nmX5 hown hK hP hD hS 0 rfl rfl 3 (by decide) (hts (.fieldLink RX5 26 "ThriceCounted$Reader" "place" "I") (by decide +kernel)) (fun _ h9 => h9) rfl (by decide +kernel) rfl rfl (Nat.le_of_ble_eq_true rfl) dX5_step_117 (fun H locs hP hD hS => ?_)
            have hP : va_P (dC, dI) vwCl [(rd, .inr (5, [.ref (ad 0), .ref tx, .int nl_, .int x_28, .int 4, .int v_7, .int nv_, .int ni_, .int nf_])), (tx, .inl (ctx, 150, .inl fx))] H := hP
            have hD : va_D A [(rd, .inr (5, [.ref (ad 0), .ref tx, .int nl_, .int x_28, .int 4, .int v_7, .int nv_, .int ni_, .int nf_])), (tx, .inl (ctx, 150, .inl fx))] := hD
            have hP9 := hP.sub (ws' := [(rd, .inr (5, [.ref (ad 0), .ref tx, .int nl_, .int x_28, .int 4, .int v_7, .int nv_, .int ni_, .int nf_])), (tx, .inl (ctx, 150, .inl fx))]) [0, 1] rfl
            have hD9 := hD.sub (ws' := [(rd, .inr (5, [.ref (ad 0), .ref tx, .int nl_, .int x_28, .int 4, .int v_7, .int nv_, .int ni_, .int nf_])), (tx, .inl (ctx, 150, .inl fx))]) [0, 1] (by decide) rfl
            have hK9 := hK.sub (tys' := [(ctx, .byte)]) [0] rfl
            exact W.vret hx hb hr (fun t ht hW => ⟨⟨(), rfl, trivial, x_28, 4, v_7, nv_, ni_, nf_, by rw [ht]; exact hP9, va_K.moved hW.alike hK9, hD9⟩, hS.F ht⟩) hS.2.2 dX5_step_120
          · refine lv_iconst (v := 3) hx hb dX5_step_102 (by decide) ?_
            refine lv_goto (tgt := 107) hx hb dX5_step_103 (by decide) ?_
            refine va_put (D := (dC, dI)) (ci := 5) (v := .int 3) (ty := .int) (C := RX5) (T := TX5) (N := 9) hx hb hts iw_d_step_X5 tyX5 tyX5_ok nmX5 hown hK hP hD hS 0 rfl rfl 4 (by decide) (hts (.fieldLink RX5 29 "ThriceCounted$Reader" "kind" "I") (by decide +kernel)) (fun _ h9 => h9) rfl (by decide +kernel) rfl rfl (Nat.le_of_ble_eq_true rfl) dX5_step_107 (fun H locs hP hD hS => ?_)
            have hP : va_P (dC, dI) vwCl [(rd, .inr (5, [.ref (ad 0), .ref tx, .int nl_, .int v_7, .int 3, .int v_7, .int nv_, .int ni_, .int nf_])), (tx, .inl (ctx, 150, .inl fx))] H := hP
            have hD : va_D A [(rd, .inr (5, [.ref (ad 0), .ref tx, .int nl_, .int v_7, .int 3, .int v_7, .int nv_, .int ni_, .int nf_])), (tx, .inl (ctx, 150, .inl fx))] := hD
            refine lv_aload_n hx hb dX5_step_110 rfl (lv_at hl 1 rfl) ?_
            refine lv_dup hx hb dX5_step_111 rfl ?_
            refine va_get (D := (dC, dI)) (ci := 5) (v := .int v_7) (C := RX5) (T := TX5) (N := 9) hx hb hts iw_d_step_X5 hown hK hP 0 rfl rfl 3 (by decide) (hts (.fieldLink RX5 26 "ThriceCounted$Reader" "place" "I") (by decide +kernel)) (fun _ h9 => h9) rfl dX5_step_112 ?_
            refine lv_iconst (v := 1) hx hb dX5_step_115 (by decide) ?_
            refine lv_iadd hx hb dX5_step_116 ?_
            refine lv_topi (fun x_29 _ => ?_)
            refine va_put (D := (dC, dI)) (ci := 5) (v := .int x_29) (ty := .int) (C := RX5) (T := TX5) (N := 9) hx hb hts iw_d_step_X5 tyX5 tyX5_ok nmX5 hown hK hP hD hS 0 rfl rfl 3 (by decide) (hts (.fieldLink RX5 26 "ThriceCounted$Reader" "place" "I") (by decide +kernel)) (fun _ h9 => h9) rfl (by decide +kernel) rfl rfl (Nat.le_of_ble_eq_true rfl) dX5_step_117 (fun H locs hP hD hS => ?_)
            have hP : va_P (dC, dI) vwCl [(rd, .inr (5, [.ref (ad 0), .ref tx, .int nl_, .int x_29, .int 3, .int v_7, .int nv_, .int ni_, .int nf_])), (tx, .inl (ctx, 150, .inl fx))] H := hP
            have hD : va_D A [(rd, .inr (5, [.ref (ad 0), .ref tx, .int nl_, .int x_29, .int 3, .int v_7, .int nv_, .int ni_, .int nf_])), (tx, .inl (ctx, 150, .inl fx))] := hD
            have hP9 := hP.sub (ws' := [(rd, .inr (5, [.ref (ad 0), .ref tx, .int nl_, .int x_29, .int 3, .int v_7, .int nv_, .int ni_, .int nf_])), (tx, .inl (ctx, 150, .inl fx))]) [0, 1] rfl
            have hD9 := hD.sub (ws' := [(rd, .inr (5, [.ref (ad 0), .ref tx, .int nl_, .int x_29, .int 3, .int v_7, .int nv_, .int ni_, .int nf_])), (tx, .inl (ctx, 150, .inl fx))]) [0, 1] (by decide) rfl
            have hK9 := hK.sub (tys' := [(ctx, .byte)]) [0] rfl
            exact W.vret hx hb hr (fun t ht hW => ⟨⟨(), rfl, trivial, x_29, 3, v_7, nv_, ni_, nf_, by rw [ht]; exact hP9, va_K.moved hW.alike hK9, hD9⟩, hS.F ht⟩) hS.2.2 dX5_step_120
        · refine lv_aload_n hx hb dX5_step_88 rfl (lv_at hl 1 rfl) ?_
          have hPc := hP.sub (ws' := [(rd, .inr (5, [.ref (ad 0), .ref tx, .int nl_, .int v_7, .int nk_, .int v_7, .int nv_, .int ni_, .int nf_])), (tx, .inl (ctx, 150, .inl fx))]) [0, 1] rfl
          have hDc := hD.sub (ws' := [(rd, .inr (5, [.ref (ad 0), .ref tx, .int nl_, .int v_7, .int nk_, .int v_7, .int nv_, .int ni_, .int nf_])), (tx, .inl (ctx, 150, .inl fx))]) [0, 1] (by decide) rfl
          have hKc := hK.sub (tys' := [(ctx, .byte)]) [0] rfl
          have hFc := va_free (wc := [(rd, .inr (5, [.ref (ad 0), .ref tx, .int nl_, .int v_7, .int nk_, .int v_7, .int nv_, .int ni_, .int nf_])), (tx, .inl (ctx, 150, .inl fx))]) hD hS hA [0, 1] rfl
          refine va_callv (va_runV (As := []) (rest := []) ⟨hx, hb, hml, hown, hts⟩ (d_overNumber l dC dI rd ad tx nl_ v_7 nk_ v_7 nv_ ni_ nf_ ctx fx H.size) (cwV 0 hts gX5_step_X5_stepOverNumber rfl rfl rfl (by decide +kernel) ⟨Nat.le_of_ble_eq_true rfl, Nat.le_of_ble_eq_true rfl⟩) ⟨fun a U g mk q => by obtain ⟨q0, q1, qP, qK, qD⟩ := q; exact ⟨q0, q1, qP, va_K.moved (u := U) (U := U.calling g mk a) (Vm.Alike.refl U.vm) qK, qD⟩, va_recv hK hP (ci := 5) (q0 := 0) rfl rfl, fun U hU hW => ⟨rfl, by rw [hU], by rw [hU]; exact hPc, va_K.moved hW.alike hKc, hDc.weaken (fun _ _ _ _ => trivial)⟩⟩ rfl rfl hl.1 rfl (lv_room (Nat.le_of_ble_eq_true rfl)) dX5_step_89 ⟨Nat.le_of_ble_eq_true rfl, Nat.le_of_ble_eq_true rfl⟩) hS (fun q _ h => hFc q h) hFc (fun u_ t H1 locs ht hvm hw_31 hB hz1 hk1 hS => ?_)
          obtain ⟨gp__32, gk__33, gs__34, gv__35, gi__36, gf__37, hP1, hK1, hD1⟩ := hB
          rw [ht] at hP1
          have hK1 := va_K.moved hvm.symm hK1
          obtain ⟨hP, hD⟩ := va_join (wr := []) (w1 := [(rd, .inr (5, [.ref (ad 0), .ref tx, .int nl_, .int gp__32, .int gk__33, .int gs__34, .int gv__35, .int gi__36, .int gf__37])), (tx, .inl (ctx, 150, .inl fx))]) hP hD [0, 1] [] rfl rfl (by decide) (by decide) hk1 hFc hP1 hD1
          generalize H1 = H at hP hS ⊢
          have hP : va_P (dC, dI) vwCl [(rd, .inr (5, [.ref (ad 0), .ref tx, .int nl_, .int gp__32, .int gk__33, .int gs__34, .int gv__35, .int gi__36, .int gf__37])), (tx, .inl (ctx, 150, .inl fx))] H := hP
          have hD : va_D A [(rd, .inr (5, [.ref (ad 0), .ref tx, .int nl_, .int gp__32, .int gk__33, .int gs__34, .int gv__35, .int gi__36, .int gf__37])), (tx, .inl (ctx, 150, .inl fx))] := hD
          refine lv_goto (tgt := 120) hx hb dX5_step_92 (by decide) ?_
          have hP9 := hP.sub (ws' := [(rd, .inr (5, [.ref (ad 0), .ref tx, .int nl_, .int gp__32, .int gk__33, .int gs__34, .int gv__35, .int gi__36, .int gf__37])), (tx, .inl (ctx, 150, .inl fx))]) [0, 1] rfl
          have hD9 := hD.sub (ws' := [(rd, .inr (5, [.ref (ad 0), .ref tx, .int nl_, .int gp__32, .int gk__33, .int gs__34, .int gv__35, .int gi__36, .int gf__37])), (tx, .inl (ctx, 150, .inl fx))]) [0, 1] (by decide) rfl
          have hK9 := hK.sub (tys' := [(ctx, .byte)]) [0] rfl
          exact W.vret hx hb hr (fun t ht hW => ⟨⟨(), rfl, trivial, gp__32, gk__33, gs__34, gv__35, gi__36, gf__37, by rw [ht]; exact hP9, va_K.moved hW.alike hK9, hD9⟩, hS.F ht⟩) hS.2.2 dX5_step_120
      · refine lv_aload_n hx hb dX5_step_74 rfl (lv_at hl 1 rfl) ?_
        have hPc := hP.sub (ws' := [(rd, .inr (5, [.ref (ad 0), .ref tx, .int nl_, .int v_7, .int nk_, .int v_7, .int nv_, .int ni_, .int nf_])), (tx, .inl (ctx, 150, .inl fx))]) [0, 1] rfl
        have hDc := hD.sub (ws' := [(rd, .inr (5, [.ref (ad 0), .ref tx, .int nl_, .int v_7, .int nk_, .int v_7, .int nv_, .int ni_, .int nf_])), (tx, .inl (ctx, 150, .inl fx))]) [0, 1] (by decide) rfl
        have hKc := hK.sub (tys' := [(ctx, .byte)]) [0] rfl
        have hFc := va_free (wc := [(rd, .inr (5, [.ref (ad 0), .ref tx, .int nl_, .int v_7, .int nk_, .int v_7, .int nv_, .int ni_, .int nf_])), (tx, .inl (ctx, 150, .inl fx))]) hD hS hA [0, 1] rfl
        refine va_callv (va_runV (As := []) (rest := []) ⟨hx, hb, hml, hown, hts⟩ (d_overWord l dC dI rd ad tx nl_ v_7 nk_ v_7 nv_ ni_ nf_ ctx fx H.size) (cwV 0 hts gX5_step_X5_stepOverWord rfl rfl rfl (by decide +kernel) ⟨Nat.le_of_ble_eq_true rfl, Nat.le_of_ble_eq_true rfl⟩) ⟨fun a U g mk q => by obtain ⟨q0, q1, qP, qK, qD⟩ := q; exact ⟨q0, q1, qP, va_K.moved (u := U) (U := U.calling g mk a) (Vm.Alike.refl U.vm) qK, qD⟩, va_recv hK hP (ci := 5) (q0 := 0) rfl rfl, fun U hU hW => ⟨rfl, by rw [hU], by rw [hU]; exact hPc, va_K.moved hW.alike hKc, hDc.weaken (fun _ _ _ _ => trivial)⟩⟩ rfl rfl hl.1 rfl (lv_room (Nat.le_of_ble_eq_true rfl)) dX5_step_75 ⟨Nat.le_of_ble_eq_true rfl, Nat.le_of_ble_eq_true rfl⟩) hS (fun q _ h => hFc q h) hFc (fun u_ t H1 locs ht hvm hw_39 hB hz1 hk1 hS => ?_)
        obtain ⟨gp__40, gk__41, gs__42, gv__43, gi__44, gf__45, hP1, hK1, hD1⟩ := hB
        rw [ht] at hP1
        have hK1 := va_K.moved hvm.symm hK1
        obtain ⟨hP, hD⟩ := va_join (wr := []) (w1 := [(rd, .inr (5, [.ref (ad 0), .ref tx, .int nl_, .int gp__40, .int gk__41, .int gs__42, .int gv__43, .int gi__44, .int gf__45])), (tx, .inl (ctx, 150, .inl fx))]) hP hD [0, 1] [] rfl rfl (by decide) (by decide) hk1 hFc hP1 hD1
        generalize H1 = H at hP hS ⊢
        have hP : va_P (dC, dI) vwCl [(rd, .inr (5, [.ref (ad 0), .ref tx, .int nl_, .int gp__40, .int gk__41, .int gs__42, .int gv__43, .int gi__44, .int gf__45])), (tx, .inl (ctx, 150, .inl fx))] H := hP
        have hD : va_D A [(rd, .inr (5, [.ref (ad 0), .ref tx, .int nl_, .int gp__40, .int gk__41, .int gs__42, .int gv__43, .int gi__44, .int gf__45])), (tx, .inl (ctx, 150, .inl fx))] := hD
        refine lv_goto (tgt := 120) hx hb dX5_step_78 (by decide) ?_
        have hP9 := hP.sub (ws' := [(rd, .inr (5, [.ref (ad 0), .ref tx, .int nl_, .int gp__40, .int gk__41, .int gs__42, .int gv__43, .int gi__44, .int gf__45])), (tx, .inl (ctx, 150, .inl fx))]) [0, 1] rfl
        have hD9 := hD.sub (ws' := [(rd, .inr (5, [.ref (ad 0), .ref tx, .int nl_, .int gp__40, .int gk__41, .int gs__42, .int gv__43, .int gi__44, .int gf__45])), (tx, .inl (ctx, 150, .inl fx))]) [0, 1] (by decide) rfl
        have hK9 := hK.sub (tys' := [(ctx, .byte)]) [0] rfl
        exact W.vret hx hb hr (fun t ht hW => ⟨⟨(), rfl, trivial, gp__40, gk__41, gs__42, gv__43, gi__44, gf__45, by rw [ht]; exact hP9, va_K.moved hW.alike hK9, hD9⟩, hS.F ht⟩) hS.2.2 dX5_step_120
    · refine lv_aload_n hx hb dX5_step_59 rfl (lv_at hl 1 rfl) ?_
      refine lv_iconst (v := 0) hx hb dX5_step_60 (by decide) ?_
      refine va_put (D := (dC, dI)) (ci := 5) (v := .int 0) (ty := .int) (C := RX5) (T := TX5) (N := 9) hx hb hts iw_d_step_X5 tyX5 tyX5_ok nmX5 hown hK hP hD hS 0 rfl rfl 4 (by decide) (hts (.fieldLink RX5 29 "ThriceCounted$Reader" "kind" "I") (by decide +kernel)) (fun _ h9 => h9) rfl (by decide +kernel) rfl rfl (Nat.le_of_ble_eq_true rfl) dX5_step_61 (fun H locs hP hD hS => ?_)
      have hP : va_P (dC, dI) vwCl [(rd, .inr (5, [.ref (ad 0), .ref tx, .int nl_, .int v_7, .int 0, .int v_7, .int nv_, .int ni_, .int nf_])), (tx, .inl (ctx, 150, .inl fx))] H := hP
      have hD : va_D A [(rd, .inr (5, [.ref (ad 0), .ref tx, .int nl_, .int v_7, .int 0, .int v_7, .int nv_, .int ni_, .int nf_])), (tx, .inl (ctx, 150, .inl fx))] := hD
      refine lv_goto (tgt := 120) hx hb dX5_step_64 (by decide) ?_
      have hP9 := hP.sub (ws' := [(rd, .inr (5, [.ref (ad 0), .ref tx, .int nl_, .int v_7, .int 0, .int v_7, .int nv_, .int ni_, .int nf_])), (tx, .inl (ctx, 150, .inl fx))]) [0, 1] rfl
      have hD9 := hD.sub (ws' := [(rd, .inr (5, [.ref (ad 0), .ref tx, .int nl_, .int v_7, .int 0, .int v_7, .int nv_, .int ni_, .int nf_])), (tx, .inl (ctx, 150, .inl fx))]) [0, 1] (by decide) rfl
      have hK9 := hK.sub (tys' := [(ctx, .byte)]) [0] rfl
      exact W.vret hx hb hr (fun t ht hW => ⟨⟨(), rfl, trivial, v_7, 0, v_7, nv_, ni_, nf_, by rw [ht]; exact hP9, va_K.moved hW.alike hK9, hD9⟩, hS.F ht⟩) hS.2.2 dX5_step_120
  · refine lv_aload_n hx hb dX5_step_11 rfl (lv_at hl 0 rfl) ?_
    refine lv_aload_n hx hb dX5_step_12 rfl (lv_at hl 0 rfl) ?_
    refine va_get (D := (dC, dI)) (ci := 5) (v := .int v_7) (C := RX5) (T := TX5) (N := 9) hx hb hts iw_d_step_X5 hown hK hP 0 rfl rfl 3 (by decide) (hts (.fieldLink RX5 26 "ThriceCounted$Reader" "place" "I") (by decide +kernel)) (fun _ h9 => h9) rfl dX5_step_13 ?_
    have hPc_46 := hP.sub (ws' := [(rd, .inr (5, [.ref (ad 0), .ref tx, .int nl_, .int v_7, .int nk_, .int ns_, .int nv_, .int ni_, .int nf_])), (tx, .inl (ctx, 150, .inl fx))]) [0, 1] rfl
    have hKc_47 := hK.sub (tys' := [(ctx, .byte)]) [0] rfl
    refine vp_callSi (va_Run.run (va_runV (As := [.int v_7]) (rest := []) ⟨hx, hb, hml, hown, hts⟩ (d_at l dC dI rd ad tx nl_ v_7 nk_ ns_ nv_ ni_ nf_ ctx fx v_7) (cwV 1 hts gX5_step_X5_at rfl rfl rfl (by decide +kernel) ⟨Nat.le_of_ble_eq_true rfl, Nat.le_of_ble_eq_true rfl⟩) ⟨fun a U g mk q => by obtain ⟨q0, qP, qK⟩ := q; exact ⟨q0, qP, va_K.moved (u := U) (U := U.calling g mk a) (Vm.Alike.refl U.vm) qK⟩, va_recv hK hP (ci := 5) (q0 := 0) rfl rfl, fun U hU hW => ⟨rfl, by rw [hU]; exact hPc_46, va_K.moved hW.alike hKc_47⟩⟩ rfl rfl hl.1 rfl (lv_room (Nat.le_of_ble_eq_true rfl)) dX5_step_16 ⟨Nat.le_of_ble_eq_true rfl, Nat.le_of_ble_eq_true rfl⟩)) (fun r_48 hw_49 => ?_)
    refine lv_bipush (v := 32) hx hb dX5_step_19 (by decide) ?_
    refine lv_icmp_ne (tgt := 37) hx hb dX5_step_21 (by decide) (fun c_50 => ?_) (fun c_50 => ?_)
    · refine lv_aload_n hx hb dX5_step_37 rfl (lv_at hl 0 rfl) ?_
      refine lv_aload_n hx hb dX5_step_38 rfl (lv_at hl 0 rfl) ?_
      refine va_get (D := (dC, dI)) (ci := 5) (v := .int v_7) (C := RX5) (T := TX5) (N := 9) hx hb hts iw_d_step_X5 hown hK hP 0 rfl rfl 3 (by decide) (hts (.fieldLink RX5 26 "ThriceCounted$Reader" "place" "I") (by decide +kernel)) (fun _ h9 => h9) rfl dX5_step_39 ?_
      refine va_put (D := (dC, dI)) (ci := 5) (v := .int v_7) (ty := .int) (C := RX5) (T := TX5) (N := 9) hx hb hts iw_d_step_X5 tyX5 tyX5_ok nmX5 hown hK hP hD hS 0 rfl rfl 5 (by decide) (hts (.fieldLink RX5 32 "ThriceCounted$Reader" "start" "I") (by decide +kernel)) (fun _ h9 => h9) rfl (by decide +kernel) rfl rfl (Nat.le_of_ble_eq_true rfl) dX5_step_42 (fun H locs hP hD hS => ?_)
      have hP : va_P (dC, dI) vwCl [(rd, .inr (5, [.ref (ad 0), .ref tx, .int nl_, .int v_7, .int nk_, .int v_7, .int nv_, .int ni_, .int nf_])), (tx, .inl (ctx, 150, .inl fx))] H := hP
      have hD : va_D A [(rd, .inr (5, [.ref (ad 0), .ref tx, .int nl_, .int v_7, .int nk_, .int v_7, .int nv_, .int ni_, .int nf_])), (tx, .inl (ctx, 150, .inl fx))] := hD
      refine lv_aload_n hx hb dX5_step_45 rfl (lv_at hl 0 rfl) ?_
      refine lv_aload_n hx hb dX5_step_46 rfl (lv_at hl 0 rfl) ?_
      refine va_get (D := (dC, dI)) (ci := 5) (v := .int v_7) (C := RX5) (T := TX5) (N := 9) hx hb hts iw_d_step_X5 hown hK hP 0 rfl rfl 3 (by decide) (hts (.fieldLink RX5 26 "ThriceCounted$Reader" "place" "I") (by decide +kernel)) (fun _ h9 => h9) rfl dX5_step_47 ?_
      have hPc_51 := hP.sub (ws' := [(rd, .inr (5, [.ref (ad 0), .ref tx, .int nl_, .int v_7, .int nk_, .int v_7, .int nv_, .int ni_, .int nf_])), (tx, .inl (ctx, 150, .inl fx))]) [0, 1] rfl
      have hKc_52 := hK.sub (tys' := [(ctx, .byte)]) [0] rfl
      refine vp_callSi (va_Run.run (va_runV (As := [.int v_7]) (rest := []) ⟨hx, hb, hml, hown, hts⟩ (d_at l dC dI rd ad tx nl_ v_7 nk_ v_7 nv_ ni_ nf_ ctx fx v_7) (cwV 1 hts gX5_step_X5_at rfl rfl rfl (by decide +kernel) ⟨Nat.le_of_ble_eq_true rfl, Nat.le_of_ble_eq_true rfl⟩) ⟨fun a U g mk q => by obtain ⟨q0, qP, qK⟩ := q; exact ⟨q0, qP, va_K.moved (u := U) (U := U.calling g mk a) (Vm.Alike.refl U.vm) qK⟩, va_recv hK hP (ci := 5) (q0 := 0) rfl rfl, fun U hU hW => ⟨rfl, by rw [hU]; exact hPc_51, va_K.moved hW.alike hKc_52⟩⟩ rfl rfl hl.1 rfl (lv_room (Nat.le_of_ble_eq_true rfl)) dX5_step_50 ⟨Nat.le_of_ble_eq_true rfl, Nat.le_of_ble_eq_true rfl⟩)) (fun r_53 hw_54 => ?_)
      refine lv_istore_n (lv' := [(1, .int r_53), (0, .ref rd)]) hx hb dX5_step_53 rfl hl (by decide) rfl (fun ls hl => ?_)
      refine lv_iload_n hx hb dX5_step_54 rfl (lv_at hl 0 rfl) ?_
      refine lv_iconst (v := (-1)) hx hb dX5_step_55 (by decide) ?_
      refine lv_icmp_ne (tgt := 67) hx hb dX5_step_56 (by decide) (fun c_55 => ?_) (fun c_55 => ?_)
      · refine lv_iload_n hx hb dX5_step_67 rfl (lv_at hl 0 rfl) ?_
        refine vp_callSi (va_Run.run (va_runS (As := [.int r_53]) (rest := []) ⟨hx, hb, hml, hown, hts⟩ (d_isLetter l dC dI r_53) (va_cwS 1 hts gX5_step_X5_isLetter rfl rfl rfl (by decide +kernel) ⟨Nat.le_of_ble_eq_true rfl, Nat.le_of_ble_eq_true rfl⟩) ⟨fun a U g mk q => ⟨q.1, trivial⟩, fun U hU hW => ⟨rfl, trivial⟩⟩ rfl rfl hl.1 rfl (lv_room (Nat.le_of_ble_eq_true rfl)) dX5_step_68 ⟨Nat.le_of_ble_eq_true rfl, Nat.le_of_ble_eq_true rfl⟩)) (fun r_56 hw_57 => ?_)
        refine lv_if_eq (tgt := 81) hx hb dX5_step_71 (by decide) (fun c_58 => ?_) (fun c_58 => ?_)
        · refine lv_iload_n hx hb dX5_step_81 rfl (lv_at hl 0 rfl) ?_
          refine vp_callSi (va_Run.run (va_runS (As := [.int r_53]) (rest := []) ⟨hx, hb, hml, hown, hts⟩ (d_isFigure l dC dI r_53) (va_cwS 1 hts gX5_step_X5_isFigure rfl rfl rfl (by decide +kernel) ⟨Nat.le_of_ble_eq_true rfl, Nat.le_of_ble_eq_true rfl⟩) ⟨fun a U g mk q => ⟨q.1, trivial⟩, fun U hU hW => ⟨rfl, trivial⟩⟩ rfl rfl hl.1 rfl (lv_room (Nat.le_of_ble_eq_true rfl)) dX5_step_82 ⟨Nat.le_of_ble_eq_true rfl, Nat.le_of_ble_eq_true rfl⟩)) (fun r_59 hw_60 => ?_)
          refine lv_if_eq (tgt := 95) hx hb dX5_step_85 (by decide) (fun c_61 => ?_) (fun c_61 => ?_)
          · refine lv_aload_n hx hb dX5_step_95 rfl (lv_at hl 1 rfl) ?_
            refine lv_iload_n hx hb dX5_step_96 rfl (lv_at hl 0 rfl) ?_
            refine lv_bipush (v := 59) hx hb dX5_step_97 (by decide) ?_
            refine lv_icmp_ne (tgt := 106) hx hb dX5_step_99 (by decide) (fun c_62 => ?_) (fun c_62 => ?_)
            · refine lv_iconst (v := 4) hx hb dX5_step_106 (by decide) ?_
              refine va_put (D := (dC, dI)) (ci := 5) (v := .int 4) (ty := .int) (C := RX5) (T := TX5) (N := 9) hx hb hts iw_d_step_X5 tyX5 tyX5_ok nmX5 hown hK hP hD hS 0 rfl rfl 4 (by decide) (hts (.fieldLink RX5 29 "ThriceCounted$Reader" "kind" "I") (by decide +kernel)) (fun _ h9 => h9) rfl (by decide +kernel) rfl rfl (Nat.le_of_ble_eq_true rfl) dX5_step_107 (fun H locs hP hD hS => ?_)
              have hP : va_P (dC, dI) vwCl [(rd, .inr (5, [.ref (ad 0), .ref tx, .int nl_, .int v_7, .int 4, .int v_7, .int nv_, .int ni_, .int nf_])), (tx, .inl (ctx, 150, .inl fx))] H := hP
              have hD : va_D A [(rd, .inr (5, [.ref (ad 0), .ref tx, .int nl_, .int v_7, .int 4, .int v_7, .int nv_, .int ni_, .int nf_])), (tx, .inl (ctx, 150, .inl fx))] := hD
              refine lv_aload_n hx hb dX5_step_110 rfl (lv_at hl 1 rfl) ?_
              refine lv_dup hx hb dX5_step_111 rfl ?_
              refine va_get (D := (dC, dI)) (ci := 5) (v := .int v_7) (C := RX5) (T := TX5) (N := 9) hx hb hts iw_d_step_X5 hown hK hP 0 rfl rfl 3 (by decide) (hts (.fieldLink RX5 26 "ThriceCounted$Reader" "place" "I") (by decide +kernel)) (fun _ h9 => h9) rfl dX5_step_112 ?_
              refine lv_iconst (v := 1) hx hb dX5_step_115 (by decide) ?_
              refine lv_iadd hx hb dX5_step_116 ?_
              refine lv_topi (fun x_63 _ => ?_)
              refine va_put (D := (dC, dI)) (ci := 5) (v := .int x_63) (ty := .int) (C := RX5) (T := TX5) (N := 9) hx hb hts iw_d_step_X5 tyX5 tyX5_ok nmX5 hown hK hP hD hS 0 rfl rfl 3 (by decide) (hts (.fieldLink RX5 26 "ThriceCounted$Reader" "place" "I") (by decide +kernel)) (fun _ h9 => h9) rfl (by decide +kernel) rfl rfl (Nat.le_of_ble_eq_true rfl) dX5_step_117 (fun H locs hP hD hS => ?_)
              have hP : va_P (dC, dI) vwCl [(rd, .inr (5, [.ref (ad 0), .ref tx, .int nl_, .int x_63, .int 4, .int v_7, .int nv_, .int ni_, .int nf_])), (tx, .inl (ctx, 150, .inl fx))] H := hP
              have hD : va_D A [(rd, .inr (5, [.ref (ad 0), .ref tx, .int nl_, .int x_63, .int 4, .int v_7, .int nv_, .int ni_, .int nf_])), (tx, .inl (ctx, 150, .inl fx))] := hD
              have hP9 := hP.sub (ws' := [(rd, .inr (5, [.ref (ad 0), .ref tx, .int nl_, .int x_63, .int 4, .int v_7, .int nv_, .int ni_, .int nf_])), (tx, .inl (ctx, 150, .inl fx))]) [0, 1] rfl
              have hD9 := hD.sub (ws' := [(rd, .inr (5, [.ref (ad 0), .ref tx, .int nl_, .int x_63, .int 4, .int v_7, .int nv_, .int ni_, .int nf_])), (tx, .inl (ctx, 150, .inl fx))]) [0, 1] (by decide) rfl
              have hK9 := hK.sub (tys' := [(ctx, .byte)]) [0] rfl
              exact W.vret hx hb hr (fun t ht hW => ⟨⟨(), rfl, trivial, x_63, 4, v_7, nv_, ni_, nf_, by rw [ht]; exact hP9, va_K.moved hW.alike hK9, hD9⟩, hS.F ht⟩) hS.2.2 dX5_step_120
            · refine lv_iconst (v := 3) hx hb dX5_step_102 (by decide) ?_
              refine lv_goto (tgt := 107) hx hb dX5_step_103 (by decide) ?_
              refine va_put (D := (dC, dI)) (ci := 5) (v := .int 3) (ty := .int) (C := RX5) (T := TX5) (N := 9) hx hb hts iw_d_step_X5 tyX5 tyX5_ok nmX5 hown hK hP hD hS 0 rfl rfl 4 (by decide) (hts (.fieldLink RX5 29 "ThriceCounted$Reader" "kind" "I") (by decide +kernel)) (fun _ h9 => h9) rfl (by decide +kernel) rfl rfl (Nat.le_of_ble_eq_true rfl) dX5_step_107 (fun H locs hP hD hS => ?_)
              have hP : va_P (dC, dI) vwCl [(rd, .inr (5, [.ref (ad 0), .ref tx, .int nl_, .int v_7, .int 3, .int v_7, .int nv_, .int ni_, .int nf_])), (tx, .inl (ctx, 150, .inl fx))] H := hP
              have hD : va_D A [(rd, .inr (5, [.ref (ad 0), .ref tx, .int nl_, .int v_7, .int 3, .int v_7, .int nv_, .int ni_, .int nf_])), (tx, .inl (ctx, 150, .inl fx))] := hD
              refine lv_aload_n hx hb dX5_step_110 rfl (lv_at hl 1 rfl) ?_
              refine lv_dup hx hb dX5_step_111 rfl ?_
              refine va_get (D := (dC, dI)) (ci := 5) (v := .int v_7) (C := RX5) (T := TX5) (N := 9) hx hb hts iw_d_step_X5 hown hK hP 0 rfl rfl 3 (by decide) (hts (.fieldLink RX5 26 "ThriceCounted$Reader" "place" "I") (by decide +kernel)) (fun _ h9 => h9) rfl dX5_step_112 ?_
              refine lv_iconst (v := 1) hx hb dX5_step_115 (by decide) ?_
              refine lv_iadd hx hb dX5_step_116 ?_
              refine lv_topi (fun x_64 _ => ?_)
              refine va_put (D := (dC, dI)) (ci := 5) (v := .int x_64) (ty := .int) (C := RX5) (T := TX5) (N := 9) hx hb hts iw_d_step_X5 tyX5 tyX5_ok nmX5 hown hK hP hD hS 0 rfl rfl 3 (by decide) (hts (.fieldLink RX5 26 "ThriceCounted$Reader" "place" "I") (by decide +kernel)) (fun _ h9 => h9) rfl (by decide +kernel) rfl rfl (Nat.le_of_ble_eq_true rfl) dX5_step_117 (fun H locs hP hD hS => ?_)
              have hP : va_P (dC, dI) vwCl [(rd, .inr (5, [.ref (ad 0), .ref tx, .int nl_, .int x_64, .int 3, .int v_7, .int nv_, .int ni_, .int nf_])), (tx, .inl (ctx, 150, .inl fx))] H := hP
              have hD : va_D A [(rd, .inr (5, [.ref (ad 0), .ref tx, .int nl_, .int x_64, .int 3, .int v_7, .int nv_, .int ni_, .int nf_])), (tx, .inl (ctx, 150, .inl fx))] := hD
              have hP9 := hP.sub (ws' := [(rd, .inr (5, [.ref (ad 0), .ref tx, .int nl_, .int x_64, .int 3, .int v_7, .int nv_, .int ni_, .int nf_])), (tx, .inl (ctx, 150, .inl fx))]) [0, 1] rfl
              have hD9 := hD.sub (ws' := [(rd, .inr (5, [.ref (ad 0), .ref tx, .int nl_, .int x_64, .int 3, .int v_7, .int nv_, .int ni_, .int nf_])), (tx, .inl (ctx, 150, .inl fx))]) [0, 1] (by decide) rfl
              have hK9 := hK.sub (tys' := [(ctx, .byte)]) [0] rfl
              exact W.vret hx hb hr (fun t ht hW => ⟨⟨(), rfl, trivial, x_64, 3, v_7, nv_, ni_, nf_, by rw [ht]; exact hP9, va_K.moved hW.alike hK9, hD9⟩, hS.F ht⟩) hS.2.2 dX5_step_120
          · refine lv_aload_n hx hb dX5_step_88 rfl (lv_at hl 1 rfl) ?_
            have hPc := hP.sub (ws' := [(rd, .inr (5, [.ref (ad 0), .ref tx, .int nl_, .int v_7, .int nk_, .int v_7, .int nv_, .int ni_, .int nf_])), (tx, .inl (ctx, 150, .inl fx))]) [0, 1] rfl
            have hDc := hD.sub (ws' := [(rd, .inr (5, [.ref (ad 0), .ref tx, .int nl_, .int v_7, .int nk_, .int v_7, .int nv_, .int ni_, .int nf_])), (tx, .inl (ctx, 150, .inl fx))]) [0, 1] (by decide) rfl
            have hKc := hK.sub (tys' := [(ctx, .byte)]) [0] rfl
            have hFc := va_free (wc := [(rd, .inr (5, [.ref (ad 0), .ref tx, .int nl_, .int v_7, .int nk_, .int v_7, .int nv_, .int ni_, .int nf_])), (tx, .inl (ctx, 150, .inl fx))]) hD hS hA [0, 1] rfl
            refine va_callv (va_runV (As := []) (rest := []) ⟨hx, hb, hml, hown, hts⟩ (d_overNumber l dC dI rd ad tx nl_ v_7 nk_ v_7 nv_ ni_ nf_ ctx fx H.size) (cwV 0 hts gX5_step_X5_stepOverNumber rfl rfl rfl (by decide +kernel) ⟨Nat.le_of_ble_eq_true rfl, Nat.le_of_ble_eq_true rfl⟩) ⟨fun a U g mk q => by obtain ⟨q0, q1, qP, qK, qD⟩ := q; exact ⟨q0, q1, qP, va_K.moved (u := U) (U := U.calling g mk a) (Vm.Alike.refl U.vm) qK, qD⟩, va_recv hK hP (ci := 5) (q0 := 0) rfl rfl, fun U hU hW => ⟨rfl, by rw [hU], by rw [hU]; exact hPc, va_K.moved hW.alike hKc, hDc.weaken (fun _ _ _ _ => trivial)⟩⟩ rfl rfl hl.1 rfl (lv_room (Nat.le_of_ble_eq_true rfl)) dX5_step_89 ⟨Nat.le_of_ble_eq_true rfl, Nat.le_of_ble_eq_true rfl⟩) hS (fun q _ h => hFc q h) hFc (fun u_ t H1 locs ht hvm hw_66 hB hz1 hk1 hS => ?_)
            obtain ⟨gp__67, gk__68, gs__69, gv__70, gi__71, gf__72, hP1, hK1, hD1⟩ := hB
            rw [ht] at hP1
            have hK1 := va_K.moved hvm.symm hK1
            obtain ⟨hP, hD⟩ := va_join (wr := []) (w1 := [(rd, .inr (5, [.ref (ad 0), .ref tx, .int nl_, .int gp__67, .int gk__68, .int gs__69, .int gv__70, .int gi__71, .int gf__72])), (tx, .inl (ctx, 150, .inl fx))]) hP hD [0, 1] [] rfl rfl (by decide) (by decide) hk1 hFc hP1 hD1
            generalize H1 = H at hP hS ⊢
            have hP : va_P (dC, dI) vwCl [(rd, .inr (5, [.ref (ad 0), .ref tx, .int nl_, .int gp__67, .int gk__68, .int gs__69, .int gv__70, .int gi__71, .int gf__72])), (tx, .inl (ctx, 150, .inl fx))] H := hP
            have hD : va_D A [(rd, .inr (5, [.ref (ad 0), .ref tx, .int nl_, .int gp__67, .int gk__68, .int gs__69, .int gv__70, .int gi__71, .int gf__72])), (tx, .inl (ctx, 150, .inl fx))] := hD
            refine lv_goto (tgt := 120) hx hb dX5_step_92 (by decide) ?_
            have hP9 := hP.sub (ws' := [(rd, .inr (5, [.ref (ad 0), .ref tx, .int nl_, .int gp__67, .int gk__68, .int gs__69, .int gv__70, .int gi__71, .int gf__72])), (tx, .inl (ctx, 150, .inl fx))]) [0, 1] rfl
            have hD9 := hD.sub (ws' := [(rd, .inr (5, [.ref (ad 0), .ref tx, .int nl_, .int gp__67, .int gk__68, .int gs__69, .int gv__70, .int gi__71, .int gf__72])), (tx, .inl (ctx, 150, .inl fx))]) [0, 1] (by decide) rfl
            have hK9 := hK.sub (tys' := [(ctx, .byte)]) [0] rfl
            exact W.vret hx hb hr (fun t ht hW => ⟨⟨(), rfl, trivial, gp__67, gk__68, gs__69, gv__70, gi__71, gf__72, by rw [ht]; exact hP9, va_K.moved hW.alike hK9, hD9⟩, hS.F ht⟩) hS.2.2 dX5_step_120
        · refine lv_aload_n hx hb dX5_step_74 rfl (lv_at hl 1 rfl) ?_
          have hPc := hP.sub (ws' := [(rd, .inr (5, [.ref (ad 0), .ref tx, .int nl_, .int v_7, .int nk_, .int v_7, .int nv_, .int ni_, .int nf_])), (tx, .inl (ctx, 150, .inl fx))]) [0, 1] rfl
          have hDc := hD.sub (ws' := [(rd, .inr (5, [.ref (ad 0), .ref tx, .int nl_, .int v_7, .int nk_, .int v_7, .int nv_, .int ni_, .int nf_])), (tx, .inl (ctx, 150, .inl fx))]) [0, 1] (by decide) rfl
          have hKc := hK.sub (tys' := [(ctx, .byte)]) [0] rfl
          have hFc := va_free (wc := [(rd, .inr (5, [.ref (ad 0), .ref tx, .int nl_, .int v_7, .int nk_, .int v_7, .int nv_, .int ni_, .int nf_])), (tx, .inl (ctx, 150, .inl fx))]) hD hS hA [0, 1] rfl
          refine va_callv (va_runV (As := []) (rest := []) ⟨hx, hb, hml, hown, hts⟩ (d_overWord l dC dI rd ad tx nl_ v_7 nk_ v_7 nv_ ni_ nf_ ctx fx H.size) (cwV 0 hts gX5_step_X5_stepOverWord rfl rfl rfl (by decide +kernel) ⟨Nat.le_of_ble_eq_true rfl, Nat.le_of_ble_eq_true rfl⟩) ⟨fun a U g mk q => by obtain ⟨q0, q1, qP, qK, qD⟩ := q; exact ⟨q0, q1, qP, va_K.moved (u := U) (U := U.calling g mk a) (Vm.Alike.refl U.vm) qK, qD⟩, va_recv hK hP (ci := 5) (q0 := 0) rfl rfl, fun U hU hW => ⟨rfl, by rw [hU], by rw [hU]; exact hPc, va_K.moved hW.alike hKc, hDc.weaken (fun _ _ _ _ => trivial)⟩⟩ rfl rfl hl.1 rfl (lv_room (Nat.le_of_ble_eq_true rfl)) dX5_step_75 ⟨Nat.le_of_ble_eq_true rfl, Nat.le_of_ble_eq_true rfl⟩) hS (fun q _ h => hFc q h) hFc (fun u_ t H1 locs ht hvm hw_74 hB hz1 hk1 hS => ?_)
          obtain ⟨gp__75, gk__76, gs__77, gv__78, gi__79, gf__80, hP1, hK1, hD1⟩ := hB
          rw [ht] at hP1
          have hK1 := va_K.moved hvm.symm hK1
          obtain ⟨hP, hD⟩ := va_join (wr := []) (w1 := [(rd, .inr (5, [.ref (ad 0), .ref tx, .int nl_, .int gp__75, .int gk__76, .int gs__77, .int gv__78, .int gi__79, .int gf__80])), (tx, .inl (ctx, 150, .inl fx))]) hP hD [0, 1] [] rfl rfl (by decide) (by decide) hk1 hFc hP1 hD1
          generalize H1 = H at hP hS ⊢
          have hP : va_P (dC, dI) vwCl [(rd, .inr (5, [.ref (ad 0), .ref tx, .int nl_, .int gp__75, .int gk__76, .int gs__77, .int gv__78, .int gi__79, .int gf__80])), (tx, .inl (ctx, 150, .inl fx))] H := hP
          have hD : va_D A [(rd, .inr (5, [.ref (ad 0), .ref tx, .int nl_, .int gp__75, .int gk__76, .int gs__77, .int gv__78, .int gi__79, .int gf__80])), (tx, .inl (ctx, 150, .inl fx))] := hD
          refine lv_goto (tgt := 120) hx hb dX5_step_78 (by decide) ?_
          have hP9 := hP.sub (ws' := [(rd, .inr (5, [.ref (ad 0), .ref tx, .int nl_, .int gp__75, .int gk__76, .int gs__77, .int gv__78, .int gi__79, .int gf__80])), (tx, .inl (ctx, 150, .inl fx))]) [0, 1] rfl
          have hD9 := hD.sub (ws' := [(rd, .inr (5, [.ref (ad 0), .ref tx, .int nl_, .int gp__75, .int gk__76, .int gs__77, .int gv__78, .int gi__79, .int gf__80])), (tx, .inl (ctx, 150, .inl fx))]) [0, 1] (by decide) rfl
          have hK9 := hK.sub (tys' := [(ctx, .byte)]) [0] rfl
          exact W.vret hx hb hr (fun t ht hW => ⟨⟨(), rfl, trivial, gp__75, gk__76, gs__77, gv__78, gi__79, gf__80, by rw [ht]; exact hP9, va_K.moved hW.alike hK9, hD9⟩, hS.F ht⟩) hS.2.2 dX5_step_120
      · refine lv_aload_n hx hb dX5_step_59 rfl (lv_at hl 1 rfl) ?_
        refine lv_iconst (v := 0) hx hb dX5_step_60 (by decide) ?_
        refine va_put (D := (dC, dI)) (ci := 5) (v := .int 0) (ty := .int) (C := RX5) (T := TX5) (N := 9) hx hb hts iw_d_step_X5 tyX5 tyX5_ok nmX5 hown hK hP hD hS 0 rfl rfl 4 (by decide) (hts (.fieldLink RX5 29 "ThriceCounted$Reader" "kind" "I") (by decide +kernel)) (fun _ h9 => h9) rfl (by decide +kernel) rfl rfl (Nat.le_of_ble_eq_true rfl) dX5_step_61 (fun H locs hP hD hS => ?_)
        have hP : va_P (dC, dI) vwCl [(rd, .inr (5, [.ref (ad 0), .ref tx, .int nl_, .int v_7, .int 0, .int v_7, .int nv_, .int ni_, .int nf_])), (tx, .inl (ctx, 150, .inl fx))] H := hP
        have hD : va_D A [(rd, .inr (5, [.ref (ad 0), .ref tx, .int nl_, .int v_7, .int 0, .int v_7, .int nv_, .int ni_, .int nf_])), (tx, .inl (ctx, 150, .inl fx))] := hD
        refine lv_goto (tgt := 120) hx hb dX5_step_64 (by decide) ?_
        have hP9 := hP.sub (ws' := [(rd, .inr (5, [.ref (ad 0), .ref tx, .int nl_, .int v_7, .int 0, .int v_7, .int nv_, .int ni_, .int nf_])), (tx, .inl (ctx, 150, .inl fx))]) [0, 1] rfl
        have hD9 := hD.sub (ws' := [(rd, .inr (5, [.ref (ad 0), .ref tx, .int nl_, .int v_7, .int 0, .int v_7, .int nv_, .int ni_, .int nf_])), (tx, .inl (ctx, 150, .inl fx))]) [0, 1] (by decide) rfl
        have hK9 := hK.sub (tys' := [(ctx, .byte)]) [0] rfl
        exact W.vret hx hb hr (fun t ht hW => ⟨⟨(), rfl, trivial, v_7, 0, v_7, nv_, ni_, nf_, by rw [ht]; exact hP9, va_K.moved hW.alike hK9, hD9⟩, hS.F ht⟩) hS.2.2 dX5_step_120
    · refine lv_aload_n hx hb dX5_step_24 rfl (lv_at hl 0 rfl) ?_
      refine lv_dup hx hb dX5_step_25 rfl ?_
      refine va_get (D := (dC, dI)) (ci := 5) (v := .int v_7) (C := RX5) (T := TX5) (N := 9) hx hb hts iw_d_step_X5 hown hK hP 0 rfl rfl 3 (by decide) (hts (.fieldLink RX5 26 "ThriceCounted$Reader" "place" "I") (by decide +kernel)) (fun _ h9 => h9) rfl dX5_step_26 ?_
      refine lv_iconst (v := 1) hx hb dX5_step_29 (by decide) ?_
      refine lv_iadd hx hb dX5_step_30 ?_
      refine va_put (D := (dC, dI)) (ci := 5) (v := .int (v_7 + 1)) (ty := .int) (C := RX5) (T := TX5) (N := 9) hx hb hts iw_d_step_X5 tyX5 tyX5_ok nmX5 hown hK hP hD hS 0 rfl rfl 3 (by decide) (hts (.fieldLink RX5 26 "ThriceCounted$Reader" "place" "I") (by decide +kernel)) (fun _ h9 => h9) rfl (by decide +kernel) rfl rfl (Nat.le_of_ble_eq_true rfl) dX5_step_31 (fun H locs hP hD hS => ?_)
      have hP : va_P (dC, dI) vwCl [(rd, .inr (5, [.ref (ad 0), .ref tx, .int nl_, .int (v_7 + 1), .int nk_, .int ns_, .int nv_, .int ni_, .int nf_])), (tx, .inl (ctx, 150, .inl fx))] H := hP
      have hD : va_D A [(rd, .inr (5, [.ref (ad 0), .ref tx, .int nl_, .int (v_7 + 1), .int nk_, .int ns_, .int nv_, .int ni_, .int nf_])), (tx, .inl (ctx, 150, .inl fx))] := hD
      refine lv_goto (tgt := 0) hx hb dX5_step_34 (by decide) ?_
      exact ih_14 ((v_7 + 1), H, locs, ls) ⟨hP, hD, hS, lv_sub hl [0] rfl⟩ (tz_mu c_15)
set_option maxRecDepth 20000 in
theorem ggX5_number_X5_step : GoodIn wsX5_number wsX5_step := goodIn_r _ [8, 9, 10, 11, 2, 12, 13, 14, 7, 15, 16, 17, 18, 19, 20, 21, 22, 23, 24, 25, 26, 27, 28, 29, 30, 3, 31, 32, 33, 34, 35, 36, 37, 38, 39, 40, 41, 42, 43] (by decide +kernel) (by decide +kernel)
set_option maxRecDepth 20000 in
theorem gX5_number_X5_step : GoodIn wsX5_number (wsV RX5 57 RX5 yX5_step wsX5_step) := goodIn_app (goodIn_of _ (by decide +kernel)) ggX5_number_X5_step
theorem dX5_number_0 : decode cX5_number 0 = .ok (.aload_n 0, 1) := by decide +kernel
theorem dX5_number_1 : decode cX5_number 1 = .ok (.getfield 41, 3) := by decide +kernel
theorem dX5_number_4 : decode cX5_number 4 = .ok (.ifCond .ne 27, 3) := by decide +kernel
theorem dX5_number_31 : decode cX5_number 31 = .ok (.aload_n 0, 1) := by decide +kernel
theorem dX5_number_32 : decode cX5_number 32 = .ok (.iconst 1, 1) := by decide +kernel
theorem dX5_number_33 : decode cX5_number 33 = .ok (.putfield 41, 3) := by decide +kernel
theorem dX5_number_36 : decode cX5_number 36 = .ok (.iconst (-1), 1) := by decide +kernel
theorem dX5_number_37 : decode cX5_number 37 = .ok (.ireturn, 1) := by decide +kernel
theorem dX5_number_7 : decode cX5_number 7 = .ok (.aload_n 0, 1) := by decide +kernel
theorem dX5_number_8 : decode cX5_number 8 = .ok (.getfield 29, 3) := by decide +kernel
theorem dX5_number_11 : decode cX5_number 11 = .ok (.iconst 2, 1) := by decide +kernel
theorem dX5_number_12 : decode cX5_number 12 = .ok (.if_icmp .ne 19, 3) := by decide +kernel
theorem dX5_number_15 : decode cX5_number 15 = .ok (.aload_n 0, 1) := by decide +kernel
theorem dX5_number_16 : decode cX5_number 16 = .ok (.getfield 35, 3) := by decide +kernel
theorem dX5_number_19 : decode cX5_number 19 = .ok (.iload_n 1, 1) := by decide +kernel
theorem dX5_number_20 : decode cX5_number 20 = .ok (.if_icmp .lt 11, 3) := by decide +kernel
theorem dX5_number_23 : decode cX5_number 23 = .ok (.aload_n 0, 1) := by decide +kernel
theorem dX5_number_24 : decode cX5_number 24 = .ok (.getfield 35, 3) := by decide +kernel
theorem dX5_number_27 : decode cX5_number 27 = .ok (.iload_n 2, 1) := by decide +kernel
theorem dX5_number_28 : decode cX5_number 28 = .ok (.if_icmp .le 10, 3) := by decide +kernel
theorem dX5_number_38 : decode cX5_number 38 = .ok (.aload_n 0, 1) := by decide +kernel
theorem dX5_number_39 : decode cX5_number 39 = .ok (.getfield 35, 3) := by decide +kernel
theorem dX5_number_42 : decode cX5_number 42 = .ok (.istore_n 3, 1) := by decide +kernel
theorem dX5_number_43 : decode cX5_number 43 = .ok (.aload_n 0, 1) := by decide +kernel
theorem dX5_number_44 : decode cX5_number 44 = .ok (.invokevirtual 57, 3) := by decide +kernel
theorem dX5_number_47 : decode cX5_number 47 = .ok (.iload_n 3, 1) := by decide +kernel
theorem dX5_number_48 : decode cX5_number 48 = .ok (.ireturn, 1) := by decide +kernel
set_option maxRecDepth 20000 in
theorem iw_d_number_X5 : ∀ w ∈ wsX50, w ∈ wsX5_number := by decide +kernel
set_option maxHeartbeats 4000000 in
set_option maxRecDepth 100000 in
theorem d_number (l : Launch) (dC : Nat → ClassId) (dI : Nat → Nat → Nat) (rd : Nat) (ad : Nat → Nat) (tx : Nat) (nl_ : Int32) (np_ : Int32) (nk_ : Int32) (ns_ : Int32) (nv_ : Int32) (ni_ : Int32) (nf_ : Int32) (ctx : ClassId) (fx : Nat → Int32) (na : Int32) (nb : Int32) (sz : Nat) : Met l yX5_number wsX5_number ({ frames := 3, cells := 0, slots := 0, locals := 62 }) (va_Pc [.ref rd, .int na, .int nb] (fun U => U.heap.size = sz ∧ va_P (dC, dI) vwCl [(rd, .inr (5, [.ref (ad 0), .ref tx, .int nl_, .int np_, .int nk_, .int ns_, .int nv_, .int ni_, .int nf_])), (tx, .inl (ctx, 150, .inl fx))] U.heap ∧ va_K (dC, dI) vwCl [(ctx, .byte)] U ∧ va_D (fun _ => True) [(rd, .inr (5, [.ref (ad 0), .ref tx, .int nl_, .int np_, .int nk_, .int ns_, .int nv_, .int ni_, .int nf_])), (tx, .inl (ctx, 150, .inl fx))])) (va_Qi (fun (r : Int32) (_ : Unit) => True) (fun _ t => ∃ (gp_ : Int32) (gk_ : Int32) (gs_ : Int32) (gv_ : Int32) (gi_ : Int32) (gf_ : Int32), va_P (dC, dI) vwCl [(rd, .inr (5, [.ref (ad 0), .ref tx, .int nl_, .int gp_, .int gk_, .int gs_, .int gv_, .int gi_, .int gf_])), (tx, .inl (ctx, 150, .inl fx))] t.heap ∧ va_K (dC, dI) vwCl [(ctx, .byte)] t ∧ va_D (va_A [(rd, .inr (5, [.ref (ad 0), .ref tx, .int nl_, .int np_, .int nk_, .int ns_, .int nv_, .int ni_, .int nf_])), (tx, .inl (ctx, 150, .inl fx))] sz) [(rd, .inr (5, [.ref (ad 0), .ref tx, .int nl_, .int gp_, .int gk_, .int gs_, .int gv_, .int gi_, .int gf_])), (tx, .inl (ctx, 150, .inl fx))]) (va_A [(rd, .inr (5, [.ref (ad 0), .ref tx, .int nl_, .int np_, .int nk_, .int ns_, .int nv_, .int ni_, .int nf_])), (tx, .inl (ctx, 150, .inl fx))] sz)) 0 0 (va_A [(rd, .inr (5, [.ref (ad 0), .ref tx, .int nl_, .int np_, .int nk_, .int ns_, .int nv_, .int ni_, .int nf_])), (tx, .inl (ctx, 150, .inl fx))] sz) := by
  refine Met.ofW (cc := cX5_number) (maxL := 4) (ret := (some .int)) (by decide) rfl ?_
  intro p e s m args below meth c s₁ B hml hv
  obtain ⟨rfl, hsz, hP, hK, hD0⟩ := hv
  have hx := B.exec
  have hb := B.bytes
  have hr := B.returns
  have hts := atoms_spec (ws := wsX5_number) B.pre
  have hown : s.vm.findClass RX5 = some m.cls := findClass_of_methodNamed B.named
  have hlocks := B.notSynchronized
  subst hsz
  have hD := hD0.self (sz := s.heap.size)
  generalize hAe : va_A [(rd, .inr (5, [.ref (ad 0), .ref tx, .int nl_, .int np_, .int nk_, .int ns_, .int nv_, .int ni_, .int nf_])), (tx, .inl (ctx, 150, .inl fx))] s.heap.size = A at hD ⊢
  have hA : ∀ q : Nat, s.heap.size ≤ q → A q := fun q h => by rw [← hAe]; exact Or.inr h
  have hS : va_S A s.heap s.heap [] := va_S.rf
  have hP : va_P (dC, dI) vwCl [(rd, .inr (5, [.ref (ad 0), .ref tx, .int nl_, .int np_, .int nk_, .int ns_, .int nv_, .int ni_, .int nf_])), (tx, .inl (ctx, 150, .inl fx))] s.heap := hP
  have hl := lv_entry ([.ref rd, .int na, .int nb]) (n := 4) (Nat.le_of_ble_eq_true rfl)
  rw [lg_entry_eq]
  generalize (lg_sl ([.ref rd, .int na, .int nb]) ++ List.replicate (4 - (lg_sl ([.ref rd, .int na, .int nb])).length) Slot.unset).toArray = ls at hl ⊢
  have hl : lv_has ls 4 [(0, .ref rd), (1, .int na), (2, .int nb)] := hl
  refine lv_aload_n hx hb dX5_number_0 rfl (lv_at hl 0 rfl) ?_
  refine va_get (D := (dC, dI)) (ci := 5) (v := .int nf_) (C := RX5) (T := TX5) (N := 9) hx hb hts iw_d_number_X5 hown hK hP 0 rfl rfl 8 (by decide) (hts (.fieldLink RX5 41 "ThriceCounted$Reader" "faulty" "Z") (by decide +kernel)) (fun _ h9 => h9) rfl dX5_number_1 ?_
  refine lv_if_ne (tgt := 31) hx hb dX5_number_4 (by decide) (fun c_1 => ?_) (fun c_1 => ?_)
  · refine lv_aload_n hx hb dX5_number_31 rfl (lv_at hl 0 rfl) ?_
    refine lv_iconst (v := 1) hx hb dX5_number_32 (by decide) ?_
    refine va_put (D := (dC, dI)) (ci := 5) (v := .int 1) (ty := .boolean) (C := RX5) (T := TX5) (N := 9) hx hb hts iw_d_number_X5 tyX5 tyX5_ok nmX5 hown hK hP hD hS 0 rfl rfl 8 (by decide) (hts (.fieldLink RX5 41 "ThriceCounted$Reader" "faulty" "Z") (by decide +kernel)) (fun _ h9 => h9) rfl (by decide +kernel) rfl rfl (Nat.le_of_ble_eq_true rfl) dX5_number_33 (fun H locs hP hD hS => ?_)
    have hP : va_P (dC, dI) vwCl [(rd, .inr (5, [.ref (ad 0), .ref tx, .int nl_, .int np_, .int nk_, .int ns_, .int nv_, .int ni_, .int 1])), (tx, .inl (ctx, 150, .inl fx))] H := hP
    have hD : va_D A [(rd, .inr (5, [.ref (ad 0), .ref tx, .int nl_, .int np_, .int nk_, .int ns_, .int nv_, .int ni_, .int 1])), (tx, .inl (ctx, 150, .inl fx))] := hD
    refine lv_iconst (v := (-1)) hx hb dX5_number_36 (by decide) ?_
    have hP9 := hP.sub (ws' := [(rd, .inr (5, [.ref (ad 0), .ref tx, .int nl_, .int np_, .int nk_, .int ns_, .int nv_, .int ni_, .int 1])), (tx, .inl (ctx, 150, .inl fx))]) [0, 1] rfl
    have hD9 := hD.sub (ws' := [(rd, .inr (5, [.ref (ad 0), .ref tx, .int nl_, .int np_, .int nk_, .int ns_, .int nv_, .int ni_, .int 1])), (tx, .inl (ctx, 150, .inl fx))]) [0, 1] (by decide) rfl
    have hK9 := hK.sub (tys' := [(ctx, .byte)]) [0] rfl
    exact W.iret (v := (-1)) hx hb hr (fun t ht hW => ⟨⟨(-1), (), rfl, trivial, np_, nk_, ns_, nv_, ni_, 1, by rw [ht]; exact hP9, va_K.moved hW.alike hK9, hD9⟩, hS.F ht⟩) hS.2.2 dX5_number_37
  · refine lv_aload_n hx hb dX5_number_7 rfl (lv_at hl 0 rfl) ?_
    refine va_get (D := (dC, dI)) (ci := 5) (v := .int nk_) (C := RX5) (T := TX5) (N := 9) hx hb hts iw_d_number_X5 hown hK hP 0 rfl rfl 4 (by decide) (hts (.fieldLink RX5 29 "ThriceCounted$Reader" "kind" "I") (by decide +kernel)) (fun _ h9 => h9) rfl dX5_number_8 ?_
    refine lv_iconst (v := 2) hx hb dX5_number_11 (by decide) ?_
    refine lv_icmp_ne (tgt := 31) hx hb dX5_number_12 (by decide) (fun c_2 => ?_) (fun c_2 => ?_)
    · refine lv_aload_n hx hb dX5_number_31 rfl (lv_at hl 0 rfl) ?_
      refine lv_iconst (v := 1) hx hb dX5_number_32 (by decide) ?_
      refine va_put (D := (dC, dI)) (ci := 5) (v := .int 1) (ty := .boolean) (C := RX5) (T := TX5) (N := 9) hx hb hts iw_d_number_X5 tyX5 tyX5_ok nmX5 hown hK hP hD hS 0 rfl rfl 8 (by decide) (hts (.fieldLink RX5 41 "ThriceCounted$Reader" "faulty" "Z") (by decide +kernel)) (fun _ h9 => h9) rfl (by decide +kernel) rfl rfl (Nat.le_of_ble_eq_true rfl) dX5_number_33 (fun H locs hP hD hS => ?_)
      have hP : va_P (dC, dI) vwCl [(rd, .inr (5, [.ref (ad 0), .ref tx, .int nl_, .int np_, .int nk_, .int ns_, .int nv_, .int ni_, .int 1])), (tx, .inl (ctx, 150, .inl fx))] H := hP
      have hD : va_D A [(rd, .inr (5, [.ref (ad 0), .ref tx, .int nl_, .int np_, .int nk_, .int ns_, .int nv_, .int ni_, .int 1])), (tx, .inl (ctx, 150, .inl fx))] := hD
      refine lv_iconst (v := (-1)) hx hb dX5_number_36 (by decide) ?_
      have hP9 := hP.sub (ws' := [(rd, .inr (5, [.ref (ad 0), .ref tx, .int nl_, .int np_, .int nk_, .int ns_, .int nv_, .int ni_, .int 1])), (tx, .inl (ctx, 150, .inl fx))]) [0, 1] rfl
      have hD9 := hD.sub (ws' := [(rd, .inr (5, [.ref (ad 0), .ref tx, .int nl_, .int np_, .int nk_, .int ns_, .int nv_, .int ni_, .int 1])), (tx, .inl (ctx, 150, .inl fx))]) [0, 1] (by decide) rfl
      have hK9 := hK.sub (tys' := [(ctx, .byte)]) [0] rfl
      exact W.iret (v := (-1)) hx hb hr (fun t ht hW => ⟨⟨(-1), (), rfl, trivial, np_, nk_, ns_, nv_, ni_, 1, by rw [ht]; exact hP9, va_K.moved hW.alike hK9, hD9⟩, hS.F ht⟩) hS.2.2 dX5_number_37
    · refine lv_aload_n hx hb dX5_number_15 rfl (lv_at hl 0 rfl) ?_
      refine va_get (D := (dC, dI)) (ci := 5) (v := .int nv_) (C := RX5) (T := TX5) (N := 9) hx hb hts iw_d_number_X5 hown hK hP 0 rfl rfl 6 (by decide) (hts (.fieldLink RX5 35 "ThriceCounted$Reader" "value" "I") (by decide +kernel)) (fun _ h9 => h9) rfl dX5_number_16 ?_
      refine lv_iload_n hx hb dX5_number_19 rfl (lv_at hl 1 rfl) ?_
      refine lv_icmp_lt (tgt := 31) hx hb dX5_number_20 (by decide) (fun c_3 => ?_) (fun c_3 => ?_)
      · refine lv_aload_n hx hb dX5_number_31 rfl (lv_at hl 0 rfl) ?_
        refine lv_iconst (v := 1) hx hb dX5_number_32 (by decide) ?_
        refine va_put (D := (dC, dI)) (ci := 5) (v := .int 1) (ty := .boolean) (C := RX5) (T := TX5) (N := 9) hx hb hts iw_d_number_X5 tyX5 tyX5_ok nmX5 hown hK hP hD hS 0 rfl rfl 8 (by decide) (hts (.fieldLink RX5 41 "ThriceCounted$Reader" "faulty" "Z") (by decide +kernel)) (fun _ h9 => h9) rfl (by decide +kernel) rfl rfl (Nat.le_of_ble_eq_true rfl) dX5_number_33 (fun H locs hP hD hS => ?_)
        have hP : va_P (dC, dI) vwCl [(rd, .inr (5, [.ref (ad 0), .ref tx, .int nl_, .int np_, .int nk_, .int ns_, .int nv_, .int ni_, .int 1])), (tx, .inl (ctx, 150, .inl fx))] H := hP
        have hD : va_D A [(rd, .inr (5, [.ref (ad 0), .ref tx, .int nl_, .int np_, .int nk_, .int ns_, .int nv_, .int ni_, .int 1])), (tx, .inl (ctx, 150, .inl fx))] := hD
        refine lv_iconst (v := (-1)) hx hb dX5_number_36 (by decide) ?_
        have hP9 := hP.sub (ws' := [(rd, .inr (5, [.ref (ad 0), .ref tx, .int nl_, .int np_, .int nk_, .int ns_, .int nv_, .int ni_, .int 1])), (tx, .inl (ctx, 150, .inl fx))]) [0, 1] rfl
        have hD9 := hD.sub (ws' := [(rd, .inr (5, [.ref (ad 0), .ref tx, .int nl_, .int np_, .int nk_, .int ns_, .int nv_, .int ni_, .int 1])), (tx, .inl (ctx, 150, .inl fx))]) [0, 1] (by decide) rfl
        have hK9 := hK.sub (tys' := [(ctx, .byte)]) [0] rfl
        exact W.iret (v := (-1)) hx hb hr (fun t ht hW => ⟨⟨(-1), (), rfl, trivial, np_, nk_, ns_, nv_, ni_, 1, by rw [ht]; exact hP9, va_K.moved hW.alike hK9, hD9⟩, hS.F ht⟩) hS.2.2 dX5_number_37
      · refine lv_aload_n hx hb dX5_number_23 rfl (lv_at hl 0 rfl) ?_
        refine va_get (D := (dC, dI)) (ci := 5) (v := .int nv_) (C := RX5) (T := TX5) (N := 9) hx hb hts iw_d_number_X5 hown hK hP 0 rfl rfl 6 (by decide) (hts (.fieldLink RX5 35 "ThriceCounted$Reader" "value" "I") (by decide +kernel)) (fun _ h9 => h9) rfl dX5_number_24 ?_
        refine lv_iload_n hx hb dX5_number_27 rfl (lv_at hl 2 rfl) ?_
        refine lv_icmp_le (tgt := 38) hx hb dX5_number_28 (by decide) (fun c_4 => ?_) (fun c_4 => ?_)
        · refine lv_aload_n hx hb dX5_number_38 rfl (lv_at hl 0 rfl) ?_
          refine va_get (D := (dC, dI)) (ci := 5) (v := .int nv_) (C := RX5) (T := TX5) (N := 9) hx hb hts iw_d_number_X5 hown hK hP 0 rfl rfl 6 (by decide) (hts (.fieldLink RX5 35 "ThriceCounted$Reader" "value" "I") (by decide +kernel)) (fun _ h9 => h9) rfl dX5_number_39 ?_
          refine lv_istore_n (lv' := [(3, .int nv_), (0, .ref rd), (1, .int na), (2, .int nb)]) hx hb dX5_number_42 rfl hl (by decide) rfl (fun ls hl => ?_)
          refine lv_aload_n hx hb dX5_number_43 rfl (lv_at hl 1 rfl) ?_
          have hPc := hP.sub (ws' := [(rd, .inr (5, [.ref (ad 0), .ref tx, .int nl_, .int np_, .int nk_, .int ns_, .int nv_, .int ni_, .int nf_])), (tx, .inl (ctx, 150, .inl fx))]) [0, 1] rfl
          have hDc := hD.sub (ws' := [(rd, .inr (5, [.ref (ad 0), .ref tx, .int nl_, .int np_, .int nk_, .int ns_, .int nv_, .int ni_, .int nf_])), (tx, .inl (ctx, 150, .inl fx))]) [0, 1] (by decide) rfl
          have hKc := hK.sub (tys' := [(ctx, .byte)]) [0] rfl
          have hFc := va_free (wc := [(rd, .inr (5, [.ref (ad 0), .ref tx, .int nl_, .int np_, .int nk_, .int ns_, .int nv_, .int ni_, .int nf_])), (tx, .inl (ctx, 150, .inl fx))]) hD hS hA [0, 1] rfl
          refine va_callv (va_runV (As := []) (rest := []) ⟨hx, hb, hml, hown, hts⟩ (d_step l dC dI rd ad tx nl_ np_ nk_ ns_ nv_ ni_ nf_ ctx fx s.heap.size) (cwV 0 hts gX5_number_X5_step rfl rfl rfl (by decide +kernel) ⟨Nat.le_of_ble_eq_true rfl, Nat.le_of_ble_eq_true rfl⟩) ⟨fun a U g mk q => by obtain ⟨q0, q1, qP, qK, qD⟩ := q; exact ⟨q0, q1, qP, va_K.moved (u := U) (U := U.calling g mk a) (Vm.Alike.refl U.vm) qK, qD⟩, va_recv hK hP (ci := 5) (q0 := 0) rfl rfl, fun U hU hW => ⟨rfl, by rw [hU], by rw [hU]; exact hPc, va_K.moved hW.alike hKc, hDc.weaken (fun _ _ _ _ => trivial)⟩⟩ rfl rfl hl.1 rfl (lv_room (Nat.le_of_ble_eq_true rfl)) dX5_number_44 ⟨Nat.le_of_ble_eq_true rfl, Nat.le_of_ble_eq_true rfl⟩) hS (fun q _ h => hFc q h) hFc (fun u_ t H1 locs ht hvm hw_6 hB hz1 hk1 hS => ?_)
          obtain ⟨gp__7, gk__8, gs__9, gv__10, gi__11, gf__12, hP1, hK1, hD1⟩ := hB
          rw [ht] at hP1
          have hK1 := va_K.moved hvm.symm hK1
          obtain ⟨hP, hD⟩ := va_join (wr := []) (w1 := [(rd, .inr (5, [.ref (ad 0), .ref tx, .int nl_, .int gp__7, .int gk__8, .int gs__9, .int gv__10, .int gi__11, .int gf__12])), (tx, .inl (ctx, 150, .inl fx))]) hP hD [0, 1] [] rfl rfl (by decide) (by decide) hk1 hFc hP1 hD1
          generalize H1 = H at hP hS ⊢
          have hP : va_P (dC, dI) vwCl [(rd, .inr (5, [.ref (ad 0), .ref tx, .int nl_, .int gp__7, .int gk__8, .int gs__9, .int gv__10, .int gi__11, .int gf__12])), (tx, .inl (ctx, 150, .inl fx))] H := hP
          have hD : va_D A [(rd, .inr (5, [.ref (ad 0), .ref tx, .int nl_, .int gp__7, .int gk__8, .int gs__9, .int gv__10, .int gi__11, .int gf__12])), (tx, .inl (ctx, 150, .inl fx))] := hD
          refine lv_iload_n hx hb dX5_number_47 rfl (lv_at hl 0 rfl) ?_
          have hP9 := hP.sub (ws' := [(rd, .inr (5, [.ref (ad 0), .ref tx, .int nl_, .int gp__7, .int gk__8, .int gs__9, .int gv__10, .int gi__11, .int gf__12])), (tx, .inl (ctx, 150, .inl fx))]) [0, 1] rfl
          have hD9 := hD.sub (ws' := [(rd, .inr (5, [.ref (ad 0), .ref tx, .int nl_, .int gp__7, .int gk__8, .int gs__9, .int gv__10, .int gi__11, .int gf__12])), (tx, .inl (ctx, 150, .inl fx))]) [0, 1] (by decide) rfl
          have hK9 := hK.sub (tys' := [(ctx, .byte)]) [0] rfl
          exact W.iret (v := nv_) hx hb hr (fun t ht hW => ⟨⟨nv_, (), rfl, trivial, gp__7, gk__8, gs__9, gv__10, gi__11, gf__12, by rw [ht]; exact hP9, va_K.moved hW.alike hK9, hD9⟩, hS.F ht⟩) hS.2.2 dX5_number_48
        · refine lv_aload_n hx hb dX5_number_31 rfl (lv_at hl 0 rfl) ?_
          refine lv_iconst (v := 1) hx hb dX5_number_32 (by decide) ?_
          refine va_put (D := (dC, dI)) (ci := 5) (v := .int 1) (ty := .boolean) (C := RX5) (T := TX5) (N := 9) hx hb hts iw_d_number_X5 tyX5 tyX5_ok nmX5 hown hK hP hD hS 0 rfl rfl 8 (by decide) (hts (.fieldLink RX5 41 "ThriceCounted$Reader" "faulty" "Z") (by decide +kernel)) (fun _ h9 => h9) rfl (by decide +kernel) rfl rfl (Nat.le_of_ble_eq_true rfl) dX5_number_33 (fun H locs hP hD hS => ?_)
          have hP : va_P (dC, dI) vwCl [(rd, .inr (5, [.ref (ad 0), .ref tx, .int nl_, .int np_, .int nk_, .int ns_, .int nv_, .int ni_, .int 1])), (tx, .inl (ctx, 150, .inl fx))] H := hP
          have hD : va_D A [(rd, .inr (5, [.ref (ad 0), .ref tx, .int nl_, .int np_, .int nk_, .int ns_, .int nv_, .int ni_, .int 1])), (tx, .inl (ctx, 150, .inl fx))] := hD
          refine lv_iconst (v := (-1)) hx hb dX5_number_36 (by decide) ?_
          have hP9 := hP.sub (ws' := [(rd, .inr (5, [.ref (ad 0), .ref tx, .int nl_, .int np_, .int nk_, .int ns_, .int nv_, .int ni_, .int 1])), (tx, .inl (ctx, 150, .inl fx))]) [0, 1] rfl
          have hD9 := hD.sub (ws' := [(rd, .inr (5, [.ref (ad 0), .ref tx, .int nl_, .int np_, .int nk_, .int ns_, .int nv_, .int ni_, .int 1])), (tx, .inl (ctx, 150, .inl fx))]) [0, 1] (by decide) rfl
          have hK9 := hK.sub (tys' := [(ctx, .byte)]) [0] rfl
          exact W.iret (v := (-1)) hx hb hr (fun t ht hW => ⟨⟨(-1), (), rfl, trivial, np_, nk_, ns_, nv_, ni_, 1, by rw [ht]; exact hP9, va_K.moved hW.alike hK9, hD9⟩, hS.F ht⟩) hS.2.2 dX5_number_37
set_option maxRecDepth 20000 in
theorem ggX5_endItem_X5_step : GoodIn wsX5_endItem wsX5_step := goodIn_r _ [7, 8, 9, 10, 1, 11, 12, 13, 6, 14, 15, 16, 17, 18, 19, 20, 21, 22, 23, 24, 25, 26, 27, 28, 29, 30, 31, 32, 33, 34, 35, 36, 37, 38, 39, 40, 41, 42, 43] (by decide +kernel) (by decide +kernel)
set_option maxRecDepth 20000 in
theorem gX5_endItem_X5_step : GoodIn wsX5_endItem (wsV RX5 57 RX5 yX5_step wsX5_step) := goodIn_app (goodIn_of _ (by decide +kernel)) ggX5_endItem_X5_step
theorem dX5_endItem_0 : decode cX5_endItem 0 = .ok (.aload_n 0, 1) := by decide +kernel
theorem dX5_endItem_1 : decode cX5_endItem 1 = .ok (.getfield 29, 3) := by decide +kernel
theorem dX5_endItem_4 : decode cX5_endItem 4 = .ok (.iconst 3, 1) := by decide +kernel
theorem dX5_endItem_5 : decode cX5_endItem 5 = .ok (.if_icmp .eq 5, 3) := by decide +kernel
theorem dX5_endItem_10 : decode cX5_endItem 10 = .ok (.aload_n 0, 1) := by decide +kernel
theorem dX5_endItem_11 : decode cX5_endItem 11 = .ok (.invokevirtual 57, 3) := by decide +kernel
theorem dX5_endItem_14 : decode cX5_endItem 14 = .ok (.aload_n 0, 1) := by decide +kernel
theorem dX5_endItem_15 : decode cX5_endItem 15 = .ok (.dup, 1) := by decide +kernel
theorem dX5_endItem_16 : decode cX5_endItem 16 = .ok (.getfield 38, 3) := by decide +kernel
theorem dX5_endItem_19 : decode cX5_endItem 19 = .ok (.iconst 1, 1) := by decide +kernel
theorem dX5_endItem_20 : decode cX5_endItem 20 = .ok (.iadd, 1) := by decide +kernel
theorem dX5_endItem_21 : decode cX5_endItem 21 = .ok (.putfield 38, 3) := by decide +kernel
theorem dX5_endItem_24 : decode cX5_endItem 24 = .ok (.iconst 1, 1) := by decide +kernel
theorem dX5_endItem_25 : decode cX5_endItem 25 = .ok (.ireturn, 1) := by decide +kernel
theorem dX5_endItem_8 : decode cX5_endItem 8 = .ok (.iconst 0, 1) := by decide +kernel
theorem dX5_endItem_9 : decode cX5_endItem 9 = .ok (.ireturn, 1) := by decide +kernel
set_option maxRecDepth 20000 in
theorem iw_d_endItem_X5 : ∀ w ∈ wsX50, w ∈ wsX5_endItem := by decide +kernel
set_option maxHeartbeats 4000000 in
set_option maxRecDepth 100000 in
theorem d_endItem (l : Launch) (dC : Nat → ClassId) (dI : Nat → Nat → Nat) (rd : Nat) (ad : Nat → Nat) (tx : Nat) (nl_ : Int32) (np_ : Int32) (nk_ : Int32) (ns_ : Int32) (nv_ : Int32) (ni_ : Int32) (nf_ : Int32) (ctx : ClassId) (fx : Nat → Int32) (sz : Nat) : Met l yX5_endItem wsX5_endItem ({ frames := 3, cells := 0, slots := 0, locals := 62 }) (va_Pc [.ref rd] (fun U => U.heap.size = sz ∧ va_P (dC, dI) vwCl [(rd, .inr (5, [.ref (ad 0), .ref tx, .int nl_, .int np_, .int nk_, .int ns_, .int nv_, .int ni_, .int nf_])), (tx, .inl (ctx, 150, .inl fx))] U.heap ∧ va_K (dC, dI) vwCl [(ctx, .byte)] U ∧ va_D (fun _ => True) [(rd, .inr (5, [.ref (ad 0), .ref tx, .int nl_, .int np_, .int nk_, .int ns_, .int nv_, .int ni_, .int nf_])), (tx, .inl (ctx, 150, .inl fx))])) (va_Qi (fun (r : Int32) (_ : Unit) => r = 0 ∨ r = 1) (fun _ t => ∃ (gp_ : Int32) (gk_ : Int32) (gs_ : Int32) (gv_ : Int32) (gi_ : Int32) (gf_ : Int32), va_P (dC, dI) vwCl [(rd, .inr (5, [.ref (ad 0), .ref tx, .int nl_, .int gp_, .int gk_, .int gs_, .int gv_, .int gi_, .int gf_])), (tx, .inl (ctx, 150, .inl fx))] t.heap ∧ va_K (dC, dI) vwCl [(ctx, .byte)] t ∧ va_D (va_A [(rd, .inr (5, [.ref (ad 0), .ref tx, .int nl_, .int np_, .int nk_, .int ns_, .int nv_, .int ni_, .int nf_])), (tx, .inl (ctx, 150, .inl fx))] sz) [(rd, .inr (5, [.ref (ad 0), .ref tx, .int nl_, .int gp_, .int gk_, .int gs_, .int gv_, .int gi_, .int gf_])), (tx, .inl (ctx, 150, .inl fx))]) (va_A [(rd, .inr (5, [.ref (ad 0), .ref tx, .int nl_, .int np_, .int nk_, .int ns_, .int nv_, .int ni_, .int nf_])), (tx, .inl (ctx, 150, .inl fx))] sz)) 0 0 (va_A [(rd, .inr (5, [.ref (ad 0), .ref tx, .int nl_, .int np_, .int nk_, .int ns_, .int nv_, .int ni_, .int nf_])), (tx, .inl (ctx, 150, .inl fx))] sz) := by
  refine Met.ofW (cc := cX5_endItem) (maxL := 1) (ret := (some .boolean)) (by decide) rfl ?_
  intro p e s m args below meth c s₁ B hml hv
  obtain ⟨rfl, hsz, hP, hK, hD0⟩ := hv
  have hx := B.exec
  have hb := B.bytes
  have hr := B.returns
  have hts := atoms_spec (ws := wsX5_endItem) B.pre
  have hown : s.vm.findClass RX5 = some m.cls := findClass_of_methodNamed B.named
  have hlocks := B.notSynchronized
  subst hsz
  have hD := hD0.self (sz := s.heap.size)
  generalize hAe : va_A [(rd, .inr (5, [.ref (ad 0), .ref tx, .int nl_, .int np_, .int nk_, .int ns_, .int nv_, .int ni_, .int nf_])), (tx, .inl (ctx, 150, .inl fx))] s.heap.size = A at hD ⊢
  have hA : ∀ q : Nat, s.heap.size ≤ q → A q := fun q h => by rw [← hAe]; exact Or.inr h
  have hS : va_S A s.heap s.heap [] := va_S.rf
  have hP : va_P (dC, dI) vwCl [(rd, .inr (5, [.ref (ad 0), .ref tx, .int nl_, .int np_, .int nk_, .int ns_, .int nv_, .int ni_, .int nf_])), (tx, .inl (ctx, 150, .inl fx))] s.heap := hP
  have hl := lv_entry ([.ref rd]) (n := 1) (Nat.le_of_ble_eq_true rfl)
  rw [lg_entry_eq]
  generalize (lg_sl ([.ref rd]) ++ List.replicate (1 - (lg_sl ([.ref rd])).length) Slot.unset).toArray = ls at hl ⊢
  have hl : lv_has ls 1 [(0, .ref rd)] := hl
  refine lv_aload_n hx hb dX5_endItem_0 rfl (lv_at hl 0 rfl) ?_
  refine va_get (D := (dC, dI)) (ci := 5) (v := .int nk_) (C := RX5) (T := TX5) (N := 9) hx hb hts iw_d_endItem_X5 hown hK hP 0 rfl rfl 4 (by decide) (hts (.fieldLink RX5 29 "ThriceCounted$Reader" "kind" "I") (by decide +kernel)) (fun _ h9 => h9) rfl dX5_endItem_1 ?_
  refine lv_iconst (v := 3) hx hb dX5_endItem_4 (by decide) ?_
  refine lv_icmp_eq (tgt := 10) hx hb dX5_endItem_5 (by decide) (fun c_1 => ?_) (fun c_1 => ?_)
  · refine lv_aload_n hx hb dX5_endItem_10 rfl (lv_at hl 0 rfl) ?_
    have hPc := hP.sub (ws' := [(rd, .inr (5, [.ref (ad 0), .ref tx, .int nl_, .int np_, .int nk_, .int ns_, .int nv_, .int ni_, .int nf_])), (tx, .inl (ctx, 150, .inl fx))]) [0, 1] rfl
    have hDc := hD.sub (ws' := [(rd, .inr (5, [.ref (ad 0), .ref tx, .int nl_, .int np_, .int nk_, .int ns_, .int nv_, .int ni_, .int nf_])), (tx, .inl (ctx, 150, .inl fx))]) [0, 1] (by decide) rfl
    have hKc := hK.sub (tys' := [(ctx, .byte)]) [0] rfl
    have hFc := va_free (wc := [(rd, .inr (5, [.ref (ad 0), .ref tx, .int nl_, .int np_, .int nk_, .int ns_, .int nv_, .int ni_, .int nf_])), (tx, .inl (ctx, 150, .inl fx))]) hD hS hA [0, 1] rfl
    refine va_callv (va_runV (As := []) (rest := []) ⟨hx, hb, hml, hown, hts⟩ (d_step l dC dI rd ad tx nl_ np_ nk_ ns_ nv_ ni_ nf_ ctx fx s.heap.size) (cwV 0 hts gX5_endItem_X5_step rfl rfl rfl (by decide +kernel) ⟨Nat.le_of_ble_eq_true rfl, Nat.le_of_ble_eq_true rfl⟩) ⟨fun a U g mk q => by obtain ⟨q0, q1, qP, qK, qD⟩ := q; exact ⟨q0, q1, qP, va_K.moved (u := U) (U := U.calling g mk a) (Vm.Alike.refl U.vm) qK, qD⟩, va_recv hK hP (ci := 5) (q0 := 0) rfl rfl, fun U hU hW => ⟨rfl, by rw [hU], by rw [hU]; exact hPc, va_K.moved hW.alike hKc, hDc.weaken (fun _ _ _ _ => trivial)⟩⟩ rfl rfl hl.1 rfl (lv_room (Nat.le_of_ble_eq_true rfl)) dX5_endItem_11 ⟨Nat.le_of_ble_eq_true rfl, Nat.le_of_ble_eq_true rfl⟩) hS (fun q _ h => hFc q h) hFc (fun u_ t H1 locs ht hvm hw_3 hB hz1 hk1 hS => ?_)
    obtain ⟨gp__4, gk__5, gs__6, gv__7, gi__8, gf__9, hP1, hK1, hD1⟩ := hB
    rw [ht] at hP1
    have hK1 := va_K.moved hvm.symm hK1
    obtain ⟨hP, hD⟩ := va_join (wr := []) (w1 := [(rd, .inr (5, [.ref (ad 0), .ref tx, .int nl_, .int gp__4, .int gk__5, .int gs__6, .int gv__7, .int gi__8, .int gf__9])), (tx, .inl (ctx, 150, .inl fx))]) hP hD [0, 1] [] rfl rfl (by decide) (by decide) hk1 hFc hP1 hD1
    generalize H1 = H at hP hS ⊢
    have hP : va_P (dC, dI) vwCl [(rd, .inr (5, [.ref (ad 0), .ref tx, .int nl_, .int gp__4, .int gk__5, .int gs__6, .int gv__7, .int gi__8, .int gf__9])), (tx, .inl (ctx, 150, .inl fx))] H := hP
    have hD : va_D A [(rd, .inr (5, [.ref (ad 0), .ref tx, .int nl_, .int gp__4, .int gk__5, .int gs__6, .int gv__7, .int gi__8, .int gf__9])), (tx, .inl (ctx, 150, .inl fx))] := hD
    refine lv_aload_n hx hb dX5_endItem_14 rfl (lv_at hl 0 rfl) ?_
    refine lv_dup hx hb dX5_endItem_15 rfl ?_
    refine va_get (D := (dC, dI)) (ci := 5) (v := .int gi__8) (C := RX5) (T := TX5) (N := 9) hx hb hts iw_d_endItem_X5 hown hK hP 0 rfl rfl 7 (by decide) (hts (.fieldLink RX5 38 "ThriceCounted$Reader" "items" "I") (by decide +kernel)) (fun _ h9 => h9) rfl dX5_endItem_16 ?_
    refine lv_iconst (v := 1) hx hb dX5_endItem_19 (by decide) ?_
    refine lv_iadd hx hb dX5_endItem_20 ?_
    refine lv_topi (fun x_10 _ => ?_)
    refine va_put (D := (dC, dI)) (ci := 5) (v := .int x_10) (ty := .int) (C := RX5) (T := TX5) (N := 9) hx hb hts iw_d_endItem_X5 tyX5 tyX5_ok nmX5 hown hK hP hD hS 0 rfl rfl 7 (by decide) (hts (.fieldLink RX5 38 "ThriceCounted$Reader" "items" "I") (by decide +kernel)) (fun _ h9 => h9) rfl (by decide +kernel) rfl rfl (Nat.le_of_ble_eq_true rfl) dX5_endItem_21 (fun H locs hP hD hS => ?_)
    have hP : va_P (dC, dI) vwCl [(rd, .inr (5, [.ref (ad 0), .ref tx, .int nl_, .int gp__4, .int gk__5, .int gs__6, .int gv__7, .int x_10, .int gf__9])), (tx, .inl (ctx, 150, .inl fx))] H := hP
    have hD : va_D A [(rd, .inr (5, [.ref (ad 0), .ref tx, .int nl_, .int gp__4, .int gk__5, .int gs__6, .int gv__7, .int x_10, .int gf__9])), (tx, .inl (ctx, 150, .inl fx))] := hD
    refine lv_iconst (v := 1) hx hb dX5_endItem_24 (by decide) ?_
    have hP9 := hP.sub (ws' := [(rd, .inr (5, [.ref (ad 0), .ref tx, .int nl_, .int gp__4, .int gk__5, .int gs__6, .int gv__7, .int x_10, .int gf__9])), (tx, .inl (ctx, 150, .inl fx))]) [0, 1] rfl
    have hD9 := hD.sub (ws' := [(rd, .inr (5, [.ref (ad 0), .ref tx, .int nl_, .int gp__4, .int gk__5, .int gs__6, .int gv__7, .int x_10, .int gf__9])), (tx, .inl (ctx, 150, .inl fx))]) [0, 1] (by decide) rfl
    have hK9 := hK.sub (tys' := [(ctx, .byte)]) [0] rfl
    exact W.zret (v := 1) hx hb hr (by decide) (fun t ht hW => ⟨⟨1, (), rfl, Or.inr rfl, gp__4, gk__5, gs__6, gv__7, x_10, gf__9, by rw [ht]; exact hP9, va_K.moved hW.alike hK9, hD9⟩, hS.F ht⟩) hS.2.2 dX5_endItem_25
  · refine lv_iconst (v := 0) hx hb dX5_endItem_8 (by decide) ?_
    have hP9 := hP.sub (ws' := [(rd, .inr (5, [.ref (ad 0), .ref tx, .int nl_, .int np_, .int nk_, .int ns_, .int nv_, .int ni_, .int nf_])), (tx, .inl (ctx, 150, .inl fx))]) [0, 1] rfl
    have hD9 := hD.sub (ws' := [(rd, .inr (5, [.ref (ad 0), .ref tx, .int nl_, .int np_, .int nk_, .int ns_, .int nv_, .int ni_, .int nf_])), (tx, .inl (ctx, 150, .inl fx))]) [0, 1] (by decide) rfl
    have hK9 := hK.sub (tys' := [(ctx, .byte)]) [0] rfl
    exact W.zret (v := 0) hx hb hr (by decide) (fun t ht hW => ⟨⟨0, (), rfl, Or.inl rfl, np_, nk_, ns_, nv_, ni_, nf_, by rw [ht]; exact hP9, va_K.moved hW.alike hK9, hD9⟩, hS.F ht⟩) hS.2.2 dX5_endItem_9
set_option maxRecDepth 20000 in
theorem ggX5_isWord_J0_length_8abf5 : GoodIn wsX5_isWord wsJ0_length_8abf5 := goodIn_r _ [8, 9, 10, 11, 12, 7, 13, 14, 15] (by decide +kernel) (by decide +kernel)
set_option maxRecDepth 20000 in
theorem gX5_isWord_J0_length_8abf5 : GoodIn wsX5_isWord (wsV RX5 130 RJ0 yJ0_length_8abf5 wsJ0_length_8abf5) := goodIn_app (goodIn_of _ (by decide +kernel)) ggX5_isWord_J0_length_8abf5
set_option maxRecDepth 20000 in
theorem ggX5_isWord_X5_at : GoodIn wsX5_isWord wsX5_at := goodIn_r _ [20, 21, 22, 60, 61, 62, 63, 64, 65, 66, 67, 68] (by decide +kernel) (by decide +kernel)
set_option maxRecDepth 20000 in
theorem gX5_isWord_X5_at : GoodIn wsX5_isWord (wsV RX5 134 RX5 yX5_at wsX5_at) := goodIn_app (goodIn_of _ (by decide +kernel)) ggX5_isWord_X5_at
set_option maxRecDepth 20000 in
theorem ggX5_isWord_J0_charAt_5068e : GoodIn wsX5_isWord wsJ0_charAt_5068e := goodIn_r _ [26, 9, 27, 28, 29, 7, 30, 14, 15, 31, 32, 33, 34, 35, 36, 37, 38, 39, 40, 41, 42, 43, 44, 45, 46, 47, 48, 49, 50, 51, 52, 53, 54, 55, 56, 57, 58, 59] (by decide +kernel) (by decide +kernel)
set_option maxRecDepth 20000 in
theorem gX5_isWord_J0_charAt_5068e : GoodIn wsX5_isWord (wsV RX5 137 RJ0 yJ0_charAt_5068e wsJ0_charAt_5068e) := goodIn_app (goodIn_of _ (by decide +kernel)) ggX5_isWord_J0_charAt_5068e
theorem dX5_isWord_0 : decode cX5_isWord 0 = .ok (.aload_n 0, 1) := by decide +kernel
theorem dX5_isWord_1 : decode cX5_isWord 1 = .ok (.getfield 29, 3) := by decide +kernel
theorem dX5_isWord_4 : decode cX5_isWord 4 = .ok (.iconst 1, 1) := by decide +kernel
theorem dX5_isWord_5 : decode cX5_isWord 5 = .ok (.if_icmp .ne 19, 3) := by decide +kernel
theorem dX5_isWord_24 : decode cX5_isWord 24 = .ok (.iconst 0, 1) := by decide +kernel
theorem dX5_isWord_25 : decode cX5_isWord 25 = .ok (.ireturn, 1) := by decide +kernel
theorem dX5_isWord_8 : decode cX5_isWord 8 = .ok (.aload_n 0, 1) := by decide +kernel
theorem dX5_isWord_9 : decode cX5_isWord 9 = .ok (.getfield 26, 3) := by decide +kernel
theorem dX5_isWord_12 : decode cX5_isWord 12 = .ok (.aload_n 0, 1) := by decide +kernel
theorem dX5_isWord_13 : decode cX5_isWord 13 = .ok (.getfield 32, 3) := by decide +kernel
theorem dX5_isWord_16 : decode cX5_isWord 16 = .ok (.isub, 1) := by decide +kernel
theorem dX5_isWord_17 : decode cX5_isWord 17 = .ok (.aload_n 1, 1) := by decide +kernel
theorem dX5_isWord_18 : decode cX5_isWord 18 = .ok (.invokevirtual 130, 3) := by decide +kernel
theorem dX5_isWord_21 : decode cX5_isWord 21 = .ok (.if_icmp .eq 5, 3) := by decide +kernel
theorem dX5_isWord_26 : decode cX5_isWord 26 = .ok (.iconst 0, 1) := by decide +kernel
theorem dX5_isWord_27 : decode cX5_isWord 27 = .ok (.istore_n 2, 1) := by decide +kernel
theorem dX5_isWord_28 : decode cX5_isWord 28 = .ok (.iload_n 2, 1) := by decide +kernel
theorem dX5_isWord_29 : decode cX5_isWord 29 = .ok (.aload_n 1, 1) := by decide +kernel
theorem dX5_isWord_30 : decode cX5_isWord 30 = .ok (.invokevirtual 130, 3) := by decide +kernel
theorem dX5_isWord_33 : decode cX5_isWord 33 = .ok (.if_icmp .ge 29, 3) := by decide +kernel
theorem dX5_isWord_36 : decode cX5_isWord 36 = .ok (.aload_n 0, 1) := by decide +kernel
theorem dX5_isWord_37 : decode cX5_isWord 37 = .ok (.aload_n 0, 1) := by decide +kernel
theorem dX5_isWord_38 : decode cX5_isWord 38 = .ok (.getfield 32, 3) := by decide +kernel
theorem dX5_isWord_41 : decode cX5_isWord 41 = .ok (.iload_n 2, 1) := by decide +kernel
theorem dX5_isWord_42 : decode cX5_isWord 42 = .ok (.iadd, 1) := by decide +kernel
theorem dX5_isWord_43 : decode cX5_isWord 43 = .ok (.invokevirtual 134, 3) := by decide +kernel
theorem dX5_isWord_46 : decode cX5_isWord 46 = .ok (.aload_n 1, 1) := by decide +kernel
theorem dX5_isWord_47 : decode cX5_isWord 47 = .ok (.iload_n 2, 1) := by decide +kernel
theorem dX5_isWord_48 : decode cX5_isWord 48 = .ok (.invokevirtual 137, 3) := by decide +kernel
theorem dX5_isWord_51 : decode cX5_isWord 51 = .ok (.if_icmp .eq 5, 3) := by decide +kernel
theorem dX5_isWord_56 : decode cX5_isWord 56 = .ok (.iinc 2 1, 3) := by decide +kernel
theorem dX5_isWord_59 : decode cX5_isWord 59 = .ok (.goto (-31), 3) := by decide +kernel
theorem dX5_isWord_54 : decode cX5_isWord 54 = .ok (.iconst 0, 1) := by decide +kernel
theorem dX5_isWord_55 : decode cX5_isWord 55 = .ok (.ireturn, 1) := by decide +kernel
theorem dX5_isWord_62 : decode cX5_isWord 62 = .ok (.iconst 1, 1) := by decide +kernel
theorem dX5_isWord_63 : decode cX5_isWord 63 = .ok (.ireturn, 1) := by decide +kernel
set_option maxRecDepth 20000 in
theorem iw_d_isWord_X5 : ∀ w ∈ wsX50, w ∈ wsX5_isWord := by decide +kernel
set_option maxHeartbeats 4000000 in
set_option maxRecDepth 100000 in
theorem d_isWord (l : Launch) (dC : Nat → ClassId) (dI : Nat → Nat → Nat) (rd : Nat) (ad : Nat → Nat) (tx : Nat) (nl_ : Int32) (np_ : Int32) (nk_ : Int32) (ns_ : Int32) (nv_ : Int32) (ni_ : Int32) (nf_ : Int32) (ctx : ClassId) (fx : Nat → Int32) (sq : Nat) (sv : Nat) (sn : Nat) (sf : Nat → Int32) (hsn : sn ≤ 6) : Met l yX5_isWord wsX5_isWord ({ frames := 4, cells := 0, slots := 0, locals := 85 }) (va_Pc [.ref rd, .ref sq] (fun U => va_P (dC, dI) vwCl [(rd, .inr (5, [.ref (ad 0), .ref tx, .int nl_, .int np_, .int nk_, .int ns_, .int nv_, .int ni_, .int nf_])), (tx, .inl (ctx, 150, .inl fx))] U.heap ∧ va_K (dC, dI) vwCl [(ctx, .byte)] U ∧ tz_St sq sv sn sf (fun _ => False) U U.heap)) (vp_Si (fun r => r = 0 ∨ r = 1)) 0 0 (fun _ => False) := by
  refine Met.ofW (cc := cX5_isWord) (maxL := 3) (ret := (some .boolean)) (by decide) rfl ?_
  intro p e s m args below meth c s₁ B hml hv
  obtain ⟨rfl, hP, hK, hSt⟩ := hv
  have hx := B.exec
  have hb := B.bytes
  have hr := B.returns
  have hts := atoms_spec (ws := wsX5_isWord) B.pre
  have hown : s.vm.findClass RX5 = some m.cls := findClass_of_methodNamed B.named
  have hlocks := B.notSynchronized
  have hl := lv_entry ([.ref rd, .ref sq]) (n := 3) (Nat.le_of_ble_eq_true rfl)
  rw [lg_entry_eq]
  generalize (lg_sl ([.ref rd, .ref sq]) ++ List.replicate (3 - (lg_sl ([.ref rd, .ref sq])).length) Slot.unset).toArray = ls at hl ⊢
  have hl : lv_has ls 3 [(0, .ref rd), (1, .ref sq)] := hl
  refine lv_aload_n hx hb dX5_isWord_0 rfl (lv_at hl 0 rfl) ?_
  refine va_get (D := (dC, dI)) (ci := 5) (v := .int nk_) (C := RX5) (T := TX5) (N := 9) hx hb hts iw_d_isWord_X5 hown hK hP 0 rfl rfl 4 (by decide) (hts (.fieldLink RX5 29 "ThriceCounted$Reader" "kind" "I") (by decide +kernel)) (fun _ h9 => h9) rfl dX5_isWord_1 ?_
  refine lv_iconst (v := 1) hx hb dX5_isWord_4 (by decide) ?_
  refine lv_icmp_ne (tgt := 24) hx hb dX5_isWord_5 (by decide) (fun c_1 => ?_) (fun c_1 => ?_)
  · refine lv_iconst (v := 0) hx hb dX5_isWord_24 (by decide) ?_
    exact W.zret (v := 0) hx hb hr (by decide) (fun t ht hW => ⟨0, rfl, Or.inl rfl, ht⟩) (fun _ h => absurd h List.not_mem_nil) dX5_isWord_25
  · refine lv_aload_n hx hb dX5_isWord_8 rfl (lv_at hl 0 rfl) ?_
    refine va_get (D := (dC, dI)) (ci := 5) (v := .int np_) (C := RX5) (T := TX5) (N := 9) hx hb hts iw_d_isWord_X5 hown hK hP 0 rfl rfl 3 (by decide) (hts (.fieldLink RX5 26 "ThriceCounted$Reader" "place" "I") (by decide +kernel)) (fun _ h9 => h9) rfl dX5_isWord_9 ?_
    refine lv_aload_n hx hb dX5_isWord_12 rfl (lv_at hl 0 rfl) ?_
    refine va_get (D := (dC, dI)) (ci := 5) (v := .int ns_) (C := RX5) (T := TX5) (N := 9) hx hb hts iw_d_isWord_X5 hown hK hP 0 rfl rfl 5 (by decide) (hts (.fieldLink RX5 32 "ThriceCounted$Reader" "start" "I") (by decide +kernel)) (fun _ h9 => h9) rfl dX5_isWord_13 ?_
    refine lv_isub hx hb dX5_isWord_16 ?_
    refine lv_topi (fun x_2 _ => ?_)
    refine lv_aload_n hx hb dX5_isWord_17 rfl (lv_at hl 1 rfl) ?_
    refine vp_callSi (va_Run.run (va_runV (As := []) (rest := [.int x_2]) ⟨hx, hb, hml, hown, hts⟩ (j_length l dC dI sq sv sn sf hsn) (cwV 0 hts gX5_isWord_J0_length_8abf5 rfl rfl rfl (by decide +kernel) ⟨Nat.le_of_ble_eq_true rfl, Nat.le_of_ble_eq_true rfl⟩) ⟨fun a U g mk q => by obtain ⟨q0, qS⟩ := q; exact ⟨q0, tz_St.moved (u := U) (U := U.calling g mk a) (Vm.Alike.refl U.vm) qS⟩, va_Orecv hSt.1 va_S.rf, fun U hU hW => ⟨rfl, by show tz_St _ _ _ _ _ U U.heap; rw [hU]; exact tz_St.moved hW.alike hSt⟩⟩ rfl rfl hl.1 rfl (lv_room (Nat.le_of_ble_eq_true rfl)) dX5_isWord_18 ⟨Nat.le_of_ble_eq_true rfl, Nat.le_of_ble_eq_true rfl⟩)) (fun r_3 hw_4 => ?_)
    obtain rfl : (nI sn) = r_3 := hw_4.symm
    refine lv_icmp_eq (tgt := 26) hx hb dX5_isWord_21 (by decide) (fun c_5 => ?_) (fun c_5 => ?_)
    · refine lv_iconst (v := 0) hx hb dX5_isWord_26 (by decide) ?_
      refine lv_istore_n (lv' := [(2, .int 0), (0, .ref rd), (1, .ref sq)]) hx hb dX5_isWord_27 rfl hl (by decide) rfl (fun ls hl => ?_)
      refine tz_while (σ := Nat × Array Slot) (fun x => W p l e _ s m _ below meth c _ _ _ _ _ (F0 m 28 x.2 [])) (fun x => x.1 ≤ sn ∧ lv_has x.2 3 [(2, .int (nI x.1)), (0, .ref rd), (1, .ref sq)]) (fun x => sn - x.1) ?_ (0, ls) ⟨by omega, hl⟩
      rintro ⟨k_6, ls⟩ ⟨hi_20_0, hl⟩ ih_21
      dsimp only at hi_20_0 hl ih_21 ⊢
      refine lv_iload_n hx hb dX5_isWord_28 rfl (lv_at hl 0 rfl) ?_
      refine lv_aload_n hx hb dX5_isWord_29 rfl (lv_at hl 2 rfl) ?_
      refine vp_callSi (va_Run.run (va_runV (As := []) (rest := [.int (nI k_6)]) ⟨hx, hb, hml, hown, hts⟩ (j_length l dC dI sq sv sn sf hsn) (cwV 0 hts gX5_isWord_J0_length_8abf5 rfl rfl rfl (by decide +kernel) ⟨Nat.le_of_ble_eq_true rfl, Nat.le_of_ble_eq_true rfl⟩) ⟨fun a U g mk q => by obtain ⟨q0, qS⟩ := q; exact ⟨q0, tz_St.moved (u := U) (U := U.calling g mk a) (Vm.Alike.refl U.vm) qS⟩, va_Orecv hSt.1 va_S.rf, fun U hU hW => ⟨rfl, by show tz_St _ _ _ _ _ U U.heap; rw [hU]; exact tz_St.moved hW.alike hSt⟩⟩ rfl rfl hl.1 rfl (lv_room (Nat.le_of_ble_eq_true rfl)) dX5_isWord_30 ⟨Nat.le_of_ble_eq_true rfl, Nat.le_of_ble_eq_true rfl⟩)) (fun r_22 hw_23 => ?_)
      obtain rfl : (nI sn) = r_22 := hw_23.symm
      refine lv_icmp_ge (tgt := 62) hx hb dX5_isWord_33 (by decide) (fun c_24 => ?_) (fun c_24 => ?_)
      · have hn_25 : sn ≤ k_6 := (nI_leI (a := sn) (b := k_6) (by omega) (by omega)).mp c_24
        refine lv_iconst (v := 1) hx hb dX5_isWord_62 (by decide) ?_
        exact W.zret (v := 1) hx hb hr (by decide) (fun t ht hW => ⟨1, rfl, Or.inr rfl, ht⟩) (fun _ h => absurd h List.not_mem_nil) dX5_isWord_63
      · have hn_26 : ¬ sn ≤ k_6 := fun q => c_24 ((nI_leI (a := sn) (b := k_6) (by omega) (by omega)).mpr q)
        refine lv_aload_n hx hb dX5_isWord_36 rfl (lv_at hl 1 rfl) ?_
        refine lv_aload_n hx hb dX5_isWord_37 rfl (lv_at hl 1 rfl) ?_
        refine va_get (D := (dC, dI)) (ci := 5) (v := .int ns_) (C := RX5) (T := TX5) (N := 9) hx hb hts iw_d_isWord_X5 hown hK hP 0 rfl rfl 5 (by decide) (hts (.fieldLink RX5 32 "ThriceCounted$Reader" "start" "I") (by decide +kernel)) (fun _ h9 => h9) rfl dX5_isWord_38 ?_
        refine lv_iload_n hx hb dX5_isWord_41 rfl (lv_at hl 0 rfl) ?_
        refine lv_iadd hx hb dX5_isWord_42 ?_
        refine lv_topi (fun x_27 _ => ?_)
        have hPc_28 := hP.sub (ws' := [(rd, .inr (5, [.ref (ad 0), .ref tx, .int nl_, .int np_, .int nk_, .int ns_, .int nv_, .int ni_, .int nf_])), (tx, .inl (ctx, 150, .inl fx))]) [0, 1] rfl
        have hKc_29 := hK.sub (tys' := [(ctx, .byte)]) [0] rfl
        refine vp_callSi (va_Run.run (va_runV (As := [.int x_27]) (rest := []) ⟨hx, hb, hml, hown, hts⟩ (d_at l dC dI rd ad tx nl_ np_ nk_ ns_ nv_ ni_ nf_ ctx fx x_27) (cwV 1 hts gX5_isWord_X5_at rfl rfl rfl (by decide +kernel) ⟨Nat.le_of_ble_eq_true rfl, Nat.le_of_ble_eq_true rfl⟩) ⟨fun a U g mk q => by obtain ⟨q0, qP, qK⟩ := q; exact ⟨q0, qP, va_K.moved (u := U) (U := U.calling g mk a) (Vm.Alike.refl U.vm) qK⟩, va_recv hK hP (ci := 5) (q0 := 0) rfl rfl, fun U hU hW => ⟨rfl, by rw [hU]; exact hPc_28, va_K.moved hW.alike hKc_29⟩⟩ rfl rfl hl.1 rfl (lv_room (Nat.le_of_ble_eq_true rfl)) dX5_isWord_43 ⟨Nat.le_of_ble_eq_true rfl, Nat.le_of_ble_eq_true rfl⟩)) (fun r_30 hw_31 => ?_)
        refine lv_aload_n hx hb dX5_isWord_46 rfl (lv_at hl 2 rfl) ?_
        refine lv_iload_n hx hb dX5_isWord_47 rfl (lv_at hl 0 rfl) ?_
        refine vp_callSi (va_Run.run (va_runV (As := [.int (nI k_6)]) (rest := [.int r_30]) ⟨hx, hb, hml, hown, hts⟩ (j_charAt l dC dI sq sv sn sf k_6 hsn (by omega)) (cwV 1 hts gX5_isWord_J0_charAt_5068e rfl rfl rfl (by decide +kernel) ⟨Nat.le_of_ble_eq_true rfl, Nat.le_of_ble_eq_true rfl⟩) ⟨fun a U g mk q => by obtain ⟨q0, qS⟩ := q; exact ⟨q0, tz_St.moved (u := U) (U := U.calling g mk a) (Vm.Alike.refl U.vm) qS⟩, va_Orecv hSt.1 va_S.rf, fun U hU hW => ⟨rfl, by show tz_St _ _ _ _ _ U U.heap; rw [hU]; exact tz_St.moved hW.alike hSt⟩⟩ rfl rfl hl.1 rfl (lv_room (Nat.le_of_ble_eq_true rfl)) dX5_isWord_48 ⟨Nat.le_of_ble_eq_true rfl, Nat.le_of_ble_eq_true rfl⟩)) (fun r_32 hw_33 => ?_)
        refine lv_icmp_eq (tgt := 56) hx hb dX5_isWord_51 (by decide) (fun c_34 => ?_) (fun c_34 => ?_)
        · refine lv_iinc (v := (nI (k_6 + 1))) (lv' := [(2, .int (nI (k_6 + 1))), (0, .ref rd), (1, .ref sq)]) hx hb dX5_isWord_56 hl (k := 0) rfl (nI_add k_6 1) (by decide) rfl (fun ls hl => ?_)
          refine lv_goto (tgt := 28) hx hb dX5_isWord_59 (by decide) ?_
          exact ih_21 ((k_6 + 1), ls) ⟨by dsimp only; omega, lv_sub hl [0, 1, 2] rfl⟩ (by dsimp only; omega)
        · refine lv_iconst (v := 0) hx hb dX5_isWord_54 (by decide) ?_
          exact W.zret (v := 0) hx hb hr (by decide) (fun t ht hW => ⟨0, rfl, Or.inl rfl, ht⟩) (fun _ h => absurd h List.not_mem_nil) dX5_isWord_55
    · refine lv_iconst (v := 0) hx hb dX5_isWord_24 (by decide) ?_
      exact W.zret (v := 0) hx hb hr (by decide) (fun t ht hW => ⟨0, rfl, Or.inl rfl, ht⟩) (fun _ h => absurd h List.not_mem_nil) dX5_isWord_25
