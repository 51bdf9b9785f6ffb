theorem dX7_weightOf_0 : decode cX7_weightOf 0 = .ok (.iload_n 1, 1) := by decide +kernel
theorem dX7_weightOf_1 : decode cX7_weightOf 1 = .ok (.bipush 90, 2) := by decide +kernel
theorem dX7_weightOf_3 : decode cX7_weightOf 3 = .ok (.isub, 1) := by decide +kernel
theorem dX7_weightOf_4 : decode cX7_weightOf 4 = .ok (.istore_n 2, 1) := by decide +kernel
theorem dX7_weightOf_5 : decode cX7_weightOf 5 = .ok (.iload_n 2, 1) := by decide +kernel
theorem dX7_weightOf_6 : decode cX7_weightOf 6 = .ok (.ifCond .lt 21, 3) := by decide +kernel
theorem dX7_weightOf_27 : decode cX7_weightOf 27 = .ok (.lconst 0, 1) := by decide +kernel
theorem dX7_weightOf_28 : decode cX7_weightOf 28 = .ok (.lreturn, 1) := by decide +kernel
theorem dX7_weightOf_9 : decode cX7_weightOf 9 = .ok (.iload_n 2, 1) := by decide +kernel
theorem dX7_weightOf_10 : decode cX7_weightOf 10 = .ok (.aload_n 0, 1) := by decide +kernel
theorem dX7_weightOf_11 : decode cX7_weightOf 11 = .ok (.getfield 9, 3) := by decide +kernel
theorem dX7_weightOf_14 : decode cX7_weightOf 14 = .ok (.arraylength, 1) := by decide +kernel
theorem dX7_weightOf_15 : decode cX7_weightOf 15 = .ok (.if_icmp .ge 12, 3) := by decide +kernel
theorem dX7_weightOf_18 : decode cX7_weightOf 18 = .ok (.aload_n 0, 1) := by decide +kernel
theorem dX7_weightOf_19 : decode cX7_weightOf 19 = .ok (.getfield 9, 3) := by decide +kernel
theorem dX7_weightOf_22 : decode cX7_weightOf 22 = .ok (.iload_n 2, 1) := by decide +kernel
theorem dX7_weightOf_23 : decode cX7_weightOf 23 = .ok (.laload, 1) := by decide +kernel
theorem dX7_weightOf_24 : decode cX7_weightOf 24 = .ok (.goto 4, 3) := by decide +kernel
set_option maxRecDepth 20000 in
theorem iw_s_weightOf_X7 : ∀ w ∈ wsX70, w ∈ wsX7_weightOf := by decide +kernel
set_option maxHeartbeats 4000000 in
set_option maxRecDepth 100000 in
theorem s_weightOf (l : Launch) (dC : Nat → ClassId) (dI : Nat → Nat → Nat) (sc : Nat) (sw : Nat) (sh : Nat) (csw : ClassId) (fw : Nat → Int64) (csh : ClassId) (fh : Nat → Int32) (na : Int32) : Met l yX7_weightOf wsX7_weightOf ({ frames := 0, cells := 0, slots := 0, locals := 0 }) (va_Pc [.ref sc, .int na] (fun U => va_P (dC, dI) vwCl [(sc, .inr (7, [.ref sw, .ref sh])), (sw, .inl (csw, 21, .inr (.inl fw))), (sh, .inl (csh, 21, .inl fh))] U.heap ∧ va_K (dC, dI) vwCl [(csw, .long), (csh, .int)] U)) (vp_Sl (fun r => True)) 0 0 (fun _ => False) := by
  refine Met.ofW (cc := cX7_weightOf) (maxL := 3) (ret := (some .long)) (by decide) rfl ?_
  intro p e s m args below meth c s₁ B hml hv
  obtain ⟨rfl, hP, hK⟩ := hv
  have hx := B.exec
  have hb := B.bytes
  have hr := B.returns
  have hts := atoms_spec (ws := wsX7_weightOf) B.pre
  have hown : s.vm.findClass RX7 = some m.cls := findClass_of_methodNamed B.named
  have hlocks := B.notSynchronized
  have hl := lv_entry ([.ref sc, .int na]) (n := 3) (Nat.le_of_ble_eq_true rfl)
  rw [lg_entry_eq]
  generalize (lg_sl ([.ref sc, .int na]) ++ List.replicate (3 - (lg_sl ([.ref sc, .int na])).length) Slot.unset).toArray = ls at hl ⊢
  have hl : lv_has ls 3 [(0, .ref sc), (1, .int na)] := hl
  refine lv_iload_n hx hb dX7_weightOf_0 rfl (lv_at hl 1 rfl) ?_
  refine lv_bipush (v := 90) hx hb dX7_weightOf_1 (by decide) ?_
  refine lv_isub hx hb dX7_weightOf_3 ?_
  refine lv_topi (fun x_1 _ => ?_)
  refine lv_istore_n (lv' := [(2, .int x_1), (0, .ref sc), (1, .int na)]) hx hb dX7_weightOf_4 rfl hl (by decide) rfl (fun ls hl => ?_)
  refine lv_iload_n hx hb dX7_weightOf_5 rfl (lv_at hl 0 rfl) ?_
  refine lv_if_lt (tgt := 27) hx hb dX7_weightOf_6 (by decide) (fun c_2 => ?_) (fun c_2 => ?_)
  · refine lv_lconst (v := 0) hx hb dX7_weightOf_27 (by decide) ?_
    exact W.lret (v := 0) hx hb hr (fun t ht hW => ⟨0, rfl, trivial, ht⟩) (fun _ h => absurd h List.not_mem_nil) dX7_weightOf_28
  · refine lv_iload_n hx hb dX7_weightOf_9 rfl (lv_at hl 0 rfl) ?_
    refine lv_aload_n hx hb dX7_weightOf_10 rfl (lv_at hl 1 rfl) ?_
    refine va_get (D := (dC, dI)) (ci := 7) (v := .ref sw) (C := RX7) (T := TX7) (N := 2) hx hb hts iw_s_weightOf_X7 hown hK hP 0 rfl rfl 0 (by decide) (hts (.fieldLink RX7 9 "ThriceCounted$Scale" "weights" "[J") (by decide +kernel)) (fun _ h9 => h9) rfl dX7_weightOf_11 ?_
    refine va_alen (v := 21) hx hb hK hP 1 0 rfl rfl rfl dX7_weightOf_14 ?_
    refine lv_icmp_ge (tgt := 27) hx hb dX7_weightOf_15 (by decide) (fun c_3 => ?_) (fun c_3 => ?_)
    · refine lv_lconst (v := 0) hx hb dX7_weightOf_27 (by decide) ?_
      exact W.lret (v := 0) hx hb hr (fun t ht hW => ⟨0, rfl, trivial, ht⟩) (fun _ h => absurd h List.not_mem_nil) dX7_weightOf_28
    · refine lv_aload_n hx hb dX7_weightOf_18 rfl (lv_at hl 1 rfl) ?_
      refine va_get (D := (dC, dI)) (ci := 7) (v := .ref sw) (C := RX7) (T := TX7) (N := 2) hx hb hts iw_s_weightOf_X7 hown hK hP 0 rfl rfl 0 (by decide) (hts (.fieldLink RX7 9 "ThriceCounted$Scale" "weights" "[J") (by decide +kernel)) (fun _ h9 => h9) rfl dX7_weightOf_19 ?_
      refine lv_iload_n hx hb dX7_weightOf_22 rfl (lv_at hl 0 rfl) ?_
      refine va_lald hx hb hK hP 1 0 rfl rfl (tz_in_le c_2 c_3 (M := 21) (by decide)) dX7_weightOf_23 ?_
      refine lv_topl (fun x_4 _ => ?_)
      refine lv_goto (tgt := 28) hx hb dX7_weightOf_24 (by decide) ?_
      exact W.lret (v := x_4) hx hb hr (fun t ht hW => ⟨x_4, rfl, trivial, ht⟩) (fun _ h => absurd h List.not_mem_nil) dX7_weightOf_28
theorem dX7_total_0 : decode cX7_total 0 = .ok (.lconst 0, 1) := by decide +kernel
theorem dX7_total_1 : decode cX7_total 1 = .ok (.lstore_n 1, 1) := by decide +kernel
theorem dX7_total_2 : decode cX7_total 2 = .ok (.iconst 0, 1) := by decide +kernel
theorem dX7_total_3 : decode cX7_total 3 = .ok (.istore_n 3, 1) := by decide +kernel
theorem dX7_total_4 : decode cX7_total 4 = .ok (.iload_n 3, 1) := by decide +kernel
theorem dX7_total_5 : decode cX7_total 5 = .ok (.aload_n 0, 1) := by decide +kernel
theorem dX7_total_6 : decode cX7_total 6 = .ok (.getfield 9, 3) := by decide +kernel
theorem dX7_total_9 : decode cX7_total 9 = .ok (.arraylength, 1) := by decide +kernel
theorem dX7_total_10 : decode cX7_total 10 = .ok (.if_icmp .ge 18, 3) := by decide +kernel
theorem dX7_total_13 : decode cX7_total 13 = .ok (.lload_n 1, 1) := by decide +kernel
theorem dX7_total_14 : decode cX7_total 14 = .ok (.aload_n 0, 1) := by decide +kernel
theorem dX7_total_15 : decode cX7_total 15 = .ok (.getfield 9, 3) := by decide +kernel
theorem dX7_total_18 : decode cX7_total 18 = .ok (.iload_n 3, 1) := by decide +kernel
theorem dX7_total_19 : decode cX7_total 19 = .ok (.laload, 1) := by decide +kernel
theorem dX7_total_20 : decode cX7_total 20 = .ok (.ladd, 1) := by decide +kernel
theorem dX7_total_21 : decode cX7_total 21 = .ok (.lstore_n 1, 1) := by decide +kernel
theorem dX7_total_22 : decode cX7_total 22 = .ok (.iinc 3 1, 3) := by decide +kernel
theorem dX7_total_25 : decode cX7_total 25 = .ok (.goto (-21), 3) := by decide +kernel
theorem dX7_total_28 : decode cX7_total 28 = .ok (.lload_n 1, 1) := by decide +kernel
theorem dX7_total_29 : decode cX7_total 29 = .ok (.lreturn, 1) := by decide +kernel
set_option maxRecDepth 20000 in
theorem iw_s_total_X7 : ∀ w ∈ wsX70, w ∈ wsX7_total := by decide +kernel
set_option maxHeartbeats 4000000 in
set_option maxRecDepth 100000 in
theorem s_total (l : Launch) (dC : Nat → ClassId) (dI : Nat → Nat → Nat) (sc : Nat) (sw : Nat) (sh : Nat) (csw : ClassId) (fw : Nat → Int64) (csh : ClassId) (fh : Nat → Int32) : Met l yX7_total wsX7_total ({ frames := 0, cells := 0, slots := 0, locals := 0 }) (va_Pc [.ref sc] (fun U => va_P (dC, dI) vwCl [(sc, .inr (7, [.ref sw, .ref sh])), (sw, .inl (csw, 21, .inr (.inl fw))), (sh, .inl (csh, 21, .inl fh))] U.heap ∧ va_K (dC, dI) vwCl [(csw, .long), (csh, .int)] U)) (vp_Sl (fun r => True)) 0 0 (fun _ => False) := by
  refine Met.ofW (cc := cX7_total) (maxL := 4) (ret := (some .long)) (by decide) rfl ?_
  intro p e s m args below meth c s₁ B hml hv
  obtain ⟨rfl, hP, hK⟩ := hv
  have hx := B.exec
  have hb := B.bytes
  have hr := B.returns
  have hts := atoms_spec (ws := wsX7_total) B.pre
  have hown : s.vm.findClass RX7 = some m.cls := findClass_of_methodNamed B.named
  have hlocks := B.notSynchronized
  have hl := lv_entry ([.ref sc]) (n := 4) (Nat.le_of_ble_eq_true rfl)
  rw [lg_entry_eq]
  generalize (lg_sl ([.ref sc]) ++ List.replicate (4 - (lg_sl ([.ref sc])).length) Slot.unset).toArray = ls at hl ⊢
  have hl : lv_has ls 4 [(0, .ref sc)] := hl
  refine lv_lconst (v := 0) hx hb dX7_total_0 (by decide) ?_
  refine lv_lstore_n (lv' := [(1, .long 0), (0, .ref sc)]) hx hb dX7_total_1 rfl hl (by decide) rfl (fun ls hl => ?_)
  refine lv_iconst (v := 0) hx hb dX7_total_2 (by decide) ?_
  refine lv_istore_n (lv' := [(3, .int 0), (1, .long 0), (0, .ref sc)]) hx hb dX7_total_3 rfl hl (by decide) rfl (fun ls hl => ?_)
  refine tz_while (σ := Nat × Int64 × Array Slot) (fun x => W p l e _ s m _ below meth c _ _ _ _ _ (F0 m 4 x.2.2 [])) (fun x => x.1 ≤ 21 ∧ lv_has x.2.2 4 [(3, .int (nI x.1)), (1, .long x.2.1), (0, .ref sc)]) (fun x => 21 - x.1) ?_ (0, 0, ls) ⟨by omega, hl⟩
  rintro ⟨k_1, v_7, ls⟩ ⟨hi_13_0, hl⟩ ih_14
  dsimp only at hi_13_0 hl ih_14 ⊢
  refine lv_iload_n hx hb dX7_total_4 rfl (lv_at hl 0 rfl) ?_
  refine lv_aload_n hx hb dX7_total_5 rfl (lv_at hl 2 rfl) ?_
  refine va_get (D := (dC, dI)) (ci := 7) (v := .ref sw) (C := RX7) (T := TX7) (N := 2) hx hb hts iw_s_total_X7 hown hK hP 0 rfl rfl 0 (by decide) (hts (.fieldLink RX7 9 "ThriceCounted$Scale" "weights" "[J") (by decide +kernel)) (fun _ h9 => h9) rfl dX7_total_6 ?_
  refine va_alen (v := 21) hx hb hK hP 1 0 rfl rfl rfl dX7_total_9 ?_
  refine lv_icmp_ge (tgt := 28) hx hb dX7_total_10 (by decide) (fun c_15 => ?_) (fun c_15 => ?_)
  · have hn_16 : 21 ≤ k_1 := (nI_leI (a := 21) (b := k_1) (by omega) (by omega)).mp c_15
    refine lv_lload_n hx hb dX7_total_28 rfl (lv_at hl 1 rfl) ?_
    exact W.lret (v := v_7) hx hb hr (fun t ht hW => ⟨v_7, rfl, trivial, ht⟩) (fun _ h => absurd h List.not_mem_nil) dX7_total_29
  · have hn_17 : ¬ 21 ≤ k_1 := fun q => c_15 ((nI_leI (a := 21) (b := k_1) (by omega) (by omega)).mpr q)
    refine lv_lload_n hx hb dX7_total_13 rfl (lv_at hl 1 rfl) ?_
    refine lv_aload_n hx hb dX7_total_14 rfl (lv_at hl 2 rfl) ?_
    refine va_get (D := (dC, dI)) (ci := 7) (v := .ref sw) (C := RX7) (T := TX7) (N := 2) hx hb hts iw_s_total_X7 hown hK hP 0 rfl rfl 0 (by decide) (hts (.fieldLink RX7 9 "ThriceCounted$Scale" "weights" "[J") (by decide +kernel)) (fun _ h9 => h9) rfl dX7_total_15 ?_
    refine lv_iload_n hx hb dX7_total_18 rfl (lv_at hl 0 rfl) ?_
    refine va_lald hx hb hK hP 1 0 rfl rfl (vp_in_nI (n := k_1) (N := 21) (by omega) (by decide)) dX7_total_19 ?_
    refine lv_topl (fun x_18 _ => ?_)
    refine lv_ladd hx hb dX7_total_20 ?_
    refine lv_topl (fun x_19 _ => ?_)
    refine lv_lstore_n (lv' := [(1, .long x_19), (3, .int (nI k_1)), (0, .ref sc)]) hx hb dX7_total_21 rfl hl (by decide) rfl (fun ls hl => ?_)
    refine lv_iinc (v := (nI (k_1 + 1))) (lv' := [(3, .int (nI (k_1 + 1))), (1, .long x_19), (0, .ref sc)]) hx hb dX7_total_22 hl (k := 1) rfl (nI_add k_1 1) (by decide) rfl (fun ls hl => ?_)
    refine lv_goto (tgt := 4) hx hb dX7_total_25 (by decide) ?_
    exact ih_14 ((k_1 + 1), x_19, ls) ⟨by dsimp only; omega, lv_sub hl [0, 1, 2] rfl⟩ (by dsimp only; omega)
theorem dX7_heaviest_0 : decode cX7_heaviest 0 = .ok (.iconst (-1), 1) := by decide +kernel
theorem dX7_heaviest_1 : decode cX7_heaviest 1 = .ok (.istore_n 1, 1) := by decide +kernel
theorem dX7_heaviest_2 : decode cX7_heaviest 2 = .ok (.lconst 0, 1) := by decide +kernel
theorem dX7_heaviest_3 : decode cX7_heaviest 3 = .ok (.lstore_n 2, 1) := by decide +kernel
theorem dX7_heaviest_4 : decode cX7_heaviest 4 = .ok (.iconst 0, 1) := by decide +kernel
theorem dX7_heaviest_5 : decode cX7_heaviest 5 = .ok (.istore 4, 2) := by decide +kernel
theorem dX7_heaviest_7 : decode cX7_heaviest 7 = .ok (.iload 4, 2) := by decide +kernel
theorem dX7_heaviest_9 : decode cX7_heaviest 9 = .ok (.aload_n 0, 1) := by decide +kernel
theorem dX7_heaviest_10 : decode cX7_heaviest 10 = .ok (.getfield 9, 3) := by decide +kernel
theorem dX7_heaviest_13 : decode cX7_heaviest 13 = .ok (.arraylength, 1) := by decide +kernel
theorem dX7_heaviest_14 : decode cX7_heaviest 14 = .ok (.if_icmp .ge 35, 3) := by decide +kernel
theorem dX7_heaviest_17 : decode cX7_heaviest 17 = .ok (.aload_n 0, 1) := by decide +kernel
theorem dX7_heaviest_18 : decode cX7_heaviest 18 = .ok (.getfield 9, 3) := by decide +kernel
theorem dX7_heaviest_21 : decode cX7_heaviest 21 = .ok (.iload 4, 2) := by decide +kernel
theorem dX7_heaviest_23 : decode cX7_heaviest 23 = .ok (.laload, 1) := by decide +kernel
theorem dX7_heaviest_24 : decode cX7_heaviest 24 = .ok (.lload_n 2, 1) := by decide +kernel
theorem dX7_heaviest_25 : decode cX7_heaviest 25 = .ok (.lcmp, 1) := by decide +kernel
theorem dX7_heaviest_26 : decode cX7_heaviest 26 = .ok (.ifCond .le 17, 3) := by decide +kernel
theorem dX7_heaviest_43 : decode cX7_heaviest 43 = .ok (.iinc 4 1, 3) := by decide +kernel
theorem dX7_heaviest_46 : decode cX7_heaviest 46 = .ok (.goto (-39), 3) := by decide +kernel
theorem dX7_heaviest_29 : decode cX7_heaviest 29 = .ok (.aload_n 0, 1) := by decide +kernel
theorem dX7_heaviest_30 : decode cX7_heaviest 30 = .ok (.getfield 9, 3) := by decide +kernel
theorem dX7_heaviest_33 : decode cX7_heaviest 33 = .ok (.iload 4, 2) := by decide +kernel
theorem dX7_heaviest_35 : decode cX7_heaviest 35 = .ok (.laload, 1) := by decide +kernel
theorem dX7_heaviest_36 : decode cX7_heaviest 36 = .ok (.lstore_n 2, 1) := by decide +kernel
theorem dX7_heaviest_37 : decode cX7_heaviest 37 = .ok (.bipush 90, 2) := by decide +kernel
theorem dX7_heaviest_39 : decode cX7_heaviest 39 = .ok (.iload 4, 2) := by decide +kernel
theorem dX7_heaviest_41 : decode cX7_heaviest 41 = .ok (.iadd, 1) := by decide +kernel
theorem dX7_heaviest_42 : decode cX7_heaviest 42 = .ok (.istore_n 1, 1) := by decide +kernel
theorem dX7_heaviest_49 : decode cX7_heaviest 49 = .ok (.iload_n 1, 1) := by decide +kernel
theorem dX7_heaviest_50 : decode cX7_heaviest 50 = .ok (.ireturn, 1) := by decide +kernel
set_option maxRecDepth 20000 in
theorem iw_s_heaviest_X7 : ∀ w ∈ wsX70, w ∈ wsX7_heaviest := by decide +kernel
set_option maxHeartbeats 4000000 in
set_option maxRecDepth 100000 in
theorem s_heaviest (l : Launch) (dC : Nat → ClassId) (dI : Nat → Nat → Nat) (sc : Nat) (sw : Nat) (sh : Nat) (csw : ClassId) (fw : Nat → Int64) (csh : ClassId) (fh : Nat → Int32) : Met l yX7_heaviest wsX7_heaviest ({ frames := 0, cells := 0, slots := 0, locals := 0 }) (va_Pc [.ref sc] (fun U => va_P (dC, dI) vwCl [(sc, .inr (7, [.ref sw, .ref sh])), (sw, .inl (csw, 21, .inr (.inl fw))), (sh, .inl (csh, 21, .inl fh))] U.heap ∧ va_K (dC, dI) vwCl [(csw, .long), (csh, .int)] U)) (vp_Si (fun r => True)) 0 0 (fun _ => False) := by
  refine Met.ofW (cc := cX7_heaviest) (maxL := 5) (ret := (some .int)) (by decide) rfl ?_
  intro p e s m args below meth c s₁ B hml hv
  obtain ⟨rfl, hP, hK⟩ := hv
  have hx := B.exec
  have hb := B.bytes
  have hr := B.returns
  have hts := atoms_spec (ws := wsX7_heaviest) B.pre
  have hown : s.vm.findClass RX7 = some m.cls := findClass_of_methodNamed B.named
  have hlocks := B.notSynchronized
  have hl := lv_entry ([.ref sc]) (n := 5) (Nat.le_of_ble_eq_true rfl)
  rw [lg_entry_eq]
  generalize (lg_sl ([.ref sc]) ++ List.replicate (5 - (lg_sl ([.ref sc])).length) Slot.unset).toArray = ls at hl ⊢
  have hl : lv_has ls 5 [(0, .ref sc)] := hl
  refine lv_iconst (v := (-1)) hx hb dX7_heaviest_0 (by decide) ?_
  refine lv_istore_n (lv' := [(1, .int (-1)), (0, .ref sc)]) hx hb dX7_heaviest_1 rfl hl (by decide) rfl (fun ls hl => ?_)
  refine lv_lconst (v := 0) hx hb dX7_heaviest_2 (by decide) ?_
  refine lv_lstore_n (lv' := [(2, .long 0), (1, .int (-1)), (0, .ref sc)]) hx hb dX7_heaviest_3 rfl hl (by decide) rfl (fun ls hl => ?_)
  refine lv_iconst (v := 0) hx hb dX7_heaviest_4 (by decide) ?_
  refine lv_istore (lv' := [(4, .int 0), (2, .long 0), (1, .int (-1)), (0, .ref sc)]) hx hb dX7_heaviest_5 hl (by decide) rfl (fun ls hl => ?_)
  refine tz_while (σ := Nat × Int64 × Int32 × Array Slot) (fun x => W p l e _ s m _ below meth c _ _ _ _ _ (F0 m 7 x.2.2.2 [])) (fun x => x.1 ≤ 21 ∧ lv_has x.2.2.2 5 [(4, .int (nI x.1)), (2, .long x.2.1), (1, .int x.2.2.1), (0, .ref sc)]) (fun x => 21 - x.1) ?_ (0, 0, (-1), ls) ⟨by omega, hl⟩
  rintro ⟨k_1, v_8, v_9, ls⟩ ⟨hi_16_0, hl⟩ ih_17
  dsimp only at hi_16_0 hl ih_17 ⊢
  refine lv_iload hx hb dX7_heaviest_7 (lv_at hl 0 rfl) ?_
  refine lv_aload_n hx hb dX7_heaviest_9 rfl (lv_at hl 3 rfl) ?_
  refine va_get (D := (dC, dI)) (ci := 7) (v := .ref sw) (C := RX7) (T := TX7) (N := 2) hx hb hts iw_s_heaviest_X7 hown hK hP 0 rfl rfl 0 (by decide) (hts (.fieldLink RX7 9 "ThriceCounted$Scale" "weights" "[J") (by decide +kernel)) (fun _ h9 => h9) rfl dX7_heaviest_10 ?_
  refine va_alen (v := 21) hx hb hK hP 1 0 rfl rfl rfl dX7_heaviest_13 ?_
  refine lv_icmp_ge (tgt := 49) hx hb dX7_heaviest_14 (by decide) (fun c_18 => ?_) (fun c_18 => ?_)
  · have hn_19 : 21 ≤ k_1 := (nI_leI (a := 21) (b := k_1) (by omega) (by omega)).mp c_18
    refine lv_iload_n hx hb dX7_heaviest_49 rfl (lv_at hl 2 rfl) ?_
    exact W.iret (v := v_9) hx hb hr (fun t ht hW => ⟨v_9, rfl, trivial, ht⟩) (fun _ h => absurd h List.not_mem_nil) dX7_heaviest_50
  · have hn_20 : ¬ 21 ≤ k_1 := fun q => c_18 ((nI_leI (a := 21) (b := k_1) (by omega) (by omega)).mpr q)
    refine lv_aload_n hx hb dX7_heaviest_17 rfl (lv_at hl 3 rfl) ?_
    refine va_get (D := (dC, dI)) (ci := 7) (v := .ref sw) (C := RX7) (T := TX7) (N := 2) hx hb hts iw_s_heaviest_X7 hown hK hP 0 rfl rfl 0 (by decide) (hts (.fieldLink RX7 9 "ThriceCounted$Scale" "weights" "[J") (by decide +kernel)) (fun _ h9 => h9) rfl dX7_heaviest_18 ?_
    refine lv_iload hx hb dX7_heaviest_21 (lv_at hl 0 rfl) ?_
    refine va_lald hx hb hK hP 1 0 rfl rfl (vp_in_nI (n := k_1) (N := 21) (by omega) (by decide)) dX7_heaviest_23 ?_
    refine lv_topl (fun x_21 _ => ?_)
    refine lv_lload_n hx hb dX7_heaviest_24 rfl (lv_at hl 1 rfl) ?_
    refine W.lcmp hx hb dX7_heaviest_25 ?_
    refine lv_if_le (tgt := 43) hx hb dX7_heaviest_26 (by decide) (fun c_22 => ?_) (fun c_22 => ?_)
    · refine lv_iinc (v := (nI (k_1 + 1))) (lv' := [(4, .int (nI (k_1 + 1))), (2, .long v_8), (1, .int v_9), (0, .ref sc)]) hx hb dX7_heaviest_43 hl (k := 0) rfl (nI_add k_1 1) (by decide) rfl (fun ls hl => ?_)
      refine lv_goto (tgt := 7) hx hb dX7_heaviest_46 (by decide) ?_
      exact ih_17 ((k_1 + 1), v_8, v_9, ls) ⟨by dsimp only; omega, lv_sub hl [0, 1, 2, 3] rfl⟩ (by dsimp only; omega)
    · refine lv_aload_n hx hb dX7_heaviest_29 rfl (lv_at hl 3 rfl) ?_
      refine va_get (D := (dC, dI)) (ci := 7) (v := .ref sw) (C := RX7) (T := TX7) (N := 2) hx hb hts iw_s_heaviest_X7 hown hK hP 0 rfl rfl 0 (by decide) (hts (.fieldLink RX7 9 "ThriceCounted$Scale" "weights" "[J") (by decide +kernel)) (fun _ h9 => h9) rfl dX7_heaviest_30 ?_
      refine lv_iload hx hb dX7_heaviest_33 (lv_at hl 0 rfl) ?_
      refine va_lald hx hb hK hP 1 0 rfl rfl (vp_in_nI (n := k_1) (N := 21) (by omega) (by decide)) dX7_heaviest_35 ?_
      refine lv_topl (fun x_23 _ => ?_)
      refine lv_lstore_n (lv' := [(2, .long x_23), (4, .int (nI k_1)), (1, .int v_9), (0, .ref sc)]) hx hb dX7_heaviest_36 rfl hl (by decide) rfl (fun ls hl => ?_)
      refine lv_bipush (v := 90) hx hb dX7_heaviest_37 (by decide) ?_
      refine lv_iload hx hb dX7_heaviest_39 (lv_at hl 1 rfl) ?_
      refine lv_iadd hx hb dX7_heaviest_41 ?_
      refine tz_i (nI (90 + k_1)) (nI_add 90 k_1) ?_
      refine lv_istore_n (lv' := [(1, .int (nI (90 + k_1))), (2, .long x_23), (4, .int (nI k_1)), (0, .ref sc)]) hx hb dX7_heaviest_42 rfl hl (by decide) rfl (fun ls hl => ?_)
      refine lv_iinc (v := (nI (k_1 + 1))) (lv' := [(4, .int (nI (k_1 + 1))), (1, .int (nI (90 + k_1))), (2, .long x_23), (0, .ref sc)]) hx hb dX7_heaviest_43 hl (k := 2) rfl (nI_add k_1 1) (by decide) rfl (fun ls hl => ?_)
      refine lv_goto (tgt := 7) hx hb dX7_heaviest_46 (by decide) ?_
      exact ih_17 ((k_1 + 1), x_23, (nI (90 + k_1)), ls) ⟨by dsimp only; omega, lv_sub hl [0, 2, 1, 3] rfl⟩ (by dsimp only; omega)
theorem dX7_possible_0 : decode cX7_possible 0 = .ok (.iconst 0, 1) := by decide +kernel
theorem dX7_possible_1 : decode cX7_possible 1 = .ok (.istore_n 1, 1) := by decide +kernel
theorem dX7_possible_2 : decode cX7_possible 2 = .ok (.iconst 0, 1) := by decide +kernel
theorem dX7_possible_3 : decode cX7_possible 3 = .ok (.istore_n 2, 1) := by decide +kernel
theorem dX7_possible_4 : decode cX7_possible 4 = .ok (.iload_n 2, 1) := by decide +kernel
theorem dX7_possible_5 : decode cX7_possible 5 = .ok (.aload_n 0, 1) := by decide +kernel
theorem dX7_possible_6 : decode cX7_possible 6 = .ok (.getfield 9, 3) := by decide +kernel
theorem dX7_possible_9 : decode cX7_possible 9 = .ok (.arraylength, 1) := by decide +kernel
theorem dX7_possible_10 : decode cX7_possible 10 = .ok (.if_icmp .ge 23, 3) := by decide +kernel
theorem dX7_possible_13 : decode cX7_possible 13 = .ok (.aload_n 0, 1) := by decide +kernel
theorem dX7_possible_14 : decode cX7_possible 14 = .ok (.getfield 9, 3) := by decide +kernel
theorem dX7_possible_17 : decode cX7_possible 17 = .ok (.iload_n 2, 1) := by decide +kernel
theorem dX7_possible_18 : decode cX7_possible 18 = .ok (.laload, 1) := by decide +kernel
theorem dX7_possible_19 : decode cX7_possible 19 = .ok (.lconst 0, 1) := by decide +kernel
theorem dX7_possible_20 : decode cX7_possible 20 = .ok (.lcmp, 1) := by decide +kernel
theorem dX7_possible_21 : decode cX7_possible 21 = .ok (.ifCond .le 6, 3) := by decide +kernel
theorem dX7_possible_27 : decode cX7_possible 27 = .ok (.iinc 2 1, 3) := by decide +kernel
theorem dX7_possible_30 : decode cX7_possible 30 = .ok (.goto (-26), 3) := by decide +kernel
theorem dX7_possible_24 : decode cX7_possible 24 = .ok (.iinc 1 1, 3) := by decide +kernel
theorem dX7_possible_33 : decode cX7_possible 33 = .ok (.iload_n 1, 1) := by decide +kernel
theorem dX7_possible_34 : decode cX7_possible 34 = .ok (.ireturn, 1) := by decide +kernel
set_option maxRecDepth 20000 in
theorem iw_s_possible_X7 : ∀ w ∈ wsX70, w ∈ wsX7_possible := by decide +kernel
set_option maxHeartbeats 4000000 in
set_option maxRecDepth 100000 in
theorem s_possible (l : Launch) (dC : Nat → ClassId) (dI : Nat → Nat → Nat) (sc : Nat) (sw : Nat) (sh : Nat) (csw : ClassId) (fw : Nat → Int64) (csh : ClassId) (fh : Nat → Int32) : Met l yX7_possible wsX7_possible ({ frames := 0, cells := 0, slots := 0, locals := 0 }) (va_Pc [.ref sc] (fun U => va_P (dC, dI) vwCl [(sc, .inr (7, [.ref sw, .ref sh])), (sw, .inl (csw, 21, .inr (.inl fw))), (sh, .inl (csh, 21, .inl fh))] U.heap ∧ va_K (dC, dI) vwCl [(csw, .long), (csh, .int)] U)) (vp_Si (fun r => True)) 0 0 (fun _ => False) := by
  refine Met.ofW (cc := cX7_possible) (maxL := 3) (ret := (some .int)) (by decide) rfl ?_
  intro p e s m args below meth c s₁ B hml hv
  obtain ⟨rfl, hP, hK⟩ := hv
  have hx := B.exec
  have hb := B.bytes
  have hr := B.returns
  have hts := atoms_spec (ws := wsX7_possible) B.pre
  have hown : s.vm.findClass RX7 = some m.cls := findClass_of_methodNamed B.named
  have hlocks := B.notSynchronized
  have hl := lv_entry ([.ref sc]) (n := 3) (Nat.le_of_ble_eq_true rfl)
  rw [lg_entry_eq]
  generalize (lg_sl ([.ref sc]) ++ List.replicate (3 - (lg_sl ([.ref sc])).length) Slot.unset).toArray = ls at hl ⊢
  have hl : lv_has ls 3 [(0, .ref sc)] := hl
  refine lv_iconst (v := 0) hx hb dX7_possible_0 (by decide) ?_
  refine lv_istore_n (lv' := [(1, .int 0), (0, .ref sc)]) hx hb dX7_possible_1 rfl hl (by decide) rfl (fun ls hl => ?_)
  refine lv_iconst (v := 0) hx hb dX7_possible_2 (by decide) ?_
  refine lv_istore_n (lv' := [(2, .int 0), (1, .int 0), (0, .ref sc)]) hx hb dX7_possible_3 rfl hl (by decide) rfl (fun ls hl => ?_)
  refine tz_while (σ := Nat × Int32 × Array Slot) (fun x => W p l e _ s m _ below meth c _ _ _ _ _ (F0 m 4 x.2.2 [])) (fun x => x.1 ≤ 21 ∧ lv_has x.2.2 3 [(2, .int (nI x.1)), (1, .int x.2.1), (0, .ref sc)]) (fun x => 21 - x.1) ?_ (0, 0, ls) ⟨by omega, hl⟩
  rintro ⟨k_1, v_7, ls⟩ ⟨hi_13_0, hl⟩ ih_14
  dsimp only at hi_13_0 hl ih_14 ⊢
  refine lv_iload_n hx hb dX7_possible_4 rfl (lv_at hl 0 rfl) ?_
  refine lv_aload_n hx hb dX7_possible_5 rfl (lv_at hl 2 rfl) ?_
  refine va_get (D := (dC, dI)) (ci := 7) (v := .ref sw) (C := RX7) (T := TX7) (N := 2) hx hb hts iw_s_possible_X7 hown hK hP 0 rfl rfl 0 (by decide) (hts (.fieldLink RX7 9 "ThriceCounted$Scale" "weights" "[J") (by decide +kernel)) (fun _ h9 => h9) rfl dX7_possible_6 ?_
  refine va_alen (v := 21) hx hb hK hP 1 0 rfl rfl rfl dX7_possible_9 ?_
  refine lv_icmp_ge (tgt := 33) hx hb dX7_possible_10 (by decide) (fun c_15 => ?_) (fun c_15 => ?_)
  · have hn_16 : 21 ≤ k_1 := (nI_leI (a := 21) (b := k_1) (by omega) (by omega)).mp c_15
    refine lv_iload_n hx hb dX7_possible_33 rfl (lv_at hl 1 rfl) ?_
    exact W.iret (v := v_7) hx hb hr (fun t ht hW => ⟨v_7, rfl, trivial, ht⟩) (fun _ h => absurd h List.not_mem_nil) dX7_possible_34
  · have hn_17 : ¬ 21 ≤ k_1 := fun q => c_15 ((nI_leI (a := 21) (b := k_1) (by omega) (by omega)).mpr q)
    refine lv_aload_n hx hb dX7_possible_13 rfl (lv_at hl 2 rfl) ?_
    refine va_get (D := (dC, dI)) (ci := 7) (v := .ref sw) (C := RX7) (T := TX7) (N := 2) hx hb hts iw_s_possible_X7 hown hK hP 0 rfl rfl 0 (by decide) (hts (.fieldLink RX7 9 "ThriceCounted$Scale" "weights" "[J") (by decide +kernel)) (fun _ h9 => h9) rfl dX7_possible_14 ?_
    refine lv_iload_n hx hb dX7_possible_17 rfl (lv_at hl 0 rfl) ?_
    refine va_lald hx hb hK hP 1 0 rfl rfl (vp_in_nI (n := k_1) (N := 21) (by omega) (by decide)) dX7_possible_18 ?_
    refine lv_topl (fun x_18 _ => ?_)
    refine lv_lconst (v := 0) hx hb dX7_possible_19 (by decide) ?_
    refine W.lcmp hx hb dX7_possible_20 ?_
    refine lv_if_le (tgt := 27) hx hb dX7_possible_21 (by decide) (fun c_19 => ?_) (fun c_19 => ?_)
    · refine lv_iinc (v := (nI (k_1 + 1))) (lv' := [(2, .int (nI (k_1 + 1))), (1, .int v_7), (0, .ref sc)]) hx hb dX7_possible_27 hl (k := 0) rfl (nI_add k_1 1) (by decide) rfl (fun ls hl => ?_)
      refine lv_goto (tgt := 4) hx hb dX7_possible_30 (by decide) ?_
      exact ih_14 ((k_1 + 1), v_7, ls) ⟨by dsimp only; omega, lv_sub hl [0, 1, 2] rfl⟩ (by dsimp only; omega)
    · refine lv_iinc (v := (v_7 + 1)) (lv' := [(1, .int (v_7 + 1)), (2, .int (nI k_1)), (0, .ref sc)]) hx hb dX7_possible_24 hl (k := 1) rfl rfl (by decide) rfl (fun ls hl => ?_)
      refine lv_iinc (v := (nI (k_1 + 1))) (lv' := [(2, .int (nI (k_1 + 1))), (1, .int (v_7 + 1)), (0, .ref sc)]) hx hb dX7_possible_27 hl (k := 1) rfl (nI_add k_1 1) (by decide) rfl (fun ls hl => ?_)
      refine lv_goto (tgt := 4) hx hb dX7_possible_30 (by decide) ?_
      exact ih_14 ((k_1 + 1), (v_7 + 1), ls) ⟨by dsimp only; omega, lv_sub hl [0, 1, 2] rfl⟩ (by dsimp only; omega)
set_option maxRecDepth 20000 in
theorem ggX7_firstWeight_X6_get : GoodIn wsX7_firstWeight wsX6_get := goodIn_r _ [7, 8, 9, 10, 11, 12, 6, 13, 14, 21, 22, 23, 24] (by decide +kernel) (by decide +kernel)
set_option maxRecDepth 20000 in
theorem gX7_firstWeight_X6_get : GoodIn wsX7_firstWeight (wsV RX7 35 RX6 yX6_get wsX6_get) := goodIn_app (goodIn_of _ (by decide +kernel)) ggX7_firstWeight_X6_get
theorem dX7_firstWeight_0 : decode cX7_firstWeight 0 = .ok (.aload_n 0, 1) := by decide +kernel
theorem dX7_firstWeight_1 : decode cX7_firstWeight 1 = .ok (.getfield 43, 3) := by decide +kernel
theorem dX7_firstWeight_4 : decode cX7_firstWeight 4 = .ok (.iload_n 1, 1) := by decide +kernel
theorem dX7_firstWeight_5 : decode cX7_firstWeight 5 = .ok (.iconst 0, 1) := by decide +kernel
theorem dX7_firstWeight_6 : decode cX7_firstWeight 6 = .ok (.invokevirtual 35, 3) := by decide +kernel
theorem dX7_firstWeight_9 : decode cX7_firstWeight 9 = .ok (.istore_n 3, 1) := by decide +kernel
theorem dX7_firstWeight_10 : decode cX7_firstWeight 10 = .ok (.aload_n 0, 1) := by decide +kernel
theorem dX7_firstWeight_11 : decode cX7_firstWeight 11 = .ok (.getfield 43, 3) := by decide +kernel
theorem dX7_firstWeight_14 : decode cX7_firstWeight 14 = .ok (.iload_n 1, 1) := by decide +kernel
theorem dX7_firstWeight_15 : decode cX7_firstWeight 15 = .ok (.iconst 1, 1) := by decide +kernel
theorem dX7_firstWeight_16 : decode cX7_firstWeight 16 = .ok (.invokevirtual 35, 3) := by decide +kernel
theorem dX7_firstWeight_19 : decode cX7_firstWeight 19 = .ok (.istore 4, 2) := by decide +kernel
theorem dX7_firstWeight_21 : decode cX7_firstWeight 21 = .ok (.aload_n 0, 1) := by decide +kernel
theorem dX7_firstWeight_22 : decode cX7_firstWeight 22 = .ok (.getfield 43, 3) := by decide +kernel
theorem dX7_firstWeight_25 : decode cX7_firstWeight 25 = .ok (.iload_n 1, 1) := by decide +kernel
theorem dX7_firstWeight_26 : decode cX7_firstWeight 26 = .ok (.iconst 2, 1) := by decide +kernel
theorem dX7_firstWeight_27 : decode cX7_firstWeight 27 = .ok (.invokevirtual 35, 3) := by decide +kernel
theorem dX7_firstWeight_30 : decode cX7_firstWeight 30 = .ok (.istore 5, 2) := by decide +kernel
theorem dX7_firstWeight_32 : decode cX7_firstWeight 32 = .ok (.iload_n 2, 1) := by decide +kernel
theorem dX7_firstWeight_33 : decode cX7_firstWeight 33 = .ok (.iload_n 3, 1) := by decide +kernel
theorem dX7_firstWeight_34 : decode cX7_firstWeight 34 = .ok (.if_icmp .lt 9, 3) := by decide +kernel
theorem dX7_firstWeight_43 : decode cX7_firstWeight 43 = .ok (.lconst 0, 1) := by decide +kernel
theorem dX7_firstWeight_44 : decode cX7_firstWeight 44 = .ok (.lreturn, 1) := by decide +kernel
theorem dX7_firstWeight_37 : decode cX7_firstWeight 37 = .ok (.iload_n 2, 1) := by decide +kernel
theorem dX7_firstWeight_38 : decode cX7_firstWeight 38 = .ok (.iload 4, 2) := by decide +kernel
theorem dX7_firstWeight_40 : decode cX7_firstWeight 40 = .ok (.if_icmp .le 5, 3) := by decide +kernel
theorem dX7_firstWeight_45 : decode cX7_firstWeight 45 = .ok (.iload 5, 2) := by decide +kernel
theorem dX7_firstWeight_47 : decode cX7_firstWeight 47 = .ok (.iconst (-1), 1) := by decide +kernel
theorem dX7_firstWeight_48 : decode cX7_firstWeight 48 = .ok (.if_icmp .eq 22, 3) := by decide +kernel
theorem dX7_firstWeight_70 : decode cX7_firstWeight 70 = .ok (.lconst 1, 1) := by decide +kernel
theorem dX7_firstWeight_71 : decode cX7_firstWeight 71 = .ok (.lreturn, 1) := by decide +kernel
theorem dX7_firstWeight_51 : decode cX7_firstWeight 51 = .ok (.iload 5, 2) := by decide +kernel
theorem dX7_firstWeight_53 : decode cX7_firstWeight 53 = .ok (.iload_n 3, 1) := by decide +kernel
theorem dX7_firstWeight_54 : decode cX7_firstWeight 54 = .ok (.if_icmp .lt 16, 3) := by decide +kernel
theorem dX7_firstWeight_57 : decode cX7_firstWeight 57 = .ok (.iload 5, 2) := by decide +kernel
theorem dX7_firstWeight_59 : decode cX7_firstWeight 59 = .ok (.iload 4, 2) := by decide +kernel
theorem dX7_firstWeight_61 : decode cX7_firstWeight 61 = .ok (.if_icmp .gt 9, 3) := by decide +kernel
theorem dX7_firstWeight_64 : decode cX7_firstWeight 64 = .ok (.iload 4, 2) := by decide +kernel
theorem dX7_firstWeight_66 : decode cX7_firstWeight 66 = .ok (.iload_n 3, 1) := by decide +kernel
theorem dX7_firstWeight_67 : decode cX7_firstWeight 67 = .ok (.if_icmp .ne 5, 3) := by decide +kernel
theorem dX7_firstWeight_72 : decode cX7_firstWeight 72 = .ok (.aload_n 0, 1) := by decide +kernel
theorem dX7_firstWeight_73 : decode cX7_firstWeight 73 = .ok (.getfield 46, 3) := by decide +kernel
theorem dX7_firstWeight_76 : decode cX7_firstWeight 76 = .ok (.aload_n 0, 1) := by decide +kernel
theorem dX7_firstWeight_77 : decode cX7_firstWeight 77 = .ok (.getfield 43, 3) := by decide +kernel
theorem dX7_firstWeight_80 : decode cX7_firstWeight 80 = .ok (.iload_n 1, 1) := by decide +kernel
theorem dX7_firstWeight_81 : decode cX7_firstWeight 81 = .ok (.iconst 3, 1) := by decide +kernel
theorem dX7_firstWeight_82 : decode cX7_firstWeight 82 = .ok (.invokevirtual 35, 3) := by decide +kernel
theorem dX7_firstWeight_85 : decode cX7_firstWeight 85 = .ok (.iconst 0, 1) := by decide +kernel
theorem dX7_firstWeight_86 : decode cX7_firstWeight 86 = .ok (.invokevirtual 35, 3) := by decide +kernel
theorem dX7_firstWeight_89 : decode cX7_firstWeight 89 = .ok (.istore 6, 2) := by decide +kernel
theorem dX7_firstWeight_91 : decode cX7_firstWeight 91 = .ok (.iload_n 2, 1) := by decide +kernel
theorem dX7_firstWeight_92 : decode cX7_firstWeight 92 = .ok (.iload 5, 2) := by decide +kernel
theorem dX7_firstWeight_94 : decode cX7_firstWeight 94 = .ok (.if_icmp .ne 14, 3) := by decide +kernel
theorem dX7_firstWeight_108 : decode cX7_firstWeight 108 = .ok (.bipush 10, 2) := by decide +kernel
theorem dX7_firstWeight_110 : decode cX7_firstWeight 110 = .ok (.iload 6, 2) := by decide +kernel
theorem dX7_firstWeight_112 : decode cX7_firstWeight 112 = .ok (.isub, 1) := by decide +kernel
theorem dX7_firstWeight_113 : decode cX7_firstWeight 113 = .ok (.i2l, 1) := by decide +kernel
theorem dX7_firstWeight_114 : decode cX7_firstWeight 114 = .ok (.lreturn, 1) := by decide +kernel
theorem dX7_firstWeight_97 : decode cX7_firstWeight 97 = .ok (.iload 6, 2) := by decide +kernel
theorem dX7_firstWeight_99 : decode cX7_firstWeight 99 = .ok (.iload 4, 2) := by decide +kernel
theorem dX7_firstWeight_101 : decode cX7_firstWeight 101 = .ok (.iload_n 3, 1) := by decide +kernel
theorem dX7_firstWeight_102 : decode cX7_firstWeight 102 = .ok (.isub, 1) := by decide +kernel
theorem dX7_firstWeight_103 : decode cX7_firstWeight 103 = .ok (.imul, 1) := by decide +kernel
theorem dX7_firstWeight_104 : decode cX7_firstWeight 104 = .ok (.i2l, 1) := by decide +kernel
theorem dX7_firstWeight_105 : decode cX7_firstWeight 105 = .ok (.goto 9, 3) := by decide +kernel
set_option maxRecDepth 20000 in
theorem iw_s_first_X0 : ∀ w ∈ wsX00, w ∈ wsX7_firstWeight := by decide +kernel
set_option maxHeartbeats 4000000 in
set_option maxRecDepth 100000 in
theorem s_first (l : Launch) (dC : Nat → ClassId) (dI : Nat → Nat → Nat) (ab : Nat → Nat) (ub : Nat) (zb : Nat → Nat) (cb : Nat → ClassId) (fb : Nat → Nat → Int32) (na : Int32) (nb : Int32) (hB : (∀ i, zb i ≤ tz_lim i) ∧ ub ≤ 8) : Met l yX7_firstWeight wsX7_firstWeight ({ frames := 2, cells := 0, slots := 0, locals := 44 }) (va_Pc [.ref (ab 0), .int na, .int nb] (fun U => va_P (dC, dI) vwCl [((ab 0), .inr (0, [.ref (ab 1), .ref (ab 3), .ref (ab 5), .ref (ab 7), .ref (ab 9), .int (nI ub)])), ((ab 1), .inr (6, [.int 1, .int 5, .ref (ab 2), .int (nI (zb 0))])), ((ab 2), .inl ((cb 0), 5, .inl (fb 0))), ((ab 3), .inr (6, [.int 4, .int 5, .ref (ab 4), .int (nI (zb 1))])), ((ab 4), .inl ((cb 1), 20, .inl (fb 1)))] U.heap ∧ va_K (dC, dI) vwCl [((cb 0), .int), ((cb 1), .int)] U)) (vp_Sl (fun r => True)) 0 0 (fun _ => False) := by
  refine Met.ofW (cc := cX7_firstWeight) (maxL := 7) (ret := (some .long)) (by decide) rfl ?_
  intro p e s m args below meth c s₁ B hml hv
  obtain ⟨rfl, hP, hK⟩ := hv
  have hx := B.exec
  have hb := B.bytes
  have hr := B.returns
  have hts := atoms_spec (ws := wsX7_firstWeight) B.pre
  have hown : s.vm.findClass RX7 = some m.cls := findClass_of_methodNamed B.named
  have hlocks := B.notSynchronized
  have hl := lv_entry ([.ref (ab 0), .int na, .int nb]) (n := 7) (Nat.le_of_ble_eq_true rfl)
  rw [lg_entry_eq]
  generalize (lg_sl ([.ref (ab 0), .int na, .int nb]) ++ List.replicate (7 - (lg_sl ([.ref (ab 0), .int na, .int nb])).length) Slot.unset).toArray = ls at hl ⊢
  have hl : lv_has ls 7 [(0, .ref (ab 0)), (1, .int na), (2, .int nb)] := hl
  have hz_zb_0 : zb 0 ≤ 5 := hB.1 0
  have hz_zb_1 : zb 1 ≤ 5 := hB.1 1
  have hz_zb_2 : zb 2 ≤ 8 := hB.1 2
  have hz_zb_3 : zb 3 ≤ 6 := hB.1 3
  have hz_zb_4 : zb 4 ≤ 8 := hB.1 4
  have hz_zb_5 : zb 5 ≤ 8 := hB.1 5
  have hz_zb_6 : zb 6 ≤ 8 := hB.1 6
  have hz_zb_7 : zb 7 ≤ 8 := hB.1 7
  have hz_zb_8 : zb 8 ≤ 8 := hB.1 8
  have hz_zb_9 : zb 9 ≤ 8 := hB.1 9
  have hz_zb_10 : zb 10 ≤ 8 := hB.1 10
  have hz_zb_11 : zb 11 ≤ 8 := hB.1 11
  have hu_zb := hB.2
  refine lv_aload_n hx hb dX7_firstWeight_0 rfl (lv_at hl 0 rfl) ?_
  refine va_get (D := (dC, dI)) (ci := 0) (v := .ref (ab 3)) (C := RX0) (T := TX0) (N := 6) hx hb hts iw_s_first_X0 hown hK hP 0 rfl rfl 1 (by decide) (hts (.fieldLink RX7 43 "ThriceCounted$Bank" "bundles" "LThriceCounted$Rows;") (by decide +kernel)) (fun _ h9 => h9) rfl dX7_firstWeight_1 ?_
  refine lv_iload_n hx hb dX7_firstWeight_4 rfl (lv_at hl 1 rfl) ?_
  refine lv_iconst (v := 0) hx hb dX7_firstWeight_5 (by decide) ?_
  have hPc_1 := hP.sub (ws' := [((ab 3), .inr (6, [.int 4, .int 5, .ref (ab 4), .int (nI (zb 1))])), ((ab 4), .inl ((cb 1), 20, .inl (fb 1)))]) [3, 4] rfl
  have hKc_2 := hK.sub (tys' := [((cb 1), .int)]) [1] rfl
  refine vp_callSi (va_Run.run (va_runV (As := [.int na, .int 0]) (rest := []) ⟨hx, hb, hml, hown, hts⟩ (r_get_20 l dC dI (ab 3) (ab 4) (zb 1) (cb 1) (fb 1) na 0 (by omega)) (cwV 2 hts gX7_firstWeight_X6_get rfl rfl rfl (by decide +kernel) ⟨Nat.le_of_ble_eq_true rfl, Nat.le_of_ble_eq_true rfl⟩) ⟨fun a U g mk q => by obtain ⟨q0, qP, qK⟩ := q; exact ⟨q0, qP, va_K.moved (u := U) (U := U.calling g mk a) (Vm.Alike.refl U.vm) qK⟩, va_recv hK hP (ci := 6) (q0 := 3) rfl rfl, fun U hU hW => ⟨rfl, by rw [hU]; exact hPc_1, va_K.moved hW.alike hKc_2⟩⟩ rfl rfl hl.1 rfl (lv_room (Nat.le_of_ble_eq_true rfl)) dX7_firstWeight_6 ⟨Nat.le_of_ble_eq_true rfl, Nat.le_of_ble_eq_true rfl⟩)) (fun r_3 hw_4 => ?_)
  refine lv_istore_n (lv' := [(3, .int r_3), (0, .ref (ab 0)), (1, .int na), (2, .int nb)]) hx hb dX7_firstWeight_9 rfl hl (by decide) rfl (fun ls hl => ?_)
  refine lv_aload_n hx hb dX7_firstWeight_10 rfl (lv_at hl 1 rfl) ?_
  refine va_get (D := (dC, dI)) (ci := 0) (v := .ref (ab 3)) (C := RX0) (T := TX0) (N := 6) hx hb hts iw_s_first_X0 hown hK hP 0 rfl rfl 1 (by decide) (hts (.fieldLink RX7 43 "ThriceCounted$Bank" "bundles" "LThriceCounted$Rows;") (by decide +kernel)) (fun _ h9 => h9) rfl dX7_firstWeight_11 ?_
  refine lv_iload_n hx hb dX7_firstWeight_14 rfl (lv_at hl 2 rfl) ?_
  refine lv_iconst (v := 1) hx hb dX7_firstWeight_15 (by decide) ?_
  have hPc_5 := hP.sub (ws' := [((ab 3), .inr (6, [.int 4, .int 5, .ref (ab 4), .int (nI (zb 1))])), ((ab 4), .inl ((cb 1), 20, .inl (fb 1)))]) [3, 4] rfl
  have hKc_6 := hK.sub (tys' := [((cb 1), .int)]) [1] rfl
  refine vp_callSi (va_Run.run (va_runV (As := [.int na, .int 1]) (rest := []) ⟨hx, hb, hml, hown, hts⟩ (r_get_20 l dC dI (ab 3) (ab 4) (zb 1) (cb 1) (fb 1) na 1 (by omega)) (cwV 2 hts gX7_firstWeight_X6_get rfl rfl rfl (by decide +kernel) ⟨Nat.le_of_ble_eq_true rfl, Nat.le_of_ble_eq_true rfl⟩) ⟨fun a U g mk q => by obtain ⟨q0, qP, qK⟩ := q; exact ⟨q0, qP, va_K.moved (u := U) (U := U.calling g mk a) (Vm.Alike.refl U.vm) qK⟩, va_recv hK hP (ci := 6) (q0 := 3) rfl rfl, fun U hU hW => ⟨rfl, by rw [hU]; exact hPc_5, va_K.moved hW.alike hKc_6⟩⟩ rfl rfl hl.1 rfl (lv_room (Nat.le_of_ble_eq_true rfl)) dX7_firstWeight_16 ⟨Nat.le_of_ble_eq_true rfl, Nat.le_of_ble_eq_true rfl⟩)) (fun r_7 hw_8 => ?_)
  refine lv_istore (lv' := [(4, .int r_7), (3, .int r_3), (0, .ref (ab 0)), (1, .int na), (2, .int nb)]) hx hb dX7_firstWeight_19 hl (by decide) rfl (fun ls hl => ?_)
  refine lv_aload_n hx hb dX7_firstWeight_21 rfl (lv_at hl 2 rfl) ?_
  refine va_get (D := (dC, dI)) (ci := 0) (v := .ref (ab 3)) (C := RX0) (T := TX0) (N := 6) hx hb hts iw_s_first_X0 hown hK hP 0 rfl rfl 1 (by decide) (hts (.fieldLink RX7 43 "ThriceCounted$Bank" "bundles" "LThriceCounted$Rows;") (by decide +kernel)) (fun _ h9 => h9) rfl dX7_firstWeight_22 ?_
  refine lv_iload_n hx hb dX7_firstWeight_25 rfl (lv_at hl 3 rfl) ?_
  refine lv_iconst (v := 2) hx hb dX7_firstWeight_26 (by decide) ?_
  have hPc_9 := hP.sub (ws' := [((ab 3), .inr (6, [.int 4, .int 5, .ref (ab 4), .int (nI (zb 1))])), ((ab 4), .inl ((cb 1), 20, .inl (fb 1)))]) [3, 4] rfl
  have hKc_10 := hK.sub (tys' := [((cb 1), .int)]) [1] rfl
  refine vp_callSi (va_Run.run (va_runV (As := [.int na, .int 2]) (rest := []) ⟨hx, hb, hml, hown, hts⟩ (r_get_20 l dC dI (ab 3) (ab 4) (zb 1) (cb 1) (fb 1) na 2 (by omega)) (cwV 2 hts gX7_firstWeight_X6_get rfl rfl rfl (by decide +kernel) ⟨Nat.le_of_ble_eq_true rfl, Nat.le_of_ble_eq_true rfl⟩) ⟨fun a U g mk q => by obtain ⟨q0, qP, qK⟩ := q; exact ⟨q0, qP, va_K.moved (u := U) (U := U.calling g mk a) (Vm.Alike.refl U.vm) qK⟩, va_recv hK hP (ci := 6) (q0 := 3) rfl rfl, fun U hU hW => ⟨rfl, by rw [hU]; exact hPc_9, va_K.moved hW.alike hKc_10⟩⟩ rfl rfl hl.1 rfl (lv_room (Nat.le_of_ble_eq_true rfl)) dX7_firstWeight_27 ⟨Nat.le_of_ble_eq_true rfl, Nat.le_of_ble_eq_true rfl⟩)) (fun r_11 hw_12 => ?_)
  refine lv_istore (lv' := [(5, .int r_11), (4, .int r_7), (3, .int r_3), (0, .ref (ab 0)), (1, .int na), (2, .int nb)]) hx hb dX7_firstWeight_30 hl (by decide) rfl (fun ls hl => ?_)
  refine lv_iload_n hx hb dX7_firstWeight_32 rfl (lv_at hl 5 rfl) ?_
  refine lv_iload_n hx hb dX7_firstWeight_33 rfl (lv_at hl 2 rfl) ?_
  refine lv_icmp_lt (tgt := 43) hx hb dX7_firstWeight_34 (by decide) (fun c_13 => ?_) (fun c_13 => ?_)
  · refine lv_lconst (v := 0) hx hb dX7_firstWeight_43 (by decide) ?_
    exact W.lret (v := 0) hx hb hr (fun t ht hW => ⟨0, rfl, trivial, ht⟩) (fun _ h => absurd h List.not_mem_nil) dX7_firstWeight_44
  · refine lv_iload_n hx hb dX7_firstWeight_37 rfl (lv_at hl 5 rfl) ?_
    refine lv_iload hx hb dX7_firstWeight_38 (lv_at hl 1 rfl) ?_
    refine lv_icmp_le (tgt := 45) hx hb dX7_firstWeight_40 (by decide) (fun c_14 => ?_) (fun c_14 => ?_)
    · refine lv_iload hx hb dX7_firstWeight_45 (lv_at hl 0 rfl) ?_
      refine lv_iconst (v := (-1)) hx hb dX7_firstWeight_47 (by decide) ?_
      refine lv_icmp_eq (tgt := 70) hx hb dX7_firstWeight_48 (by decide) (fun c_15 => ?_) (fun c_15 => ?_)
      · refine lv_lconst (v := 1) hx hb dX7_firstWeight_70 (by decide) ?_
        exact W.lret (v := 1) hx hb hr (fun t ht hW => ⟨1, rfl, trivial, ht⟩) (fun _ h => absurd h List.not_mem_nil) dX7_firstWeight_71
      · refine lv_iload hx hb dX7_firstWeight_51 (lv_at hl 0 rfl) ?_
        refine lv_iload_n hx hb dX7_firstWeight_53 rfl (lv_at hl 2 rfl) ?_
        refine lv_icmp_lt (tgt := 70) hx hb dX7_firstWeight_54 (by decide) (fun c_16 => ?_) (fun c_16 => ?_)
        · refine lv_lconst (v := 1) hx hb dX7_firstWeight_70 (by decide) ?_
          exact W.lret (v := 1) hx hb hr (fun t ht hW => ⟨1, rfl, trivial, ht⟩) (fun _ h => absurd h List.not_mem_nil) dX7_firstWeight_71
        · refine lv_iload hx hb dX7_firstWeight_57 (lv_at hl 0 rfl) ?_
          refine lv_iload hx hb dX7_firstWeight_59 (lv_at hl 1 rfl) ?_
          refine lv_icmp_gt (tgt := 70) hx hb dX7_firstWeight_61 (by decide) (fun c_17 => ?_) (fun c_17 => ?_)
          · refine lv_lconst (v := 1) hx hb dX7_firstWeight_70 (by decide) ?_
            exact W.lret (v := 1) hx hb hr (fun t ht hW => ⟨1, rfl, trivial, ht⟩) (fun _ h => absurd h List.not_mem_nil) dX7_firstWeight_71
          · refine lv_iload hx hb dX7_firstWeight_64 (lv_at hl 1 rfl) ?_
            refine lv_iload_n hx hb dX7_firstWeight_66 rfl (lv_at hl 2 rfl) ?_
            refine lv_icmp_ne (tgt := 72) hx hb dX7_firstWeight_67 (by decide) (fun c_18 => ?_) (fun c_18 => ?_)
            · refine lv_aload_n hx hb dX7_firstWeight_72 rfl (lv_at hl 3 rfl) ?_
              refine va_get (D := (dC, dI)) (ci := 0) (v := .ref (ab 1)) (C := RX0) (T := TX0) (N := 6) hx hb hts iw_s_first_X0 hown hK hP 0 rfl rfl 0 (by decide) (hts (.fieldLink RX7 46 "ThriceCounted$Bank" "clerks" "LThriceCounted$Rows;") (by decide +kernel)) (fun _ h9 => h9) rfl dX7_firstWeight_73 ?_
              refine lv_aload_n hx hb dX7_firstWeight_76 rfl (lv_at hl 3 rfl) ?_
              refine va_get (D := (dC, dI)) (ci := 0) (v := .ref (ab 3)) (C := RX0) (T := TX0) (N := 6) hx hb hts iw_s_first_X0 hown hK hP 0 rfl rfl 1 (by decide) (hts (.fieldLink RX7 43 "ThriceCounted$Bank" "bundles" "LThriceCounted$Rows;") (by decide +kernel)) (fun _ h9 => h9) rfl dX7_firstWeight_77 ?_
              refine lv_iload_n hx hb dX7_firstWeight_80 rfl (lv_at hl 4 rfl) ?_
              refine lv_iconst (v := 3) hx hb dX7_firstWeight_81 (by decide) ?_
              have hPc_19 := hP.sub (ws' := [((ab 3), .inr (6, [.int 4, .int 5, .ref (ab 4), .int (nI (zb 1))])), ((ab 4), .inl ((cb 1), 20, .inl (fb 1)))]) [3, 4] rfl
              have hKc_20 := hK.sub (tys' := [((cb 1), .int)]) [1] rfl
              refine vp_callSi (va_Run.run (va_runV (As := [.int na, .int 3]) (rest := [.ref (ab 1)]) ⟨hx, hb, hml, hown, hts⟩ (r_get_20 l dC dI (ab 3) (ab 4) (zb 1) (cb 1) (fb 1) na 3 (by omega)) (cwV 2 hts gX7_firstWeight_X6_get rfl rfl rfl (by decide +kernel) ⟨Nat.le_of_ble_eq_true rfl, Nat.le_of_ble_eq_true rfl⟩) ⟨fun a U g mk q => by obtain ⟨q0, qP, qK⟩ := q; exact ⟨q0, qP, va_K.moved (u := U) (U := U.calling g mk a) (Vm.Alike.refl U.vm) qK⟩, va_recv hK hP (ci := 6) (q0 := 3) rfl rfl, fun U hU hW => ⟨rfl, by rw [hU]; exact hPc_19, va_K.moved hW.alike hKc_20⟩⟩ rfl rfl hl.1 rfl (lv_room (Nat.le_of_ble_eq_true rfl)) dX7_firstWeight_82 ⟨Nat.le_of_ble_eq_true rfl, Nat.le_of_ble_eq_true rfl⟩)) (fun r_21 hw_22 => ?_)
              refine lv_iconst (v := 0) hx hb dX7_firstWeight_85 (by decide) ?_
              have hPc_23 := hP.sub (ws' := [((ab 1), .inr (6, [.int 1, .int 5, .ref (ab 2), .int (nI (zb 0))])), ((ab 2), .inl ((cb 0), 5, .inl (fb 0)))]) [1, 2] rfl
              have hKc_24 := hK.sub (tys' := [((cb 0), .int)]) [0] rfl
              refine vp_callSi (va_Run.run (va_runV (As := [.int r_21, .int 0]) (rest := []) ⟨hx, hb, hml, hown, hts⟩ (r_get_5 l dC dI (ab 1) (ab 2) (zb 0) (cb 0) (fb 0) r_21 0 (by omega)) (cwV 2 hts gX7_firstWeight_X6_get rfl rfl rfl (by decide +kernel) ⟨Nat.le_of_ble_eq_true rfl, Nat.le_of_ble_eq_true rfl⟩) ⟨fun a U g mk q => by obtain ⟨q0, qP, qK⟩ := q; exact ⟨q0, qP, va_K.moved (u := U) (U := U.calling g mk a) (Vm.Alike.refl U.vm) qK⟩, va_recv hK hP (ci := 6) (q0 := 1) rfl rfl, fun U hU hW => ⟨rfl, by rw [hU]; exact hPc_23, va_K.moved hW.alike hKc_24⟩⟩ rfl rfl hl.1 rfl (lv_room (Nat.le_of_ble_eq_true rfl)) dX7_firstWeight_86 ⟨Nat.le_of_ble_eq_true rfl, Nat.le_of_ble_eq_true rfl⟩)) (fun r_25 hw_26 => ?_)
              refine lv_istore (lv' := [(6, .int r_25), (5, .int r_11), (4, .int r_7), (3, .int r_3), (0, .ref (ab 0)), (1, .int na), (2, .int nb)]) hx hb dX7_firstWeight_89 hl (by decide) rfl (fun ls hl => ?_)
              refine lv_iload_n hx hb dX7_firstWeight_91 rfl (lv_at hl 6 rfl) ?_
              refine lv_iload hx hb dX7_firstWeight_92 (lv_at hl 1 rfl) ?_
              refine lv_icmp_ne (tgt := 108) hx hb dX7_firstWeight_94 (by decide) (fun c_27 => ?_) (fun c_27 => ?_)
              · refine lv_bipush (v := 10) hx hb dX7_firstWeight_108 (by decide) ?_
                refine lv_iload hx hb dX7_firstWeight_110 (lv_at hl 0 rfl) ?_
                refine lv_isub hx hb dX7_firstWeight_112 ?_
                refine lv_topi (fun x_28 _ => ?_)
                refine lv_i2l (v := x_28.toInt64) hx hb dX7_firstWeight_113 rfl ?_
                exact W.lret (v := x_28.toInt64) hx hb hr (fun t ht hW => ⟨x_28.toInt64, rfl, trivial, ht⟩) (fun _ h => absurd h List.not_mem_nil) dX7_firstWeight_114
              · refine lv_iload hx hb dX7_firstWeight_97 (lv_at hl 0 rfl) ?_
                refine lv_iload hx hb dX7_firstWeight_99 (lv_at hl 2 rfl) ?_
                refine lv_iload_n hx hb dX7_firstWeight_101 rfl (lv_at hl 3 rfl) ?_
                refine lv_isub hx hb dX7_firstWeight_102 ?_
                refine lv_topi (fun x_29 _ => ?_)
                refine lv_imul hx hb dX7_firstWeight_103 ?_
                refine lv_topi (fun x_30 _ => ?_)
                refine lv_i2l (v := x_30.toInt64) hx hb dX7_firstWeight_104 rfl ?_
                refine lv_goto (tgt := 114) hx hb dX7_firstWeight_105 (by decide) ?_
                exact W.lret (v := x_30.toInt64) hx hb hr (fun t ht hW => ⟨x_30.toInt64, rfl, trivial, ht⟩) (fun _ h => absurd h List.not_mem_nil) dX7_firstWeight_114
            · refine lv_lconst (v := 1) hx hb dX7_firstWeight_70 (by decide) ?_
              exact W.lret (v := 1) hx hb hr (fun t ht hW => ⟨1, rfl, trivial, ht⟩) (fun _ h => absurd h List.not_mem_nil) dX7_firstWeight_71
    · refine lv_lconst (v := 0) hx hb dX7_firstWeight_43 (by decide) ?_
      exact W.lret (v := 0) hx hb hr (fun t ht hW => ⟨0, rfl, trivial, ht⟩) (fun _ h => absurd h List.not_mem_nil) dX7_firstWeight_44
set_option maxRecDepth 20000 in
theorem ggX7_addCounts_X4_slip : GoodIn wsX7_addCounts wsX4_slip := goodIn_r _ [14] (by decide +kernel) (by decide +kernel)
set_option maxRecDepth 20000 in
theorem gX7_addCounts_X4_slip : GoodIn wsX7_addCounts (wsV RX7 49 RX4 yX4_slip wsX4_slip) := goodIn_app (goodIn_of _ (by decide +kernel)) ggX7_addCounts_X4_slip
theorem dX7_addCounts_0 : decode cX7_addCounts 0 = .ok (.iconst 0, 1) := by decide +kernel
theorem dX7_addCounts_1 : decode cX7_addCounts 1 = .ok (.istore 4, 2) := by decide +kernel
theorem dX7_addCounts_3 : decode cX7_addCounts 3 = .ok (.iload 4, 2) := by decide +kernel
theorem dX7_addCounts_5 : decode cX7_addCounts 5 = .ok (.aload_n 0, 1) := by decide +kernel
theorem dX7_addCounts_6 : decode cX7_addCounts 6 = .ok (.getfield 15, 3) := by decide +kernel
theorem dX7_addCounts_9 : decode cX7_addCounts 9 = .ok (.arraylength, 1) := by decide +kernel
theorem dX7_addCounts_10 : decode cX7_addCounts 10 = .ok (.if_icmp .ge 17, 3) := by decide +kernel
theorem dX7_addCounts_13 : decode cX7_addCounts 13 = .ok (.aload_n 0, 1) := by decide +kernel
theorem dX7_addCounts_14 : decode cX7_addCounts 14 = .ok (.getfield 15, 3) := by decide +kernel
theorem dX7_addCounts_17 : decode cX7_addCounts 17 = .ok (.iload 4, 2) := by decide +kernel
theorem dX7_addCounts_19 : decode cX7_addCounts 19 = .ok (.iconst 0, 1) := by decide +kernel
theorem dX7_addCounts_20 : decode cX7_addCounts 20 = .ok (.iastore, 1) := by decide +kernel
theorem dX7_addCounts_21 : decode cX7_addCounts 21 = .ok (.iinc 4 1, 3) := by decide +kernel
theorem dX7_addCounts_24 : decode cX7_addCounts 24 = .ok (.goto (-21), 3) := by decide +kernel
theorem dX7_addCounts_27 : decode cX7_addCounts 27 = .ok (.iconst 0, 1) := by decide +kernel
theorem dX7_addCounts_28 : decode cX7_addCounts 28 = .ok (.istore 4, 2) := by decide +kernel
theorem dX7_addCounts_30 : decode cX7_addCounts 30 = .ok (.iload 4, 2) := by decide +kernel
theorem dX7_addCounts_32 : decode cX7_addCounts 32 = .ok (.bipush 20, 2) := by decide +kernel
theorem dX7_addCounts_34 : decode cX7_addCounts 34 = .ok (.if_icmp .ge 48, 3) := by decide +kernel
theorem dX7_addCounts_37 : decode cX7_addCounts 37 = .ok (.iload_n 2, 1) := by decide +kernel
theorem dX7_addCounts_38 : decode cX7_addCounts 38 = .ok (.aload_n 1, 1) := by decide +kernel
theorem dX7_addCounts_39 : decode cX7_addCounts 39 = .ok (.iload 4, 2) := by decide +kernel
theorem dX7_addCounts_41 : decode cX7_addCounts 41 = .ok (.invokevirtual 49, 3) := by decide +kernel
theorem dX7_addCounts_44 : decode cX7_addCounts 44 = .ok (.isub, 1) := by decide +kernel
theorem dX7_addCounts_45 : decode cX7_addCounts 45 = .ok (.bipush 90, 2) := by decide +kernel
theorem dX7_addCounts_47 : decode cX7_addCounts 47 = .ok (.isub, 1) := by decide +kernel
theorem dX7_addCounts_48 : decode cX7_addCounts 48 = .ok (.istore 5, 2) := by decide +kernel
theorem dX7_addCounts_50 : decode cX7_addCounts 50 = .ok (.iload 5, 2) := by decide +kernel
theorem dX7_addCounts_52 : decode cX7_addCounts 52 = .ok (.ifCond .lt 24, 3) := by decide +kernel
theorem dX7_addCounts_76 : decode cX7_addCounts 76 = .ok (.iinc 4 1, 3) := by decide +kernel
theorem dX7_addCounts_79 : decode cX7_addCounts 79 = .ok (.goto (-49), 3) := by decide +kernel
theorem dX7_addCounts_55 : decode cX7_addCounts 55 = .ok (.iload 5, 2) := by decide +kernel
theorem dX7_addCounts_57 : decode cX7_addCounts 57 = .ok (.aload_n 0, 1) := by decide +kernel
theorem dX7_addCounts_58 : decode cX7_addCounts 58 = .ok (.getfield 15, 3) := by decide +kernel
theorem dX7_addCounts_61 : decode cX7_addCounts 61 = .ok (.arraylength, 1) := by decide +kernel
theorem dX7_addCounts_62 : decode cX7_addCounts 62 = .ok (.if_icmp .ge 14, 3) := by decide +kernel
theorem dX7_addCounts_65 : decode cX7_addCounts 65 = .ok (.aload_n 0, 1) := by decide +kernel
theorem dX7_addCounts_66 : decode cX7_addCounts 66 = .ok (.getfield 15, 3) := by decide +kernel
theorem dX7_addCounts_69 : decode cX7_addCounts 69 = .ok (.iload 5, 2) := by decide +kernel
theorem dX7_addCounts_71 : decode cX7_addCounts 71 = .ok (.dup2, 1) := by decide +kernel
theorem dX7_addCounts_72 : decode cX7_addCounts 72 = .ok (.iaload, 1) := by decide +kernel
theorem dX7_addCounts_73 : decode cX7_addCounts 73 = .ok (.iconst 1, 1) := by decide +kernel
theorem dX7_addCounts_74 : decode cX7_addCounts 74 = .ok (.iadd, 1) := by decide +kernel
theorem dX7_addCounts_75 : decode cX7_addCounts 75 = .ok (.iastore, 1) := by decide +kernel
theorem dX7_addCounts_82 : decode cX7_addCounts 82 = .ok (.iconst 0, 1) := by decide +kernel
theorem dX7_addCounts_83 : decode cX7_addCounts 83 = .ok (.istore 4, 2) := by decide +kernel
theorem dX7_addCounts_85 : decode cX7_addCounts 85 = .ok (.iload 4, 2) := by decide +kernel
theorem dX7_addCounts_87 : decode cX7_addCounts 87 = .ok (.iload_n 3, 1) := by decide +kernel
theorem dX7_addCounts_88 : decode cX7_addCounts 88 = .ok (.if_icmp .ge 56, 3) := by decide +kernel
theorem dX7_addCounts_91 : decode cX7_addCounts 91 = .ok (.iconst 0, 1) := by decide +kernel
theorem dX7_addCounts_92 : decode cX7_addCounts 92 = .ok (.istore 5, 2) := by decide +kernel
theorem dX7_addCounts_94 : decode cX7_addCounts 94 = .ok (.iload 5, 2) := by decide +kernel
theorem dX7_addCounts_96 : decode cX7_addCounts 96 = .ok (.aload_n 0, 1) := by decide +kernel
theorem dX7_addCounts_97 : decode cX7_addCounts 97 = .ok (.getfield 9, 3) := by decide +kernel
theorem dX7_addCounts_100 : decode cX7_addCounts 100 = .ok (.arraylength, 1) := by decide +kernel
theorem dX7_addCounts_101 : decode cX7_addCounts 101 = .ok (.if_icmp .ge 37, 3) := by decide +kernel
theorem dX7_addCounts_104 : decode cX7_addCounts 104 = .ok (.iload 5, 2) := by decide +kernel
theorem dX7_addCounts_106 : decode cX7_addCounts 106 = .ok (.aload_n 0, 1) := by decide +kernel
theorem dX7_addCounts_107 : decode cX7_addCounts 107 = .ok (.getfield 15, 3) := by decide +kernel
theorem dX7_addCounts_110 : decode cX7_addCounts 110 = .ok (.arraylength, 1) := by decide +kernel
theorem dX7_addCounts_111 : decode cX7_addCounts 111 = .ok (.if_icmp .ge 27, 3) := by decide +kernel
theorem dX7_addCounts_114 : decode cX7_addCounts 114 = .ok (.aload_n 0, 1) := by decide +kernel
theorem dX7_addCounts_115 : decode cX7_addCounts 115 = .ok (.getfield 9, 3) := by decide +kernel
theorem dX7_addCounts_118 : decode cX7_addCounts 118 = .ok (.iload 5, 2) := by decide +kernel
theorem dX7_addCounts_120 : decode cX7_addCounts 120 = .ok (.dup2, 1) := by decide +kernel
theorem dX7_addCounts_121 : decode cX7_addCounts 121 = .ok (.laload, 1) := by decide +kernel
theorem dX7_addCounts_122 : decode cX7_addCounts 122 = .ok (.aload_n 0, 1) := by decide +kernel
theorem dX7_addCounts_123 : decode cX7_addCounts 123 = .ok (.getfield 15, 3) := by decide +kernel
theorem dX7_addCounts_126 : decode cX7_addCounts 126 = .ok (.iload 5, 2) := by decide +kernel
theorem dX7_addCounts_128 : decode cX7_addCounts 128 = .ok (.iaload, 1) := by decide +kernel
theorem dX7_addCounts_129 : decode cX7_addCounts 129 = .ok (.i2l, 1) := by decide +kernel
theorem dX7_addCounts_130 : decode cX7_addCounts 130 = .ok (.lmul, 1) := by decide +kernel
theorem dX7_addCounts_131 : decode cX7_addCounts 131 = .ok (.lastore, 1) := by decide +kernel
theorem dX7_addCounts_132 : decode cX7_addCounts 132 = .ok (.iinc 5 1, 3) := by decide +kernel
theorem dX7_addCounts_135 : decode cX7_addCounts 135 = .ok (.goto (-41), 3) := by decide +kernel
theorem dX7_addCounts_138 : decode cX7_addCounts 138 = .ok (.iinc 4 1, 3) := by decide +kernel
theorem dX7_addCounts_141 : decode cX7_addCounts 141 = .ok (.goto (-56), 3) := by decide +kernel
theorem dX7_addCounts_144 : decode cX7_addCounts 144 = .ok (.return_, 1) := by decide +kernel
set_option maxRecDepth 20000 in
theorem iw_s_add_X4_X7 : ∀ w ∈ wsX70, w ∈ wsX7_addCounts := by decide +kernel
set_option maxHeartbeats 4000000 in
set_option maxRecDepth 100000 in
theorem s_add_X4 (l : Launch) (dC : Nat → ClassId) (dI : Nat → Nat → Nat) (sc : Nat) (sw : Nat) (sh : Nat) (csw : ClassId) (fw : Nat → Int64) (csh : ClassId) (fh : Nat → Int32) (q0 : Nat) (na : Int32) (nb : Int32) (sz : Nat) : Met l yX7_addCounts wsX7_addCounts ({ frames := 1, cells := 0, slots := 0, locals := 21 }) (va_Pc [.ref sc, .ref q0, .int na, .int nb] (fun U => U.heap.size = sz ∧ va_P (dC, dI) vwCl [(sc, .inr (7, [.ref sw, .ref sh])), (sw, .inl (csw, 21, .inr (.inl fw))), (sh, .inl (csh, 21, .inl fh)), (q0, .inr (4, []))] U.heap ∧ va_K (dC, dI) vwCl [(csw, .long), (csh, .int)] U ∧ va_D (fun _ => True) [(sc, .inr (7, [.ref sw, .ref sh])), (sw, .inl (csw, 21, .inr (.inl fw))), (sh, .inl (csh, 21, .inl fh)), (q0, .inr (4, []))])) (va_Qv (fun (_ : Unit) => True) (fun _ t => ∃ (gw : Nat → Int64) (gh : Nat → Int32), va_P (dC, dI) vwCl [(sc, .inr (7, [.ref sw, .ref sh])), (sw, .inl (csw, 21, .inr (.inl gw))), (sh, .inl (csh, 21, .inl gh)), (q0, .inr (4, []))] t.heap ∧ va_K (dC, dI) vwCl [(csw, .long), (csh, .int)] t ∧ va_D (va_A [(sc, .inr (7, [.ref sw, .ref sh])), (sw, .inl (csw, 21, .inr (.inl fw))), (sh, .inl (csh, 21, .inl fh)), (q0, .inr (4, []))] sz) [(sc, .inr (7, [.ref sw, .ref sh])), (sw, .inl (csw, 21, .inr (.inl gw))), (sh, .inl (csh, 21, .inl gh)), (q0, .inr (4, []))]) (va_A [(sc, .inr (7, [.ref sw, .ref sh])), (sw, .inl (csw, 21, .inr (.inl fw))), (sh, .inl (csh, 21, .inl fh)), (q0, .inr (4, []))] sz)) 0 0 (va_A [(sc, .inr (7, [.ref sw, .ref sh])), (sw, .inl (csw, 21, .inr (.inl fw))), (sh, .inl (csh, 21, .inl fh)), (q0, .inr (4, []))] sz) := by
  refine Met.ofW (cc := cX7_addCounts) (maxL := 6) (ret := none) (by decide) rfl ?_
  intro p e s m args below meth c s₁ B hml hv
  obtain ⟨rfl, hsz, hP, hK, hD0⟩ := hv
  have hx := B.exec
  have hb := B.bytes
  have hr := B.returns
  have hts := atoms_spec (ws := wsX7_addCounts) B.pre
  have hown : s.vm.findClass RX7 = some m.cls := findClass_of_methodNamed B.named
  have hlocks := B.notSynchronized
  subst hsz
  have hD := hD0.self (sz := s.heap.size)
  generalize hAe : va_A [(sc, .inr (7, [.ref sw, .ref sh])), (sw, .inl (csw, 21, .inr (.inl fw))), (sh, .inl (csh, 21, .inl fh)), (q0, .inr (4, []))] s.heap.size = A at hD ⊢
  have hA : ∀ q : Nat, s.heap.size ≤ q → A q := fun q h => by rw [← hAe]; exact Or.inr h
  have hS : va_S A s.heap s.heap [] := va_S.rf
  have hP : va_P (dC, dI) vwCl [(sc, .inr (7, [.ref sw, .ref sh])), (sw, .inl (csw, 21, .inr (.inl fw))), (sh, .inl (csh, 21, .inl fh)), (q0, .inr (4, []))] s.heap := hP
  have hl := lv_entry ([.ref sc, .ref q0, .int na, .int nb]) (n := 6) (Nat.le_of_ble_eq_true rfl)
  rw [lg_entry_eq]
  generalize (lg_sl ([.ref sc, .ref q0, .int na, .int nb]) ++ List.replicate (6 - (lg_sl ([.ref sc, .ref q0, .int na, .int nb])).length) Slot.unset).toArray = ls at hl ⊢
  have hl : lv_has ls 6 [(0, .ref sc), (1, .ref q0), (2, .int na), (3, .int nb)] := hl
  refine lv_iconst (v := 0) hx hb dX7_addCounts_0 (by decide) ?_
  refine lv_istore (lv' := [(4, .int 0), (0, .ref sc), (1, .ref q0), (2, .int na), (3, .int nb)]) hx hb dX7_addCounts_1 hl (by decide) rfl (fun ls hl => ?_)
  refine tz_while (σ := Nat × (Nat → Int32) × Heap × List Loc × Array Slot) (fun x => W p l e _ s m _ below meth c x.2.2.1 x.2.2.2.1 _ _ _ (F0 m 3 x.2.2.2.2 [])) (fun x => x.1 ≤ 21 ∧ va_P (dC, dI) vwCl [(sc, .inr (7, [.ref sw, .ref sh])), (sw, .inl (csw, 21, .inr (.inl fw))), (sh, .inl (csh, 21, .inl x.2.1)), (q0, .inr (4, []))] x.2.2.1 ∧ va_D A [(sc, .inr (7, [.ref sw, .ref sh])), (sw, .inl (csw, 21, .inr (.inl fw))), (sh, .inl (csh, 21, .inl x.2.1)), (q0, .inr (4, []))] ∧ va_S A s.heap x.2.2.1 x.2.2.2.1 ∧ lv_has x.2.2.2.2 6 [(4, .int (nI x.1)), (0, .ref sc), (1, .ref q0), (2, .int na), (3, .int nb)]) (fun x => 21 - x.1) ?_ (0, fh, s.heap, [], ls) ⟨by omega, hP, hD, hS, hl⟩
  rintro ⟨k_1, f_6, H, locs, ls⟩ ⟨hi_11_0, hP, hD, hS, hl⟩ ih_12
  dsimp only at hi_11_0 hP hD hS hl ih_12 ⊢
  refine lv_iload hx hb dX7_addCounts_3 (lv_at hl 0 rfl) ?_
  refine lv_aload_n hx hb dX7_addCounts_5 rfl (lv_at hl 1 rfl) ?_
  refine va_get (D := (dC, dI)) (ci := 7) (v := .ref sh) (C := RX7) (T := TX7) (N := 2) hx hb hts iw_s_add_X4_X7 hown hK hP 0 rfl rfl 1 (by decide) (hts (.fieldLink RX7 15 "ThriceCounted$Scale" "chances" "[I") (by decide +kernel)) (fun _ h9 => h9) rfl dX7_addCounts_6 ?_
  refine va_alen (v := 21) hx hb hK hP 2 1 rfl rfl rfl dX7_addCounts_9 ?_
  refine lv_icmp_ge (tgt := 27) hx hb dX7_addCounts_10 (by decide) (fun c_13 => ?_) (fun c_13 => ?_)
  · have hn_14 : 21 ≤ k_1 := (nI_leI (a := 21) (b := k_1) (by omega) (by omega)).mp c_13
    refine lv_iconst (v := 0) hx hb dX7_addCounts_27 (by decide) ?_
    refine lv_istore (lv' := [(4, .int 0), (0, .ref sc), (1, .ref q0), (2, .int na), (3, .int nb)]) hx hb dX7_addCounts_28 hl (by decide) rfl (fun ls hl => ?_)
    refine tz_while (σ := Nat × (Nat → Int32) × Heap × List Loc × Array Slot) (fun x => W p l e _ s m _ below meth c x.2.2.1 x.2.2.2.1 _ _ _ (F0 m 30 x.2.2.2.2 [])) (fun x => x.1 ≤ 20 ∧ va_P (dC, dI) vwCl [(sc, .inr (7, [.ref sw, .ref sh])), (sw, .inl (csw, 21, .inr (.inl fw))), (sh, .inl (csh, 21, .inl x.2.1)), (q0, .inr (4, []))] x.2.2.1 ∧ va_D A [(sc, .inr (7, [.ref sw, .ref sh])), (sw, .inl (csw, 21, .inr (.inl fw))), (sh, .inl (csh, 21, .inl x.2.1)), (q0, .inr (4, []))] ∧ va_S A s.heap x.2.2.1 x.2.2.2.1 ∧ lv_has x.2.2.2.2 6 [(4, .int (nI x.1)), (0, .ref sc), (1, .ref q0), (2, .int na), (3, .int nb)]) (fun x => 20 - x.1) ?_ (0, f_6, H, locs, ls) ⟨by omega, hP, hD, hS, hl⟩
    rintro ⟨k_15, f_28, H, locs, ls⟩ ⟨hi_41_0, hP, hD, hS, hl⟩ ih_42
    dsimp only at hi_41_0 hP hD hS hl ih_42 ⊢
    refine lv_iload hx hb dX7_addCounts_30 (lv_at hl 0 rfl) ?_
    refine lv_bipush (v := 20) hx hb dX7_addCounts_32 (by decide) ?_
    refine lv_icmp_ge (tgt := 82) hx hb dX7_addCounts_34 (by decide) (fun c_43 => ?_) (fun c_43 => ?_)
    · have hn_44 : 20 ≤ k_15 := (nI_leI (a := 20) (b := k_15) (by omega) (by omega)).mp c_43
      refine lv_iconst (v := 0) hx hb dX7_addCounts_82 (by decide) ?_
      refine lv_istore (lv' := [(4, .int 0), (0, .ref sc), (1, .ref q0), (2, .int na), (3, .int nb)]) hx hb dX7_addCounts_83 hl (by decide) rfl (fun ls hl => ?_)
      refine tz_while (σ := Int32 × (Nat → Int64) × Heap × List Loc × Array Slot) (fun x => W p l e _ s m _ below meth c x.2.2.1 x.2.2.2.1 _ _ _ (F0 m 85 x.2.2.2.2 [])) (fun x => va_P (dC, dI) vwCl [(sc, .inr (7, [.ref sw, .ref sh])), (sw, .inl (csw, 21, .inr (.inl x.2.1))), (sh, .inl (csh, 21, .inl f_28)), (q0, .inr (4, []))] x.2.2.1 ∧ va_D A [(sc, .inr (7, [.ref sw, .ref sh])), (sw, .inl (csw, 21, .inr (.inl x.2.1))), (sh, .inl (csh, 21, .inl f_28)), (q0, .inr (4, []))] ∧ va_S A s.heap x.2.2.1 x.2.2.2.1 ∧ lv_has x.2.2.2.2 6 [(4, .int x.1), (0, .ref sc), (1, .ref q0), (2, .int na), (3, .int nb)]) (fun x => (nb.toInt - x.1.toInt).toNat) ?_ (0, fw, H, locs, ls) ⟨hP, hD, hS, hl⟩
      rintro ⟨v_80, f_81, H, locs, ls⟩ ⟨hP, hD, hS, hl⟩ ih_117
      dsimp only at hP hD hS hl ih_117 ⊢
      refine lv_iload hx hb dX7_addCounts_85 (lv_at hl 0 rfl) ?_
      refine lv_iload_n hx hb dX7_addCounts_87 rfl (lv_at hl 4 rfl) ?_
      refine lv_icmp_ge (tgt := 144) hx hb dX7_addCounts_88 (by decide) (fun c_118 => ?_) (fun c_118 => ?_)
      · have hP9 := hP.sub (ws' := [(sc, .inr (7, [.ref sw, .ref sh])), (sw, .inl (csw, 21, .inr (.inl f_81))), (sh, .inl (csh, 21, .inl f_28)), (q0, .inr (4, []))]) [0, 1, 2, 3] rfl
        have hD9 := hD.sub (ws' := [(sc, .inr (7, [.ref sw, .ref sh])), (sw, .inl (csw, 21, .inr (.inl f_81))), (sh, .inl (csh, 21, .inl f_28)), (q0, .inr (4, []))]) [0, 1, 2, 3] (by decide) rfl
        have hK9 := hK.sub (tys' := [(csw, .long), (csh, .int)]) [0, 1] rfl
        exact W.vret hx hb hr (fun t ht hW => ⟨⟨(), rfl, trivial, f_81, f_28, by rw [ht]; exact hP9, va_K.moved hW.alike hK9, hD9⟩, hS.F ht⟩) hS.2.2 dX7_addCounts_144
      · refine lv_iconst (v := 0) hx hb dX7_addCounts_91 (by decide) ?_
        refine lv_istore (lv' := [(5, .int 0), (4, .int v_80), (0, .ref sc), (1, .ref q0), (2, .int na), (3, .int nb)]) hx hb dX7_addCounts_92 hl (by decide) rfl (fun ls hl => ?_)
        refine tz_while (σ := Nat × (Nat → Int64) × Heap × List Loc × Array Slot) (fun x => W p l e _ s m _ below meth c x.2.2.1 x.2.2.2.1 _ _ _ (F0 m 94 x.2.2.2.2 [])) (fun x => x.1 ≤ 21 ∧ va_P (dC, dI) vwCl [(sc, .inr (7, [.ref sw, .ref sh])), (sw, .inl (csw, 21, .inr (.inl x.2.1))), (sh, .inl (csh, 21, .inl f_28)), (q0, .inr (4, []))] x.2.2.1 ∧ va_D A [(sc, .inr (7, [.ref sw, .ref sh])), (sw, .inl (csw, 21, .inr (.inl x.2.1))), (sh, .inl (csh, 21, .inl f_28)), (q0, .inr (4, []))] ∧ va_S A s.heap x.2.2.1 x.2.2.2.1 ∧ lv_has x.2.2.2.2 6 [(5, .int (nI x.1)), (4, .int v_80), (0, .ref sc), (1, .ref q0), (2, .int na), (3, .int nb)]) (fun x => 21 - x.1) ?_ (0, f_81, H, locs, ls) ⟨by omega, hP, hD, hS, hl⟩
        rintro ⟨k_119, f_130, H, locs, ls⟩ ⟨hi_141_0, hP, hD, hS, hl⟩ ih_142
        dsimp only at hi_141_0 hP hD hS hl ih_142 ⊢
        refine lv_iload hx hb dX7_addCounts_94 (lv_at hl 0 rfl) ?_
        refine lv_aload_n hx hb dX7_addCounts_96 rfl (lv_at hl 2 rfl) ?_
        refine va_get (D := (dC, dI)) (ci := 7) (v := .ref sw) (C := RX7) (T := TX7) (N := 2) hx hb hts iw_s_add_X4_X7 hown hK hP 0 rfl rfl 0 (by decide) (hts (.fieldLink RX7 9 "ThriceCounted$Scale" "weights" "[J") (by decide +kernel)) (fun _ h9 => h9) rfl dX7_addCounts_97 ?_
        refine va_alen (v := 21) hx hb hK hP 1 0 rfl rfl rfl dX7_addCounts_100 ?_
        refine lv_icmp_ge (tgt := 138) hx hb dX7_addCounts_101 (by decide) (fun c_143 => ?_) (fun c_143 => ?_)
        · have hn_144 : 21 ≤ k_119 := (nI_leI (a := 21) (b := k_119) (by omega) (by omega)).mp c_143
          refine lv_iinc (v := (v_80 + 1)) (lv' := [(4, .int (v_80 + 1)), (5, .int (nI k_119)), (0, .ref sc), (1, .ref q0), (2, .int na), (3, .int nb)]) hx hb dX7_addCounts_138 hl (k := 1) rfl rfl (by decide) rfl (fun ls hl => ?_)
          refine lv_goto (tgt := 85) hx hb dX7_addCounts_141 (by decide) ?_
          exact ih_117 ((v_80 + 1), f_130, H, locs, ls) ⟨hP, hD, hS, lv_sub hl [0, 2, 3, 4, 5] rfl⟩ (tz_mu c_118)
        · have hn_145 : ¬ 21 ≤ k_119 := fun q => c_143 ((nI_leI (a := 21) (b := k_119) (by omega) (by omega)).mpr q)
          refine lv_iload hx hb dX7_addCounts_104 (lv_at hl 0 rfl) ?_
          refine lv_aload_n hx hb dX7_addCounts_106 rfl (lv_at hl 2 rfl) ?_
          refine va_get (D := (dC, dI)) (ci := 7) (v := .ref sh) (C := RX7) (T := TX7) (N := 2) hx hb hts iw_s_add_X4_X7 hown hK hP 0 rfl rfl 1 (by decide) (hts (.fieldLink RX7 15 "ThriceCounted$Scale" "chances" "[I") (by decide +kernel)) (fun _ h9 => h9) rfl dX7_addCounts_107 ?_
          refine va_alen (v := 21) hx hb hK hP 2 1 rfl rfl rfl dX7_addCounts_110 ?_
          refine lv_icmp_ge (tgt := 138) hx hb dX7_addCounts_111 (by decide) (fun c_146 => ?_) (fun c_146 => ?_)
          · have hn_147 : 21 ≤ k_119 := (nI_leI (a := 21) (b := k_119) (by omega) (by omega)).mp c_146
            refine lv_iinc (v := (v_80 + 1)) (lv' := [(4, .int (v_80 + 1)), (5, .int (nI k_119)), (0, .ref sc), (1, .ref q0), (2, .int na), (3, .int nb)]) hx hb dX7_addCounts_138 hl (k := 1) rfl rfl (by decide) rfl (fun ls hl => ?_)
            refine lv_goto (tgt := 85) hx hb dX7_addCounts_141 (by decide) ?_
            exact ih_117 ((v_80 + 1), f_130, H, locs, ls) ⟨hP, hD, hS, lv_sub hl [0, 2, 3, 4, 5] rfl⟩ (tz_mu c_118)
          · have hn_148 : ¬ 21 ≤ k_119 := fun q => c_146 ((nI_leI (a := 21) (b := k_119) (by omega) (by omega)).mpr q)
            refine lv_aload_n hx hb dX7_addCounts_114 rfl (lv_at hl 2 rfl) ?_
            refine va_get (D := (dC, dI)) (ci := 7) (v := .ref sw) (C := RX7) (T := TX7) (N := 2) hx hb hts iw_s_add_X4_X7 hown hK hP 0 rfl rfl 0 (by decide) (hts (.fieldLink RX7 9 "ThriceCounted$Scale" "weights" "[J") (by decide +kernel)) (fun _ h9 => h9) rfl dX7_addCounts_115 ?_
            refine lv_iload hx hb dX7_addCounts_118 (lv_at hl 0 rfl) ?_
            refine lv_dup2_11 hx hb dX7_addCounts_120 rfl rfl ?_
            refine va_lald hx hb hK hP 1 0 rfl rfl (vp_in_nI (n := k_119) (N := 21) (by omega) (by decide)) dX7_addCounts_121 ?_
            refine lv_topl (fun x_149 _ => ?_)
            refine lv_aload_n hx hb dX7_addCounts_122 rfl (lv_at hl 2 rfl) ?_
            refine va_get (D := (dC, dI)) (ci := 7) (v := .ref sh) (C := RX7) (T := TX7) (N := 2) hx hb hts iw_s_add_X4_X7 hown hK hP 0 rfl rfl 1 (by decide) (hts (.fieldLink RX7 15 "ThriceCounted$Scale" "chances" "[I") (by decide +kernel)) (fun _ h9 => h9) rfl dX7_addCounts_123 ?_
            refine lv_iload hx hb dX7_addCounts_126 (lv_at hl 0 rfl) ?_
            refine va_iald hx hb hK hP 2 1 rfl rfl (vp_in_nI (n := k_119) (N := 21) (by omega) (by decide)) dX7_addCounts_128 ?_
            refine lv_topi (fun x_150 _ => ?_)
            refine lv_i2l (v := x_150.toInt64) hx hb dX7_addCounts_129 rfl ?_
            refine lv_lmul hx hb dX7_addCounts_130 ?_
            refine lv_topl (fun x_151 _ => ?_)
            refine va_last hx hb hK hP hD hS 1 0 rfl rfl (vp_in_nI (n := k_119) (N := 21) (by omega) (by decide)) dX7_addCounts_131 (fun H locs hP hD hS => ?_)
            generalize (vp_updL f_130 (Int32.toNatClampNeg (nI k_119)) x_151) = f_152 at hP hD
            have hP : va_P (dC, dI) vwCl [(sc, .inr (7, [.ref sw, .ref sh])), (sw, .inl (csw, 21, .inr (.inl f_152))), (sh, .inl (csh, 21, .inl f_28)), (q0, .inr (4, []))] H := hP
            have hD : va_D A [(sc, .inr (7, [.ref sw, .ref sh])), (sw, .inl (csw, 21, .inr (.inl f_152))), (sh, .inl (csh, 21, .inl f_28)), (q0, .inr (4, []))] := hD
            refine lv_iinc (v := (nI (k_119 + 1))) (lv' := [(5, .int (nI (k_119 + 1))), (4, .int v_80), (0, .ref sc), (1, .ref q0), (2, .int na), (3, .int nb)]) hx hb dX7_addCounts_132 hl (k := 0) rfl (nI_add k_119 1) (by decide) rfl (fun ls hl => ?_)
            refine lv_goto (tgt := 94) hx hb dX7_addCounts_135 (by decide) ?_
            exact ih_142 ((k_119 + 1), f_152, H, locs, ls) ⟨by dsimp only; omega, hP, hD, hS, lv_sub hl [0, 1, 2, 3, 4, 5] rfl⟩ (by dsimp only; omega)
    · have hn_153 : ¬ 20 ≤ k_15 := fun q => c_43 ((nI_leI (a := 20) (b := k_15) (by omega) (by omega)).mpr q)
      refine lv_iload_n hx hb dX7_addCounts_37 rfl (lv_at hl 3 rfl) ?_
      refine lv_aload_n hx hb dX7_addCounts_38 rfl (lv_at hl 2 rfl) ?_
      refine lv_iload hx hb dX7_addCounts_39 (lv_at hl 0 rfl) ?_
      refine vp_callSi (va_Run.run (va_runV (As := [.int (nI k_15)]) (rest := [.int na]) ⟨hx, hb, hml, hown, hts⟩ (k_slip_X4 l dC dI q0 (nI k_15)) (cwV 1 hts gX7_addCounts_X4_slip rfl rfl rfl (by decide +kernel) ⟨Nat.le_of_ble_eq_true rfl, Nat.le_of_ble_eq_true rfl⟩) ⟨fun a U g mk q => ⟨q.1, trivial⟩, va_recv hK hP (ci := 4) (q0 := 3) rfl rfl, fun U hU hW => ⟨rfl, trivial⟩⟩ rfl rfl hl.1 rfl (lv_room (Nat.le_of_ble_eq_true rfl)) dX7_addCounts_41 ⟨Nat.le_of_ble_eq_true rfl, Nat.le_of_ble_eq_true rfl⟩)) (fun r_154 hw_155 => ?_)
      obtain rfl : (zO (nI k_15)) = r_154 := hw_155.symm
      refine lv_isub hx hb dX7_addCounts_44 ?_
      refine lv_topi (fun x_156 _ => ?_)
      refine lv_bipush (v := 90) hx hb dX7_addCounts_45 (by decide) ?_
      refine lv_isub hx hb dX7_addCounts_47 ?_
      refine lv_topi (fun x_157 _ => ?_)
      refine lv_istore (lv' := [(5, .int x_157), (4, .int (nI k_15)), (0, .ref sc), (1, .ref q0), (2, .int na), (3, .int nb)]) hx hb dX7_addCounts_48 hl (by decide) rfl (fun ls hl => ?_)
      refine lv_iload hx hb dX7_addCounts_50 (lv_at hl 0 rfl) ?_
      refine lv_if_lt (tgt := 76) hx hb dX7_addCounts_52 (by decide) (fun c_158 => ?_) (fun c_158 => ?_)
      · refine lv_iinc (v := (nI (k_15 + 1))) (lv' := [(4, .int (nI (k_15 + 1))), (5, .int x_157), (0, .ref sc), (1, .ref q0), (2, .int na), (3, .int nb)]) hx hb dX7_addCounts_76 hl (k := 1) rfl (nI_add k_15 1) (by decide) rfl (fun ls hl => ?_)
        refine lv_goto (tgt := 30) hx hb dX7_addCounts_79 (by decide) ?_
        exact ih_42 ((k_15 + 1), f_28, H, locs, ls) ⟨by dsimp only; omega, hP, hD, hS, lv_sub hl [0, 2, 3, 4, 5] rfl⟩ (by dsimp only; omega)
      · refine lv_iload hx hb dX7_addCounts_55 (lv_at hl 0 rfl) ?_
        refine lv_aload_n hx hb dX7_addCounts_57 rfl (lv_at hl 2 rfl) ?_
        refine va_get (D := (dC, dI)) (ci := 7) (v := .ref sh) (C := RX7) (T := TX7) (N := 2) hx hb hts iw_s_add_X4_X7 hown hK hP 0 rfl rfl 1 (by decide) (hts (.fieldLink RX7 15 "ThriceCounted$Scale" "chances" "[I") (by decide +kernel)) (fun _ h9 => h9) rfl dX7_addCounts_58 ?_
        refine va_alen (v := 21) hx hb hK hP 2 1 rfl rfl rfl dX7_addCounts_61 ?_
        refine lv_icmp_ge (tgt := 76) hx hb dX7_addCounts_62 (by decide) (fun c_159 => ?_) (fun c_159 => ?_)
        · refine lv_iinc (v := (nI (k_15 + 1))) (lv' := [(4, .int (nI (k_15 + 1))), (5, .int x_157), (0, .ref sc), (1, .ref q0), (2, .int na), (3, .int nb)]) hx hb dX7_addCounts_76 hl (k := 1) rfl (nI_add k_15 1) (by decide) rfl (fun ls hl => ?_)
          refine lv_goto (tgt := 30) hx hb dX7_addCounts_79 (by decide) ?_
          exact ih_42 ((k_15 + 1), f_28, H, locs, ls) ⟨by dsimp only; omega, hP, hD, hS, lv_sub hl [0, 2, 3, 4, 5] rfl⟩ (by dsimp only; omega)
        · refine lv_aload_n hx hb dX7_addCounts_65 rfl (lv_at hl 2 rfl) ?_
          refine va_get (D := (dC, dI)) (ci := 7) (v := .ref sh) (C := RX7) (T := TX7) (N := 2) hx hb hts iw_s_add_X4_X7 hown hK hP 0 rfl rfl 1 (by decide) (hts (.fieldLink RX7 15 "ThriceCounted$Scale" "chances" "[I") (by decide +kernel)) (fun _ h9 => h9) rfl dX7_addCounts_66 ?_
          refine lv_iload hx hb dX7_addCounts_69 (lv_at hl 0 rfl) ?_
          refine lv_dup2_11 hx hb dX7_addCounts_71 rfl rfl ?_
          refine va_iald hx hb hK hP 2 1 rfl rfl (tz_in_le c_158 c_159 (M := 21) (by decide)) dX7_addCounts_72 ?_
          refine lv_topi (fun x_160 _ => ?_)
          refine lv_iconst (v := 1) hx hb dX7_addCounts_73 (by decide) ?_
          refine lv_iadd hx hb dX7_addCounts_74 ?_
          refine lv_topi (fun x_161 _ => ?_)
          refine va_iast hx hb hK hP hD hS 2 1 rfl rfl (tz_in_le c_158 c_159 (M := 21) (by decide)) dX7_addCounts_75 (fun H locs hP hD hS => ?_)
          generalize (upd f_28 (Int32.toNatClampNeg x_157) x_161) = f_162 at hP hD
          have hP : va_P (dC, dI) vwCl [(sc, .inr (7, [.ref sw, .ref sh])), (sw, .inl (csw, 21, .inr (.inl fw))), (sh, .inl (csh, 21, .inl f_162)), (q0, .inr (4, []))] H := hP
          have hD : va_D A [(sc, .inr (7, [.ref sw, .ref sh])), (sw, .inl (csw, 21, .inr (.inl fw))), (sh, .inl (csh, 21, .inl f_162)), (q0, .inr (4, []))] := hD
          refine lv_iinc (v := (nI (k_15 + 1))) (lv' := [(4, .int (nI (k_15 + 1))), (5, .int x_157), (0, .ref sc), (1, .ref q0), (2, .int na), (3, .int nb)]) hx hb dX7_addCounts_76 hl (k := 1) rfl (nI_add k_15 1) (by decide) rfl (fun ls hl => ?_)
          refine lv_goto (tgt := 30) hx hb dX7_addCounts_79 (by decide) ?_
          exact ih_42 ((k_15 + 1), f_162, H, locs, ls) ⟨by dsimp only; omega, hP, hD, hS, lv_sub hl [0, 2, 3, 4, 5] rfl⟩ (by dsimp only; omega)
  · have hn_163 : ¬ 21 ≤ k_1 := fun q => c_13 ((nI_leI (a := 21) (b := k_1) (by omega) (by omega)).mpr q)
    refine lv_aload_n hx hb dX7_addCounts_13 rfl (lv_at hl 1 rfl) ?_
    refine va_get (D := (dC, dI)) (ci := 7) (v := .ref sh) (C := RX7) (T := TX7) (N := 2) hx hb hts iw_s_add_X4_X7 hown hK hP 0 rfl rfl 1 (by decide) (hts (.fieldLink RX7 15 "ThriceCounted$Scale" "chances" "[I") (by decide +kernel)) (fun _ h9 => h9) rfl dX7_addCounts_14 ?_
    refine lv_iload hx hb dX7_addCounts_17 (lv_at hl 0 rfl) ?_
    refine lv_iconst (v := 0) hx hb dX7_addCounts_19 (by decide) ?_
    refine va_iast hx hb hK hP hD hS 2 1 rfl rfl (vp_in_nI (n := k_1) (N := 21) (by omega) (by decide)) dX7_addCounts_20 (fun H locs hP hD hS => ?_)
    generalize (upd f_6 (Int32.toNatClampNeg (nI k_1)) 0) = f_164 at hP hD
    have hP : va_P (dC, dI) vwCl [(sc, .inr (7, [.ref sw, .ref sh])), (sw, .inl (csw, 21, .inr (.inl fw))), (sh, .inl (csh, 21, .inl f_164)), (q0, .inr (4, []))] H := hP
    have hD : va_D A [(sc, .inr (7, [.ref sw, .ref sh])), (sw, .inl (csw, 21, .inr (.inl fw))), (sh, .inl (csh, 21, .inl f_164)), (q0, .inr (4, []))] := hD
    refine lv_iinc (v := (nI (k_1 + 1))) (lv' := [(4, .int (nI (k_1 + 1))), (0, .ref sc), (1, .ref q0), (2, .int na), (3, .int nb)]) hx hb dX7_addCounts_21 hl (k := 0) rfl (nI_add k_1 1) (by decide) rfl (fun ls hl => ?_)
    refine lv_goto (tgt := 3) hx hb dX7_addCounts_24 (by decide) ?_
    exact ih_12 ((k_1 + 1), f_164, H, locs, ls) ⟨by dsimp only; omega, hP, hD, hS, lv_sub hl [0, 1, 2, 3, 4] rfl⟩ (by dsimp only; omega)
set_option maxRecDepth 20000 in
theorem ggX7_addCounts_X1_slip : GoodIn wsX7_addCounts wsX1_slip := goodIn_r _ [9, 10, 4, 11, 12, 13, 14] (by decide +kernel) (by decide +kernel)
set_option maxRecDepth 20000 in
theorem gX7_addCounts_X1_slip_u49X1 : GoodIn wsX7_addCounts (va_wsO RX7 49 RX1 "ThriceCounted$Ones" ⟨"ThriceCounted$Ones", "slip", "(I)I"⟩ yX1_slip wsX1_slip) := goodIn_app (goodIn_of _ (by decide +kernel)) ggX7_addCounts_X1_slip
set_option maxRecDepth 20000 in
theorem iw_s_add_X1_X7 : ∀ w ∈ wsX70, w ∈ wsX7_addCounts := by decide +kernel
set_option maxHeartbeats 4000000 in
set_option maxRecDepth 100000 in
theorem s_add_X1 (l : Launch) (dC : Nat → ClassId) (dI : Nat → Nat → Nat) (sc : Nat) (sw : Nat) (sh : Nat) (csw : ClassId) (fw : Nat → Int64) (csh : ClassId) (fh : Nat → Int32) (q0 : Nat) (na : Int32) (nb : Int32) (sz : Nat) : Met l yX7_addCounts wsX7_addCounts ({ frames := 2, cells := 0, slots := 0, locals := 42 }) (va_Pc [.ref sc, .ref q0, .int na, .int nb] (fun U => U.heap.size = sz ∧ va_P (dC, dI) vwCl [(sc, .inr (7, [.ref sw, .ref sh])), (sw, .inl (csw, 21, .inr (.inl fw))), (sh, .inl (csh, 21, .inl fh)), (q0, .inr (1, []))] U.heap ∧ va_K (dC, dI) vwCl [(csw, .long), (csh, .int)] U ∧ va_D (fun _ => True) [(sc, .inr (7, [.ref sw, .ref sh])), (sw, .inl (csw, 21, .inr (.inl fw))), (sh, .inl (csh, 21, .inl fh)), (q0, .inr (1, []))])) (va_Qv (fun (_ : Unit) => True) (fun _ t => ∃ (gw : Nat → Int64) (gh : Nat → Int32), va_P (dC, dI) vwCl [(sc, .inr (7, [.ref sw, .ref sh])), (sw, .inl (csw, 21, .inr (.inl gw))), (sh, .inl (csh, 21, .inl gh)), (q0, .inr (1, []))] t.heap ∧ va_K (dC, dI) vwCl [(csw, .long), (csh, .int)] t ∧ va_D (va_A [(sc, .inr (7, [.ref sw, .ref sh])), (sw, .inl (csw, 21, .inr (.inl fw))), (sh, .inl (csh, 21, .inl fh)), (q0, .inr (1, []))] sz) [(sc, .inr (7, [.ref sw, .ref sh])), (sw, .inl (csw, 21, .inr (.inl gw))), (sh, .inl (csh, 21, .inl gh)), (q0, .inr (1, []))]) (va_A [(sc, .inr (7, [.ref sw, .ref sh])), (sw, .inl (csw, 21, .inr (.inl fw))), (sh, .inl (csh, 21, .inl fh)), (q0, .inr (1, []))] sz)) 0 0 (va_A [(sc, .inr (7, [.ref sw, .ref sh])), (sw, .inl (csw, 21, .inr (.inl fw))), (sh, .inl (csh, 21, .inl fh)), (q0, .inr (1, []))] sz) := by
  refine Met.ofW (cc := cX7_addCounts) (maxL := 6) (ret := none) (by decide) rfl ?_
  intro p e s m args below meth c s₁ B hml hv
  obtain ⟨rfl, hsz, hP, hK, hD0⟩ := hv
  have hx := B.exec
  have hb := B.bytes
  have hr := B.returns
  have hts := atoms_spec (ws := wsX7_addCounts) B.pre
  have hown : s.vm.findClass RX7 = some m.cls := findClass_of_methodNamed B.named
  have hlocks := B.notSynchronized
  subst hsz
  have hD := hD0.self (sz := s.heap.size)
  generalize hAe : va_A [(sc, .inr (7, [.ref sw, .ref sh])), (sw, .inl (csw, 21, .inr (.inl fw))), (sh, .inl (csh, 21, .inl fh)), (q0, .inr (1, []))] s.heap.size = A at hD ⊢
  have hA : ∀ q : Nat, s.heap.size ≤ q → A q := fun q h => by rw [← hAe]; exact Or.inr h
  have hS : va_S A s.heap s.heap [] := va_S.rf
  have hP : va_P (dC, dI) vwCl [(sc, .inr (7, [.ref sw, .ref sh])), (sw, .inl (csw, 21, .inr (.inl fw))), (sh, .inl (csh, 21, .inl fh)), (q0, .inr (1, []))] s.heap := hP
  have hl := lv_entry ([.ref sc, .ref q0, .int na, .int nb]) (n := 6) (Nat.le_of_ble_eq_true rfl)
  rw [lg_entry_eq]
  generalize (lg_sl ([.ref sc, .ref q0, .int na, .int nb]) ++ List.replicate (6 - (lg_sl ([.ref sc, .ref q0, .int na, .int nb])).length) Slot.unset).toArray = ls at hl ⊢
  have hl : lv_has ls 6 [(0, .ref sc), (1, .ref q0), (2, .int na), (3, .int nb)] := hl
  refine lv_iconst (v := 0) hx hb dX7_addCounts_0 (by decide) ?_
  refine lv_istore (lv' := [(4, .int 0), (0, .ref sc), (1, .ref q0), (2, .int na), (3, .int nb)]) hx hb dX7_addCounts_1 hl (by decide) rfl (fun ls hl => ?_)
  refine tz_while (σ := Nat × (Nat → Int32) × Heap × List Loc × Array Slot) (fun x => W p l e _ s m _ below meth c x.2.2.1 x.2.2.2.1 _ _ _ (F0 m 3 x.2.2.2.2 [])) (fun x => x.1 ≤ 21 ∧ va_P (dC, dI) vwCl [(sc, .inr (7, [.ref sw, .ref sh])), (sw, .inl (csw, 21, .inr (.inl fw))), (sh, .inl (csh, 21, .inl x.2.1)), (q0, .inr (1, []))] x.2.2.1 ∧ va_D A [(sc, .inr (7, [.ref sw, .ref sh])), (sw, .inl (csw, 21, .inr (.inl fw))), (sh, .inl (csh, 21, .inl x.2.1)), (q0, .inr (1, []))] ∧ va_S A s.heap x.2.2.1 x.2.2.2.1 ∧ lv_has x.2.2.2.2 6 [(4, .int (nI x.1)), (0, .ref sc), (1, .ref q0), (2, .int na), (3, .int nb)]) (fun x => 21 - x.1) ?_ (0, fh, s.heap, [], ls) ⟨by omega, hP, hD, hS, hl⟩
  rintro ⟨k_1, f_6, H, locs, ls⟩ ⟨hi_11_0, hP, hD, hS, hl⟩ ih_12
  dsimp only at hi_11_0 hP hD hS hl ih_12 ⊢
  refine lv_iload hx hb dX7_addCounts_3 (lv_at hl 0 rfl) ?_
  refine lv_aload_n hx hb dX7_addCounts_5 rfl (lv_at hl 1 rfl) ?_
  refine va_get (D := (dC, dI)) (ci := 7) (v := .ref sh) (C := RX7) (T := TX7) (N := 2) hx hb hts iw_s_add_X1_X7 hown hK hP 0 rfl rfl 1 (by decide) (hts (.fieldLink RX7 15 "ThriceCounted$Scale" "chances" "[I") (by decide +kernel)) (fun _ h9 => h9) rfl dX7_addCounts_6 ?_
  refine va_alen (v := 21) hx hb hK hP 2 1 rfl rfl rfl dX7_addCounts_9 ?_
  refine lv_icmp_ge (tgt := 27) hx hb dX7_addCounts_10 (by decide) (fun c_13 => ?_) (fun c_13 => ?_)
  · have hn_14 : 21 ≤ k_1 := (nI_leI (a := 21) (b := k_1) (by omega) (by omega)).mp c_13
    refine lv_iconst (v := 0) hx hb dX7_addCounts_27 (by decide) ?_
    refine lv_istore (lv' := [(4, .int 0), (0, .ref sc), (1, .ref q0), (2, .int na), (3, .int nb)]) hx hb dX7_addCounts_28 hl (by decide) rfl (fun ls hl => ?_)
    refine tz_while (σ := Nat × (Nat → Int32) × Heap × List Loc × Array Slot) (fun x => W p l e _ s m _ below meth c x.2.2.1 x.2.2.2.1 _ _ _ (F0 m 30 x.2.2.2.2 [])) (fun x => x.1 ≤ 20 ∧ va_P (dC, dI) vwCl [(sc, .inr (7, [.ref sw, .ref sh])), (sw, .inl (csw, 21, .inr (.inl fw))), (sh, .inl (csh, 21, .inl x.2.1)), (q0, .inr (1, []))] x.2.2.1 ∧ va_D A [(sc, .inr (7, [.ref sw, .ref sh])), (sw, .inl (csw, 21, .inr (.inl fw))), (sh, .inl (csh, 21, .inl x.2.1)), (q0, .inr (1, []))] ∧ va_S A s.heap x.2.2.1 x.2.2.2.1 ∧ lv_has x.2.2.2.2 6 [(4, .int (nI x.1)), (0, .ref sc), (1, .ref q0), (2, .int na), (3, .int nb)]) (fun x => 20 - x.1) ?_ (0, f_6, H, locs, ls) ⟨by omega, hP, hD, hS, hl⟩
    rintro ⟨k_15, f_30, H, locs, ls⟩ ⟨hi_45_0, hP, hD, hS, hl⟩ ih_46
    dsimp only at hi_45_0 hP hD hS hl ih_46 ⊢
    refine lv_iload hx hb dX7_addCounts_30 (lv_at hl 0 rfl) ?_
    refine lv_bipush (v := 20) hx hb dX7_addCounts_32 (by decide) ?_
    refine lv_icmp_ge (tgt := 82) hx hb dX7_addCounts_34 (by decide) (fun c_47 => ?_) (fun c_47 => ?_)
    · have hn_48 : 20 ≤ k_15 := (nI_leI (a := 20) (b := k_15) (by omega) (by omega)).mp c_47
      refine lv_iconst (v := 0) hx hb dX7_addCounts_82 (by decide) ?_
      refine lv_istore (lv' := [(4, .int 0), (0, .ref sc), (1, .ref q0), (2, .int na), (3, .int nb)]) hx hb dX7_addCounts_83 hl (by decide) rfl (fun ls hl => ?_)
      refine tz_while (σ := Int32 × (Nat → Int64) × Heap × List Loc × Array Slot) (fun x => W p l e _ s m _ below meth c x.2.2.1 x.2.2.2.1 _ _ _ (F0 m 85 x.2.2.2.2 [])) (fun x => va_P (dC, dI) vwCl [(sc, .inr (7, [.ref sw, .ref sh])), (sw, .inl (csw, 21, .inr (.inl x.2.1))), (sh, .inl (csh, 21, .inl f_30)), (q0, .inr (1, []))] x.2.2.1 ∧ va_D A [(sc, .inr (7, [.ref sw, .ref sh])), (sw, .inl (csw, 21, .inr (.inl x.2.1))), (sh, .inl (csh, 21, .inl f_30)), (q0, .inr (1, []))] ∧ va_S A s.heap x.2.2.1 x.2.2.2.1 ∧ lv_has x.2.2.2.2 6 [(4, .int x.1), (0, .ref sc), (1, .ref q0), (2, .int na), (3, .int nb)]) (fun x => (nb.toInt - x.1.toInt).toNat) ?_ (0, fw, H, locs, ls) ⟨hP, hD, hS, hl⟩
      rintro ⟨v_84, f_85, H, locs, ls⟩ ⟨hP, hD, hS, hl⟩ ih_121
      dsimp only at hP hD hS hl ih_121 ⊢
      refine lv_iload hx hb dX7_addCounts_85 (lv_at hl 0 rfl) ?_
      refine lv_iload_n hx hb dX7_addCounts_87 rfl (lv_at hl 4 rfl) ?_
      refine lv_icmp_ge (tgt := 144) hx hb dX7_addCounts_88 (by decide) (fun c_122 => ?_) (fun c_122 => ?_)
      · have hP9 := hP.sub (ws' := [(sc, .inr (7, [.ref sw, .ref sh])), (sw, .inl (csw, 21, .inr (.inl f_85))), (sh, .inl (csh, 21, .inl f_30)), (q0, .inr (1, []))]) [0, 1, 2, 3] rfl
        have hD9 := hD.sub (ws' := [(sc, .inr (7, [.ref sw, .ref sh])), (sw, .inl (csw, 21, .inr (.inl f_85))), (sh, .inl (csh, 21, .inl f_30)), (q0, .inr (1, []))]) [0, 1, 2, 3] (by decide) rfl
        have hK9 := hK.sub (tys' := [(csw, .long), (csh, .int)]) [0, 1] rfl
        exact W.vret hx hb hr (fun t ht hW => ⟨⟨(), rfl, trivial, f_85, f_30, by rw [ht]; exact hP9, va_K.moved hW.alike hK9, hD9⟩, hS.F ht⟩) hS.2.2 dX7_addCounts_144
      · refine lv_iconst (v := 0) hx hb dX7_addCounts_91 (by decide) ?_
        refine lv_istore (lv' := [(5, .int 0), (4, .int v_84), (0, .ref sc), (1, .ref q0), (2, .int na), (3, .int nb)]) hx hb dX7_addCounts_92 hl (by decide) rfl (fun ls hl => ?_)
        refine tz_while (σ := Nat × (Nat → Int64) × Heap × List Loc × Array Slot) (fun x => W p l e _ s m _ below meth c x.2.2.1 x.2.2.2.1 _ _ _ (F0 m 94 x.2.2.2.2 [])) (fun x => x.1 ≤ 21 ∧ va_P (dC, dI) vwCl [(sc, .inr (7, [.ref sw, .ref sh])), (sw, .inl (csw, 21, .inr (.inl x.2.1))), (sh, .inl (csh, 21, .inl f_30)), (q0, .inr (1, []))] x.2.2.1 ∧ va_D A [(sc, .inr (7, [.ref sw, .ref sh])), (sw, .inl (csw, 21, .inr (.inl x.2.1))), (sh, .inl (csh, 21, .inl f_30)), (q0, .inr (1, []))] ∧ va_S A s.heap x.2.2.1 x.2.2.2.1 ∧ lv_has x.2.2.2.2 6 [(5, .int (nI x.1)), (4, .int v_84), (0, .ref sc), (1, .ref q0), (2, .int na), (3, .int nb)]) (fun x => 21 - x.1) ?_ (0, f_85, H, locs, ls) ⟨by omega, hP, hD, hS, hl⟩
        rintro ⟨k_123, f_134, H, locs, ls⟩ ⟨hi_145_0, hP, hD, hS, hl⟩ ih_146
        dsimp only at hi_145_0 hP hD hS hl ih_146 ⊢
        refine lv_iload hx hb dX7_addCounts_94 (lv_at hl 0 rfl) ?_
        refine lv_aload_n hx hb dX7_addCounts_96 rfl (lv_at hl 2 rfl) ?_
        refine va_get (D := (dC, dI)) (ci := 7) (v := .ref sw) (C := RX7) (T := TX7) (N := 2) hx hb hts iw_s_add_X1_X7 hown hK hP 0 rfl rfl 0 (by decide) (hts (.fieldLink RX7 9 "ThriceCounted$Scale" "weights" "[J") (by decide +kernel)) (fun _ h9 => h9) rfl dX7_addCounts_97 ?_
        refine va_alen (v := 21) hx hb hK hP 1 0 rfl rfl rfl dX7_addCounts_100 ?_
        refine lv_icmp_ge (tgt := 138) hx hb dX7_addCounts_101 (by decide) (fun c_147 => ?_) (fun c_147 => ?_)
        · have hn_148 : 21 ≤ k_123 := (nI_leI (a := 21) (b := k_123) (by omega) (by omega)).mp c_147
          refine lv_iinc (v := (v_84 + 1)) (lv' := [(4, .int (v_84 + 1)), (5, .int (nI k_123)), (0, .ref sc), (1, .ref q0), (2, .int na), (3, .int nb)]) hx hb dX7_addCounts_138 hl (k := 1) rfl rfl (by decide) rfl (fun ls hl => ?_)
          refine lv_goto (tgt := 85) hx hb dX7_addCounts_141 (by decide) ?_
          exact ih_121 ((v_84 + 1), f_134, H, locs, ls) ⟨hP, hD, hS, lv_sub hl [0, 2, 3, 4, 5] rfl⟩ (tz_mu c_122)
        · have hn_149 : ¬ 21 ≤ k_123 := fun q => c_147 ((nI_leI (a := 21) (b := k_123) (by omega) (by omega)).mpr q)
          refine lv_iload hx hb dX7_addCounts_104 (lv_at hl 0 rfl) ?_
          refine lv_aload_n hx hb dX7_addCounts_106 rfl (lv_at hl 2 rfl) ?_
          refine va_get (D := (dC, dI)) (ci := 7) (v := .ref sh) (C := RX7) (T := TX7) (N := 2) hx hb hts iw_s_add_X1_X7 hown hK hP 0 rfl rfl 1 (by decide) (hts (.fieldLink RX7 15 "ThriceCounted$Scale" "chances" "[I") (by decide +kernel)) (fun _ h9 => h9) rfl dX7_addCounts_107 ?_
          refine va_alen (v := 21) hx hb hK hP 2 1 rfl rfl rfl dX7_addCounts_110 ?_
          refine lv_icmp_ge (tgt := 138) hx hb dX7_addCounts_111 (by decide) (fun c_150 => ?_) (fun c_150 => ?_)
          · have hn_151 : 21 ≤ k_123 := (nI_leI (a := 21) (b := k_123) (by omega) (by omega)).mp c_150
            refine lv_iinc (v := (v_84 + 1)) (lv' := [(4, .int (v_84 + 1)), (5, .int (nI k_123)), (0, .ref sc), (1, .ref q0), (2, .int na), (3, .int nb)]) hx hb dX7_addCounts_138 hl (k := 1) rfl rfl (by decide) rfl (fun ls hl => ?_)
            refine lv_goto (tgt := 85) hx hb dX7_addCounts_141 (by decide) ?_
            exact ih_121 ((v_84 + 1), f_134, H, locs, ls) ⟨hP, hD, hS, lv_sub hl [0, 2, 3, 4, 5] rfl⟩ (tz_mu c_122)
          · have hn_152 : ¬ 21 ≤ k_123 := fun q => c_150 ((nI_leI (a := 21) (b := k_123) (by omega) (by omega)).mpr q)
            refine lv_aload_n hx hb dX7_addCounts_114 rfl (lv_at hl 2 rfl) ?_
            refine va_get (D := (dC, dI)) (ci := 7) (v := .ref sw) (C := RX7) (T := TX7) (N := 2) hx hb hts iw_s_add_X1_X7 hown hK hP 0 rfl rfl 0 (by decide) (hts (.fieldLink RX7 9 "ThriceCounted$Scale" "weights" "[J") (by decide +kernel)) (fun _ h9 => h9) rfl dX7_addCounts_115 ?_
            refine lv_iload hx hb dX7_addCounts_118 (lv_at hl 0 rfl) ?_
            refine lv_dup2_11 hx hb dX7_addCounts_120 rfl rfl ?_
            refine va_lald hx hb hK hP 1 0 rfl rfl (vp_in_nI (n := k_123) (N := 21) (by omega) (by decide)) dX7_addCounts_121 ?_
            refine lv_topl (fun x_153 _ => ?_)
            refine lv_aload_n hx hb dX7_addCounts_122 rfl (lv_at hl 2 rfl) ?_
            refine va_get (D := (dC, dI)) (ci := 7) (v := .ref sh) (C := RX7) (T := TX7) (N := 2) hx hb hts iw_s_add_X1_X7 hown hK hP 0 rfl rfl 1 (by decide) (hts (.fieldLink RX7 15 "ThriceCounted$Scale" "chances" "[I") (by decide +kernel)) (fun _ h9 => h9) rfl dX7_addCounts_123 ?_
            refine lv_iload hx hb dX7_addCounts_126 (lv_at hl 0 rfl) ?_
            refine va_iald hx hb hK hP 2 1 rfl rfl (vp_in_nI (n := k_123) (N := 21) (by omega) (by decide)) dX7_addCounts_128 ?_
            refine lv_topi (fun x_154 _ => ?_)
            refine lv_i2l (v := x_154.toInt64) hx hb dX7_addCounts_129 rfl ?_
            refine lv_lmul hx hb dX7_addCounts_130 ?_
            refine lv_topl (fun x_155 _ => ?_)
            refine va_last hx hb hK hP hD hS 1 0 rfl rfl (vp_in_nI (n := k_123) (N := 21) (by omega) (by decide)) dX7_addCounts_131 (fun H locs hP hD hS => ?_)
            generalize (vp_updL f_134 (Int32.toNatClampNeg (nI k_123)) x_155) = f_156 at hP hD
            have hP : va_P (dC, dI) vwCl [(sc, .inr (7, [.ref sw, .ref sh])), (sw, .inl (csw, 21, .inr (.inl f_156))), (sh, .inl (csh, 21, .inl f_30)), (q0, .inr (1, []))] H := hP
            have hD : va_D A [(sc, .inr (7, [.ref sw, .ref sh])), (sw, .inl (csw, 21, .inr (.inl f_156))), (sh, .inl (csh, 21, .inl f_30)), (q0, .inr (1, []))] := hD
            refine lv_iinc (v := (nI (k_123 + 1))) (lv' := [(5, .int (nI (k_123 + 1))), (4, .int v_84), (0, .ref sc), (1, .ref q0), (2, .int na), (3, .int nb)]) hx hb dX7_addCounts_132 hl (k := 0) rfl (nI_add k_123 1) (by decide) rfl (fun ls hl => ?_)
            refine lv_goto (tgt := 94) hx hb dX7_addCounts_135 (by decide) ?_
            exact ih_146 ((k_123 + 1), f_156, H, locs, ls) ⟨by dsimp only; omega, hP, hD, hS, lv_sub hl [0, 1, 2, 3, 4, 5] rfl⟩ (by dsimp only; omega)
    · have hn_157 : ¬ 20 ≤ k_15 := fun q => c_47 ((nI_leI (a := 20) (b := k_15) (by omega) (by omega)).mpr q)
      refine lv_iload_n hx hb dX7_addCounts_37 rfl (lv_at hl 3 rfl) ?_
      refine lv_aload_n hx hb dX7_addCounts_38 rfl (lv_at hl 2 rfl) ?_
      refine lv_iload hx hb dX7_addCounts_39 (lv_at hl 0 rfl) ?_
      have hPc_158 := hP.sub (ws' := [(q0, .inr (1, []))]) [3] rfl
      have hKc_159 := hK.sub (tys' := []) [] rfl
      refine vp_callSi (va_Run.run (va_runU (C := RX1) (As := [.int (nI k_15)]) (rest := [.int na]) ⟨hx, hb, hml, hown, hts⟩ (k_slip_X1 l dC dI q0 (nI k_15)) (va_cwO 1 hts gX7_addCounts_X1_slip_u49X1 rfl rfl rfl (b0 := cX4_slip) (m0 := 2) (r0 := (some .int)) (by decide +kernel) (by decide +kernel) ⟨Nat.le_of_ble_eq_true rfl, Nat.le_of_ble_eq_true rfl⟩) ⟨fun a U g mk q => by obtain ⟨q0, qP, qK⟩ := q; exact ⟨q0, qP, va_K.moved (u := U) (U := U.calling g mk a) (Vm.Alike.refl U.vm) qK⟩, va_recv hK hP (ci := 1) (q0 := 3) rfl rfl, fun U hU hW => ⟨rfl, by rw [hU]; exact hPc_158, va_K.moved hW.alike hKc_159⟩⟩ rfl rfl hl.1 rfl (lv_room (Nat.le_of_ble_eq_true rfl)) dX7_addCounts_41 ⟨Nat.le_of_ble_eq_true rfl, Nat.le_of_ble_eq_true rfl⟩)) (fun r_160 hw_161 => ?_)
      obtain rfl : (zF (nI k_15)) = r_160 := hw_161.symm
      refine lv_isub hx hb dX7_addCounts_44 ?_
      refine lv_topi (fun x_162 _ => ?_)
      refine lv_bipush (v := 90) hx hb dX7_addCounts_45 (by decide) ?_
      refine lv_isub hx hb dX7_addCounts_47 ?_
      refine lv_topi (fun x_163 _ => ?_)
      refine lv_istore (lv' := [(5, .int x_163), (4, .int (nI k_15)), (0, .ref sc), (1, .ref q0), (2, .int na), (3, .int nb)]) hx hb dX7_addCounts_48 hl (by decide) rfl (fun ls hl => ?_)
      refine lv_iload hx hb dX7_addCounts_50 (lv_at hl 0 rfl) ?_
      refine lv_if_lt (tgt := 76) hx hb dX7_addCounts_52 (by decide) (fun c_164 => ?_) (fun c_164 => ?_)
      · refine lv_iinc (v := (nI (k_15 + 1))) (lv' := [(4, .int (nI (k_15 + 1))), (5, .int x_163), (0, .ref sc), (1, .ref q0), (2, .int na), (3, .int nb)]) hx hb dX7_addCounts_76 hl (k := 1) rfl (nI_add k_15 1) (by decide) rfl (fun ls hl => ?_)
        refine lv_goto (tgt := 30) hx hb dX7_addCounts_79 (by decide) ?_
        exact ih_46 ((k_15 + 1), f_30, H, locs, ls) ⟨by dsimp only; omega, hP, hD, hS, lv_sub hl [0, 2, 3, 4, 5] rfl⟩ (by dsimp only; omega)
      · refine lv_iload hx hb dX7_addCounts_55 (lv_at hl 0 rfl) ?_
        refine lv_aload_n hx hb dX7_addCounts_57 rfl (lv_at hl 2 rfl) ?_
        refine va_get (D := (dC, dI)) (ci := 7) (v := .ref sh) (C := RX7) (T := TX7) (N := 2) hx hb hts iw_s_add_X1_X7 hown hK hP 0 rfl rfl 1 (by decide) (hts (.fieldLink RX7 15 "ThriceCounted$Scale" "chances" "[I") (by decide +kernel)) (fun _ h9 => h9) rfl dX7_addCounts_58 ?_
        refine va_alen (v := 21) hx hb hK hP 2 1 rfl rfl rfl dX7_addCounts_61 ?_
        refine lv_icmp_ge (tgt := 76) hx hb dX7_addCounts_62 (by decide) (fun c_165 => ?_) (fun c_165 => ?_)
        · refine lv_iinc (v := (nI (k_15 + 1))) (lv' := [(4, .int (nI (k_15 + 1))), (5, .int x_163), (0, .ref sc), (1, .ref q0), (2, .int na), (3, .int nb)]) hx hb dX7_addCounts_76 hl (k := 1) rfl (nI_add k_15 1) (by decide) rfl (fun ls hl => ?_)
          refine lv_goto (tgt := 30) hx hb dX7_addCounts_79 (by decide) ?_
          exact ih_46 ((k_15 + 1), f_30, H, locs, ls) ⟨by dsimp only; omega, hP, hD, hS, lv_sub hl [0, 2, 3, 4, 5] rfl⟩ (by dsimp only; omega)
        · refine lv_aload_n hx hb dX7_addCounts_65 rfl (lv_at hl 2 rfl) ?_
          refine va_get (D := (dC, dI)) (ci := 7) (v := .ref sh) (C := RX7) (T := TX7) (N := 2) hx hb hts iw_s_add_X1_X7 hown hK hP 0 rfl rfl 1 (by decide) (hts (.fieldLink RX7 15 "ThriceCounted$Scale" "chances" "[I") (by decide +kernel)) (fun _ h9 => h9) rfl dX7_addCounts_66 ?_
          refine lv_iload hx hb dX7_addCounts_69 (lv_at hl 0 rfl) ?_
          refine lv_dup2_11 hx hb dX7_addCounts_71 rfl rfl ?_
          refine va_iald hx hb hK hP 2 1 rfl rfl (tz_in_le c_164 c_165 (M := 21) (by decide)) dX7_addCounts_72 ?_
          refine lv_topi (fun x_166 _ => ?_)
          refine lv_iconst (v := 1) hx hb dX7_addCounts_73 (by decide) ?_
          refine lv_iadd hx hb dX7_addCounts_74 ?_
          refine lv_topi (fun x_167 _ => ?_)
          refine va_iast hx hb hK hP hD hS 2 1 rfl rfl (tz_in_le c_164 c_165 (M := 21) (by decide)) dX7_addCounts_75 (fun H locs hP hD hS => ?_)
          generalize (upd f_30 (Int32.toNatClampNeg x_163) x_167) = f_168 at hP hD
          have hP : va_P (dC, dI) vwCl [(sc, .inr (7, [.ref sw, .ref sh])), (sw, .inl (csw, 21, .inr (.inl fw))), (sh, .inl (csh, 21, .inl f_168)), (q0, .inr (1, []))] H := hP
          have hD : va_D A [(sc, .inr (7, [.ref sw, .ref sh])), (sw, .inl (csw, 21, .inr (.inl fw))), (sh, .inl (csh, 21, .inl f_168)), (q0, .inr (1, []))] := hD
          refine lv_iinc (v := (nI (k_15 + 1))) (lv' := [(4, .int (nI (k_15 + 1))), (5, .int x_163), (0, .ref sc), (1, .ref q0), (2, .int na), (3, .int nb)]) hx hb dX7_addCounts_76 hl (k := 1) rfl (nI_add k_15 1) (by decide) rfl (fun ls hl => ?_)
          refine lv_goto (tgt := 30) hx hb dX7_addCounts_79 (by decide) ?_
          exact ih_46 ((k_15 + 1), f_168, H, locs, ls) ⟨by dsimp only; omega, hP, hD, hS, lv_sub hl [0, 2, 3, 4, 5] rfl⟩ (by dsimp only; omega)
  · have hn_169 : ¬ 21 ≤ k_1 := fun q => c_13 ((nI_leI (a := 21) (b := k_1) (by omega) (by omega)).mpr q)
    refine lv_aload_n hx hb dX7_addCounts_13 rfl (lv_at hl 1 rfl) ?_
    refine va_get (D := (dC, dI)) (ci := 7) (v := .ref sh) (C := RX7) (T := TX7) (N := 2) hx hb hts iw_s_add_X1_X7 hown hK hP 0 rfl rfl 1 (by decide) (hts (.fieldLink RX7 15 "ThriceCounted$Scale" "chances" "[I") (by decide +kernel)) (fun _ h9 => h9) rfl dX7_addCounts_14 ?_
    refine lv_iload hx hb dX7_addCounts_17 (lv_at hl 0 rfl) ?_
    refine lv_iconst (v := 0) hx hb dX7_addCounts_19 (by decide) ?_
    refine va_iast hx hb hK hP hD hS 2 1 rfl rfl (vp_in_nI (n := k_1) (N := 21) (by omega) (by decide)) dX7_addCounts_20 (fun H locs hP hD hS => ?_)
    generalize (upd f_6 (Int32.toNatClampNeg (nI k_1)) 0) = f_170 at hP hD
    have hP : va_P (dC, dI) vwCl [(sc, .inr (7, [.ref sw, .ref sh])), (sw, .inl (csw, 21, .inr (.inl fw))), (sh, .inl (csh, 21, .inl f_170)), (q0, .inr (1, []))] H := hP
    have hD : va_D A [(sc, .inr (7, [.ref sw, .ref sh])), (sw, .inl (csw, 21, .inr (.inl fw))), (sh, .inl (csh, 21, .inl f_170)), (q0, .inr (1, []))] := hD
    refine lv_iinc (v := (nI (k_1 + 1))) (lv' := [(4, .int (nI (k_1 + 1))), (0, .ref sc), (1, .ref q0), (2, .int na), (3, .int nb)]) hx hb dX7_addCounts_21 hl (k := 0) rfl (nI_add k_1 1) (by decide) rfl (fun ls hl => ?_)
    refine lv_goto (tgt := 3) hx hb dX7_addCounts_24 (by decide) ?_
    exact ih_12 ((k_1 + 1), f_170, H, locs, ls) ⟨by dsimp only; omega, hP, hD, hS, lv_sub hl [0, 1, 2, 3, 4] rfl⟩ (by dsimp only; omega)
set_option maxRecDepth 20000 in
theorem ggX7_addCounts_X10_slip : GoodIn wsX7_addCounts wsX10_slip := goodIn_r _ [24] (by decide +kernel) (by decide +kernel)
set_option maxRecDepth 20000 in
theorem gX7_addCounts_X10_slip_u49X10 : GoodIn wsX7_addCounts (va_wsO RX7 49 RX10 "ThriceCounted$Ones" ⟨"ThriceCounted$Ones", "slip", "(I)I"⟩ yX10_slip wsX10_slip) := goodIn_app (goodIn_of _ (by decide +kernel)) ggX7_addCounts_X10_slip
set_option maxRecDepth 20000 in
theorem iw_s_add_X10_X7 : ∀ w ∈ wsX70, w ∈ wsX7_addCounts := by decide +kernel
set_option maxHeartbeats 4000000 in
set_option maxRecDepth 100000 in
theorem s_add_X10 (l : Launch) (dC : Nat → ClassId) (dI : Nat → Nat → Nat) (sc : Nat) (sw : Nat) (sh : Nat) (csw : ClassId) (fw : Nat → Int64) (csh : ClassId) (fh : Nat → Int32) (q0 : Nat) (na : Int32) (nb : Int32) (sz : Nat) : Met l yX7_addCounts wsX7_addCounts ({ frames := 1, cells := 0, slots := 0, locals := 21 }) (va_Pc [.ref sc, .ref q0, .int na, .int nb] (fun U => U.heap.size = sz ∧ va_P (dC, dI) vwCl [(sc, .inr (7, [.ref sw, .ref sh])), (sw, .inl (csw, 21, .inr (.inl fw))), (sh, .inl (csh, 21, .inl fh)), (q0, .inr (10, []))] U.heap ∧ va_K (dC, dI) vwCl [(csw, .long), (csh, .int)] U ∧ va_D (fun _ => True) [(sc, .inr (7, [.ref sw, .ref sh])), (sw, .inl (csw, 21, .inr (.inl fw))), (sh, .inl (csh, 21, .inl fh)), (q0, .inr (10, []))])) (va_Qv (fun (_ : Unit) => True) (fun _ t => ∃ (gw : Nat → Int64) (gh : Nat → Int32), va_P (dC, dI) vwCl [(sc, .inr (7, [.ref sw, .ref sh])), (sw, .inl (csw, 21, .inr (.inl gw))), (sh, .inl (csh, 21, .inl gh)), (q0, .inr (10, []))] t.heap ∧ va_K (dC, dI) vwCl [(csw, .long), (csh, .int)] t ∧ va_D (va_A [(sc, .inr (7, [.ref sw, .ref sh])), (sw, .inl (csw, 21, .inr (.inl fw))), (sh, .inl (csh, 21, .inl fh)), (q0, .inr (10, []))] sz) [(sc, .inr (7, [.ref sw, .ref sh])), (sw, .inl (csw, 21, .inr (.inl gw))), (sh, .inl (csh, 21, .inl gh)), (q0, .inr (10, []))]) (va_A [(sc, .inr (7, [.ref sw, .ref sh])), (sw, .inl (csw, 21, .inr (.inl fw))), (sh, .inl (csh, 21, .inl fh)), (q0, .inr (10, []))] sz)) 0 0 (va_A [(sc, .inr (7, [.ref sw, .ref sh])), (sw, .inl (csw, 21, .inr (.inl fw))), (sh, .inl (csh, 21, .inl fh)), (q0, .inr (10, []))] sz) := by
  refine Met.ofW (cc := cX7_addCounts) (maxL := 6) (ret := none) (by decide) rfl ?_
  intro p e s m args below meth c s₁ B hml hv
  obtain ⟨rfl, hsz, hP, hK, hD0⟩ := hv
  have hx := B.exec
  have hb := B.bytes
  have hr := B.returns
  have hts := atoms_spec (ws := wsX7_addCounts) B.pre
  have hown : s.vm.findClass RX7 = some m.cls := findClass_of_methodNamed B.named
  have hlocks := B.notSynchronized
  subst hsz
  have hD := hD0.self (sz := s.heap.size)
  generalize hAe : va_A [(sc, .inr (7, [.ref sw, .ref sh])), (sw, .inl (csw, 21, .inr (.inl fw))), (sh, .inl (csh, 21, .inl fh)), (q0, .inr (10, []))] s.heap.size = A at hD ⊢
  have hA : ∀ q : Nat, s.heap.size ≤ q → A q := fun q h => by rw [← hAe]; exact Or.inr h
  have hS : va_S A s.heap s.heap [] := va_S.rf
  have hP : va_P (dC, dI) vwCl [(sc, .inr (7, [.ref sw, .ref sh])), (sw, .inl (csw, 21, .inr (.inl fw))), (sh, .inl (csh, 21, .inl fh)), (q0, .inr (10, []))] s.heap := hP
  have hl := lv_entry ([.ref sc, .ref q0, .int na, .int nb]) (n := 6) (Nat.le_of_ble_eq_true rfl)
  rw [lg_entry_eq]
  generalize (lg_sl ([.ref sc, .ref q0, .int na, .int nb]) ++ List.replicate (6 - (lg_sl ([.ref sc, .ref q0, .int na, .int nb])).length) Slot.unset).toArray = ls at hl ⊢
  have hl : lv_has ls 6 [(0, .ref sc), (1, .ref q0), (2, .int na), (3, .int nb)] := hl
  refine lv_iconst (v := 0) hx hb dX7_addCounts_0 (by decide) ?_
  refine lv_istore (lv' := [(4, .int 0), (0, .ref sc), (1, .ref q0), (2, .int na), (3, .int nb)]) hx hb dX7_addCounts_1 hl (by decide) rfl (fun ls hl => ?_)
  refine tz_while (σ := Nat × (Nat → Int32) × Heap × List Loc × Array Slot) (fun x => W p l e _ s m _ below meth c x.2.2.1 x.2.2.2.1 _ _ _ (F0 m 3 x.2.2.2.2 [])) (fun x => x.1 ≤ 21 ∧ va_P (dC, dI) vwCl [(sc, .inr (7, [.ref sw, .ref sh])), (sw, .inl (csw, 21, .inr (.inl fw))), (sh, .inl (csh, 21, .inl x.2.1)), (q0, .inr (10, []))] x.2.2.1 ∧ va_D A [(sc, .inr (7, [.ref sw, .ref sh])), (sw, .inl (csw, 21, .inr (.inl fw))), (sh, .inl (csh, 21, .inl x.2.1)), (q0, .inr (10, []))] ∧ va_S A s.heap x.2.2.1 x.2.2.2.1 ∧ lv_has x.2.2.2.2 6 [(4, .int (nI x.1)), (0, .ref sc), (1, .ref q0), (2, .int na), (3, .int nb)]) (fun x => 21 - x.1) ?_ (0, fh, s.heap, [], ls) ⟨by omega, hP, hD, hS, hl⟩
  rintro ⟨k_1, f_6, H, locs, ls⟩ ⟨hi_11_0, hP, hD, hS, hl⟩ ih_12
  dsimp only at hi_11_0 hP hD hS hl ih_12 ⊢
  refine lv_iload hx hb dX7_addCounts_3 (lv_at hl 0 rfl) ?_
  refine lv_aload_n hx hb dX7_addCounts_5 rfl (lv_at hl 1 rfl) ?_
  refine va_get (D := (dC, dI)) (ci := 7) (v := .ref sh) (C := RX7) (T := TX7) (N := 2) hx hb hts iw_s_add_X10_X7 hown hK hP 0 rfl rfl 1 (by decide) (hts (.fieldLink RX7 15 "ThriceCounted$Scale" "chances" "[I") (by decide +kernel)) (fun _ h9 => h9) rfl dX7_addCounts_6 ?_
  refine va_alen (v := 21) hx hb hK hP 2 1 rfl rfl rfl dX7_addCounts_9 ?_
  refine lv_icmp_ge (tgt := 27) hx hb dX7_addCounts_10 (by decide) (fun c_13 => ?_) (fun c_13 => ?_)
  · have hn_14 : 21 ≤ k_1 := (nI_leI (a := 21) (b := k_1) (by omega) (by omega)).mp c_13
    refine lv_iconst (v := 0) hx hb dX7_addCounts_27 (by decide) ?_
    refine lv_istore (lv' := [(4, .int 0), (0, .ref sc), (1, .ref q0), (2, .int na), (3, .int nb)]) hx hb dX7_addCounts_28 hl (by decide) rfl (fun ls hl => ?_)
    refine tz_while (σ := Nat × (Nat → Int32) × Heap × List Loc × Array Slot) (fun x => W p l e _ s m _ below meth c x.2.2.1 x.2.2.2.1 _ _ _ (F0 m 30 x.2.2.2.2 [])) (fun x => x.1 ≤ 20 ∧ va_P (dC, dI) vwCl [(sc, .inr (7, [.ref sw, .ref sh])), (sw, .inl (csw, 21, .inr (.inl fw))), (sh, .inl (csh, 21, .inl x.2.1)), (q0, .inr (10, []))] x.2.2.1 ∧ va_D A [(sc, .inr (7, [.ref sw, .ref sh])), (sw, .inl (csw, 21, .inr (.inl fw))), (sh, .inl (csh, 21, .inl x.2.1)), (q0, .inr (10, []))] ∧ va_S A s.heap x.2.2.1 x.2.2.2.1 ∧ lv_has x.2.2.2.2 6 [(4, .int (nI x.1)), (0, .ref sc), (1, .ref q0), (2, .int na), (3, .int nb)]) (fun x => 20 - x.1) ?_ (0, f_6, H, locs, ls) ⟨by omega, hP, hD, hS, hl⟩
    rintro ⟨k_15, f_28, H, locs, ls⟩ ⟨hi_41_0, hP, hD, hS, hl⟩ ih_42
    dsimp only at hi_41_0 hP hD hS hl ih_42 ⊢
    refine lv_iload hx hb dX7_addCounts_30 (lv_at hl 0 rfl) ?_
    refine lv_bipush (v := 20) hx hb dX7_addCounts_32 (by decide) ?_
    refine lv_icmp_ge (tgt := 82) hx hb dX7_addCounts_34 (by decide) (fun c_43 => ?_) (fun c_43 => ?_)
    · have hn_44 : 20 ≤ k_15 := (nI_leI (a := 20) (b := k_15) (by omega) (by omega)).mp c_43
      refine lv_iconst (v := 0) hx hb dX7_addCounts_82 (by decide) ?_
      refine lv_istore (lv' := [(4, .int 0), (0, .ref sc), (1, .ref q0), (2, .int na), (3, .int nb)]) hx hb dX7_addCounts_83 hl (by decide) rfl (fun ls hl => ?_)
      refine tz_while (σ := Int32 × (Nat → Int64) × Heap × List Loc × Array Slot) (fun x => W p l e _ s m _ below meth c x.2.2.1 x.2.2.2.1 _ _ _ (F0 m 85 x.2.2.2.2 [])) (fun x => va_P (dC, dI) vwCl [(sc, .inr (7, [.ref sw, .ref sh])), (sw, .inl (csw, 21, .inr (.inl x.2.1))), (sh, .inl (csh, 21, .inl f_28)), (q0, .inr (10, []))] x.2.2.1 ∧ va_D A [(sc, .inr (7, [.ref sw, .ref sh])), (sw, .inl (csw, 21, .inr (.inl x.2.1))), (sh, .inl (csh, 21, .inl f_28)), (q0, .inr (10, []))] ∧ va_S A s.heap x.2.2.1 x.2.2.2.1 ∧ lv_has x.2.2.2.2 6 [(4, .int x.1), (0, .ref sc), (1, .ref q0), (2, .int na), (3, .int nb)]) (fun x => (nb.toInt - x.1.toInt).toNat) ?_ (0, fw, H, locs, ls) ⟨hP, hD, hS, hl⟩
      rintro ⟨v_80, f_81, H, locs, ls⟩ ⟨hP, hD, hS, hl⟩ ih_117
      dsimp only at hP hD hS hl ih_117 ⊢
      refine lv_iload hx hb dX7_addCounts_85 (lv_at hl 0 rfl) ?_
      refine lv_iload_n hx hb dX7_addCounts_87 rfl (lv_at hl 4 rfl) ?_
      refine lv_icmp_ge (tgt := 144) hx hb dX7_addCounts_88 (by decide) (fun c_118 => ?_) (fun c_118 => ?_)
      · have hP9 := hP.sub (ws' := [(sc, .inr (7, [.ref sw, .ref sh])), (sw, .inl (csw, 21, .inr (.inl f_81))), (sh, .inl (csh, 21, .inl f_28)), (q0, .inr (10, []))]) [0, 1, 2, 3] rfl
        have hD9 := hD.sub (ws' := [(sc, .inr (7, [.ref sw, .ref sh])), (sw, .inl (csw, 21, .inr (.inl f_81))), (sh, .inl (csh, 21, .inl f_28)), (q0, .inr (10, []))]) [0, 1, 2, 3] (by decide) rfl
        have hK9 := hK.sub (tys' := [(csw, .long), (csh, .int)]) [0, 1] rfl
        exact W.vret hx hb hr (fun t ht hW => ⟨⟨(), rfl, trivial, f_81, f_28, by rw [ht]; exact hP9, va_K.moved hW.alike hK9, hD9⟩, hS.F ht⟩) hS.2.2 dX7_addCounts_144
      · refine lv_iconst (v := 0) hx hb dX7_addCounts_91 (by decide) ?_
        refine lv_istore (lv' := [(5, .int 0), (4, .int v_80), (0, .ref sc), (1, .ref q0), (2, .int na), (3, .int nb)]) hx hb dX7_addCounts_92 hl (by decide) rfl (fun ls hl => ?_)
        refine tz_while (σ := Nat × (Nat → Int64) × Heap × List Loc × Array Slot) (fun x => W p l e _ s m _ below meth c x.2.2.1 x.2.2.2.1 _ _ _ (F0 m 94 x.2.2.2.2 [])) (fun x => x.1 ≤ 21 ∧ va_P (dC, dI) vwCl [(sc, .inr (7, [.ref sw, .ref sh])), (sw, .inl (csw, 21, .inr (.inl x.2.1))), (sh, .inl (csh, 21, .inl f_28)), (q0, .inr (10, []))] x.2.2.1 ∧ va_D A [(sc, .inr (7, [.ref sw, .ref sh])), (sw, .inl (csw, 21, .inr (.inl x.2.1))), (sh, .inl (csh, 21, .inl f_28)), (q0, .inr (10, []))] ∧ va_S A s.heap x.2.2.1 x.2.2.2.1 ∧ lv_has x.2.2.2.2 6 [(5, .int (nI x.1)), (4, .int v_80), (0, .ref sc), (1, .ref q0), (2, .int na), (3, .int nb)]) (fun x => 21 - x.1) ?_ (0, f_81, H, locs, ls) ⟨by omega, hP, hD, hS, hl⟩
        rintro ⟨k_119, f_130, H, locs, ls⟩ ⟨hi_141_0, hP, hD, hS, hl⟩ ih_142
        dsimp only at hi_141_0 hP hD hS hl ih_142 ⊢
        refine lv_iload hx hb dX7_addCounts_94 (lv_at hl 0 rfl) ?_
        refine lv_aload_n hx hb dX7_addCounts_96 rfl (lv_at hl 2 rfl) ?_
        refine va_get (D := (dC, dI)) (ci := 7) (v := .ref sw) (C := RX7) (T := TX7) (N := 2) hx hb hts iw_s_add_X10_X7 hown hK hP 0 rfl rfl 0 (by decide) (hts (.fieldLink RX7 9 "ThriceCounted$Scale" "weights" "[J") (by decide +kernel)) (fun _ h9 => h9) rfl dX7_addCounts_97 ?_
        refine va_alen (v := 21) hx hb hK hP 1 0 rfl rfl rfl dX7_addCounts_100 ?_
        refine lv_icmp_ge (tgt := 138) hx hb dX7_addCounts_101 (by decide) (fun c_143 => ?_) (fun c_143 => ?_)
        · have hn_144 : 21 ≤ k_119 := (nI_leI (a := 21) (b := k_119) (by omega) (by omega)).mp c_143
          refine lv_iinc (v := (v_80 + 1)) (lv' := [(4, .int (v_80 + 1)), (5, .int (nI k_119)), (0, .ref sc), (1, .ref q0), (2, .int na), (3, .int nb)]) hx hb dX7_addCounts_138 hl (k := 1) rfl rfl (by decide) rfl (fun ls hl => ?_)
          refine lv_goto (tgt := 85) hx hb dX7_addCounts_141 (by decide) ?_
          exact ih_117 ((v_80 + 1), f_130, H, locs, ls) ⟨hP, hD, hS, lv_sub hl [0, 2, 3, 4, 5] rfl⟩ (tz_mu c_118)
        · have hn_145 : ¬ 21 ≤ k_119 := fun q => c_143 ((nI_leI (a := 21) (b := k_119) (by omega) (by omega)).mpr q)
          refine lv_iload hx hb dX7_addCounts_104 (lv_at hl 0 rfl) ?_
          refine lv_aload_n hx hb dX7_addCounts_106 rfl (lv_at hl 2 rfl) ?_
          refine va_get (D := (dC, dI)) (ci := 7) (v := .ref sh) (C := RX7) (T := TX7) (N := 2) hx hb hts iw_s_add_X10_X7 hown hK hP 0 rfl rfl 1 (by decide) (hts (.fieldLink RX7 15 "ThriceCounted$Scale" "chances" "[I") (by decide +kernel)) (fun _ h9 => h9) rfl dX7_addCounts_107 ?_
          refine va_alen (v := 21) hx hb hK hP 2 1 rfl rfl rfl dX7_addCounts_110 ?_
          refine lv_icmp_ge (tgt := 138) hx hb dX7_addCounts_111 (by decide) (fun c_146 => ?_) (fun c_146 => ?_)
          · have hn_147 : 21 ≤ k_119 := (nI_leI (a := 21) (b := k_119) (by omega) (by omega)).mp c_146
            refine lv_iinc (v := (v_80 + 1)) (lv' := [(4, .int (v_80 + 1)), (5, .int (nI k_119)), (0, .ref sc), (1, .ref q0), (2, .int na), (3, .int nb)]) hx hb dX7_addCounts_138 hl (k := 1) rfl rfl (by decide) rfl (fun ls hl => ?_)
            refine lv_goto (tgt := 85) hx hb dX7_addCounts_141 (by decide) ?_
            exact ih_117 ((v_80 + 1), f_130, H, locs, ls) ⟨hP, hD, hS, lv_sub hl [0, 2, 3, 4, 5] rfl⟩ (tz_mu c_118)
          · have hn_148 : ¬ 21 ≤ k_119 := fun q => c_146 ((nI_leI (a := 21) (b := k_119) (by omega) (by omega)).mpr q)
            refine lv_aload_n hx hb dX7_addCounts_114 rfl (lv_at hl 2 rfl) ?_
            refine va_get (D := (dC, dI)) (ci := 7) (v := .ref sw) (C := RX7) (T := TX7) (N := 2) hx hb hts iw_s_add_X10_X7 hown hK hP 0 rfl rfl 0 (by decide) (hts (.fieldLink RX7 9 "ThriceCounted$Scale" "weights" "[J") (by decide +kernel)) (fun _ h9 => h9) rfl dX7_addCounts_115 ?_
            refine lv_iload hx hb dX7_addCounts_118 (lv_at hl 0 rfl) ?_
            refine lv_dup2_11 hx hb dX7_addCounts_120 rfl rfl ?_
            refine va_lald hx hb hK hP 1 0 rfl rfl (vp_in_nI (n := k_119) (N := 21) (by omega) (by decide)) dX7_addCounts_121 ?_
            refine lv_topl (fun x_149 _ => ?_)
            refine lv_aload_n hx hb dX7_addCounts_122 rfl (lv_at hl 2 rfl) ?_
            refine va_get (D := (dC, dI)) (ci := 7) (v := .ref sh) (C := RX7) (T := TX7) (N := 2) hx hb hts iw_s_add_X10_X7 hown hK hP 0 rfl rfl 1 (by decide) (hts (.fieldLink RX7 15 "ThriceCounted$Scale" "chances" "[I") (by decide +kernel)) (fun _ h9 => h9) rfl dX7_addCounts_123 ?_
            refine lv_iload hx hb dX7_addCounts_126 (lv_at hl 0 rfl) ?_
            refine va_iald hx hb hK hP 2 1 rfl rfl (vp_in_nI (n := k_119) (N := 21) (by omega) (by decide)) dX7_addCounts_128 ?_
            refine lv_topi (fun x_150 _ => ?_)
            refine lv_i2l (v := x_150.toInt64) hx hb dX7_addCounts_129 rfl ?_
            refine lv_lmul hx hb dX7_addCounts_130 ?_
            refine lv_topl (fun x_151 _ => ?_)
            refine va_last hx hb hK hP hD hS 1 0 rfl rfl (vp_in_nI (n := k_119) (N := 21) (by omega) (by decide)) dX7_addCounts_131 (fun H locs hP hD hS => ?_)
            generalize (vp_updL f_130 (Int32.toNatClampNeg (nI k_119)) x_151) = f_152 at hP hD
            have hP : va_P (dC, dI) vwCl [(sc, .inr (7, [.ref sw, .ref sh])), (sw, .inl (csw, 21, .inr (.inl f_152))), (sh, .inl (csh, 21, .inl f_28)), (q0, .inr (10, []))] H := hP
            have hD : va_D A [(sc, .inr (7, [.ref sw, .ref sh])), (sw, .inl (csw, 21, .inr (.inl f_152))), (sh, .inl (csh, 21, .inl f_28)), (q0, .inr (10, []))] := hD
            refine lv_iinc (v := (nI (k_119 + 1))) (lv' := [(5, .int (nI (k_119 + 1))), (4, .int v_80), (0, .ref sc), (1, .ref q0), (2, .int na), (3, .int nb)]) hx hb dX7_addCounts_132 hl (k := 0) rfl (nI_add k_119 1) (by decide) rfl (fun ls hl => ?_)
            refine lv_goto (tgt := 94) hx hb dX7_addCounts_135 (by decide) ?_
            exact ih_142 ((k_119 + 1), f_152, H, locs, ls) ⟨by dsimp only; omega, hP, hD, hS, lv_sub hl [0, 1, 2, 3, 4, 5] rfl⟩ (by dsimp only; omega)
    · have hn_153 : ¬ 20 ≤ k_15 := fun q => c_43 ((nI_leI (a := 20) (b := k_15) (by omega) (by omega)).mpr q)
      refine lv_iload_n hx hb dX7_addCounts_37 rfl (lv_at hl 3 rfl) ?_
      refine lv_aload_n hx hb dX7_addCounts_38 rfl (lv_at hl 2 rfl) ?_
      refine lv_iload hx hb dX7_addCounts_39 (lv_at hl 0 rfl) ?_
      refine vp_callSi (va_Run.run (va_runU (C := RX10) (As := [.int (nI k_15)]) (rest := [.int na]) ⟨hx, hb, hml, hown, hts⟩ (k_slip_X10 l dC dI q0 (nI k_15)) (va_cwO 1 hts gX7_addCounts_X10_slip_u49X10 rfl rfl rfl (b0 := cX4_slip) (m0 := 2) (r0 := (some .int)) (by decide +kernel) (by decide +kernel) ⟨Nat.le_of_ble_eq_true rfl, Nat.le_of_ble_eq_true rfl⟩) ⟨fun a U g mk q => ⟨q.1, trivial⟩, va_recv hK hP (ci := 10) (q0 := 3) rfl rfl, fun U hU hW => ⟨rfl, trivial⟩⟩ rfl rfl hl.1 rfl (lv_room (Nat.le_of_ble_eq_true rfl)) dX7_addCounts_41 ⟨Nat.le_of_ble_eq_true rfl, Nat.le_of_ble_eq_true rfl⟩)) (fun r_154 hw_155 => ?_)
      obtain rfl : (zW (nI k_15)) = r_154 := hw_155.symm
      refine lv_isub hx hb dX7_addCounts_44 ?_
      refine lv_topi (fun x_156 _ => ?_)
      refine lv_bipush (v := 90) hx hb dX7_addCounts_45 (by decide) ?_
      refine lv_isub hx hb dX7_addCounts_47 ?_
      refine lv_topi (fun x_157 _ => ?_)
      refine lv_istore (lv' := [(5, .int x_157), (4, .int (nI k_15)), (0, .ref sc), (1, .ref q0), (2, .int na), (3, .int nb)]) hx hb dX7_addCounts_48 hl (by decide) rfl (fun ls hl => ?_)
      refine lv_iload hx hb dX7_addCounts_50 (lv_at hl 0 rfl) ?_
      refine lv_if_lt (tgt := 76) hx hb dX7_addCounts_52 (by decide) (fun c_158 => ?_) (fun c_158 => ?_)
      · refine lv_iinc (v := (nI (k_15 + 1))) (lv' := [(4, .int (nI (k_15 + 1))), (5, .int x_157), (0, .ref sc), (1, .ref q0), (2, .int na), (3, .int nb)]) hx hb dX7_addCounts_76 hl (k := 1) rfl (nI_add k_15 1) (by decide) rfl (fun ls hl => ?_)
        refine lv_goto (tgt := 30) hx hb dX7_addCounts_79 (by decide) ?_
        exact ih_42 ((k_15 + 1), f_28, H, locs, ls) ⟨by dsimp only; omega, hP, hD, hS, lv_sub hl [0, 2, 3, 4, 5] rfl⟩ (by dsimp only; omega)
      · refine lv_iload hx hb dX7_addCounts_55 (lv_at hl 0 rfl) ?_
        refine lv_aload_n hx hb dX7_addCounts_57 rfl (lv_at hl 2 rfl) ?_
        refine va_get (D := (dC, dI)) (ci := 7) (v := .ref sh) (C := RX7) (T := TX7) (N := 2) hx hb hts iw_s_add_X10_X7 hown hK hP 0 rfl rfl 1 (by decide) (hts (.fieldLink RX7 15 "ThriceCounted$Scale" "chances" "[I") (by decide +kernel)) (fun _ h9 => h9) rfl dX7_addCounts_58 ?_
        refine va_alen (v := 21) hx hb hK hP 2 1 rfl rfl rfl dX7_addCounts_61 ?_
        refine lv_icmp_ge (tgt := 76) hx hb dX7_addCounts_62 (by decide) (fun c_159 => ?_) (fun c_159 => ?_)
        · refine lv_iinc (v := (nI (k_15 + 1))) (lv' := [(4, .int (nI (k_15 + 1))), (5, .int x_157), (0, .ref sc), (1, .ref q0), (2, .int na), (3, .int nb)]) hx hb dX7_addCounts_76 hl (k := 1) rfl (nI_add k_15 1) (by decide) rfl (fun ls hl => ?_)
          refine lv_goto (tgt := 30) hx hb dX7_addCounts_79 (by decide) ?_
          exact ih_42 ((k_15 + 1), f_28, H, locs, ls) ⟨by dsimp only; omega, hP, hD, hS, lv_sub hl [0, 2, 3, 4, 5] rfl⟩ (by dsimp only; omega)
        · refine lv_aload_n hx hb dX7_addCounts_65 rfl (lv_at hl 2 rfl) ?_
          refine va_get (D := (dC, dI)) (ci := 7) (v := .ref sh) (C := RX7) (T := TX7) (N := 2) hx hb hts iw_s_add_X10_X7 hown hK hP 0 rfl rfl 1 (by decide) (hts (.fieldLink RX7 15 "ThriceCounted$Scale" "chances" "[I") (by decide +kernel)) (fun _ h9 => h9) rfl dX7_addCounts_66 ?_
          refine lv_iload hx hb dX7_addCounts_69 (lv_at hl 0 rfl) ?_
          refine lv_dup2_11 hx hb dX7_addCounts_71 rfl rfl ?_
          refine va_iald hx hb hK hP 2 1 rfl rfl (tz_in_le c_158 c_159 (M := 21) (by decide)) dX7_addCounts_72 ?_
          refine lv_topi (fun x_160 _ => ?_)
          refine lv_iconst (v := 1) hx hb dX7_addCounts_73 (by decide) ?_
          refine lv_iadd hx hb dX7_addCounts_74 ?_
          refine lv_topi (fun x_161 _ => ?_)
          refine va_iast hx hb hK hP hD hS 2 1 rfl rfl (tz_in_le c_158 c_159 (M := 21) (by decide)) dX7_addCounts_75 (fun H locs hP hD hS => ?_)
          generalize (upd f_28 (Int32.toNatClampNeg x_157) x_161) = f_162 at hP hD
          have hP : va_P (dC, dI) vwCl [(sc, .inr (7, [.ref sw, .ref sh])), (sw, .inl (csw, 21, .inr (.inl fw))), (sh, .inl (csh, 21, .inl f_162)), (q0, .inr (10, []))] H := hP
          have hD : va_D A [(sc, .inr (7, [.ref sw, .ref sh])), (sw, .inl (csw, 21, .inr (.inl fw))), (sh, .inl (csh, 21, .inl f_162)), (q0, .inr (10, []))] := hD
          refine lv_iinc (v := (nI (k_15 + 1))) (lv' := [(4, .int (nI (k_15 + 1))), (5, .int x_157), (0, .ref sc), (1, .ref q0), (2, .int na), (3, .int nb)]) hx hb dX7_addCounts_76 hl (k := 1) rfl (nI_add k_15 1) (by decide) rfl (fun ls hl => ?_)
          refine lv_goto (tgt := 30) hx hb dX7_addCounts_79 (by decide) ?_
          exact ih_42 ((k_15 + 1), f_162, H, locs, ls) ⟨by dsimp only; omega, hP, hD, hS, lv_sub hl [0, 2, 3, 4, 5] rfl⟩ (by dsimp only; omega)
  · have hn_163 : ¬ 21 ≤ k_1 := fun q => c_13 ((nI_leI (a := 21) (b := k_1) (by omega) (by omega)).mpr q)
    refine lv_aload_n hx hb dX7_addCounts_13 rfl (lv_at hl 1 rfl) ?_
    refine va_get (D := (dC, dI)) (ci := 7) (v := .ref sh) (C := RX7) (T := TX7) (N := 2) hx hb hts iw_s_add_X10_X7 hown hK hP 0 rfl rfl 1 (by decide) (hts (.fieldLink RX7 15 "ThriceCounted$Scale" "chances" "[I") (by decide +kernel)) (fun _ h9 => h9) rfl dX7_addCounts_14 ?_
    refine lv_iload hx hb dX7_addCounts_17 (lv_at hl 0 rfl) ?_
    refine lv_iconst (v := 0) hx hb dX7_addCounts_19 (by decide) ?_
    refine va_iast hx hb hK hP hD hS 2 1 rfl rfl (vp_in_nI (n := k_1) (N := 21) (by omega) (by decide)) dX7_addCounts_20 (fun H locs hP hD hS => ?_)
    generalize (upd f_6 (Int32.toNatClampNeg (nI k_1)) 0) = f_164 at hP hD
    have hP : va_P (dC, dI) vwCl [(sc, .inr (7, [.ref sw, .ref sh])), (sw, .inl (csw, 21, .inr (.inl fw))), (sh, .inl (csh, 21, .inl f_164)), (q0, .inr (10, []))] H := hP
    have hD : va_D A [(sc, .inr (7, [.ref sw, .ref sh])), (sw, .inl (csw, 21, .inr (.inl fw))), (sh, .inl (csh, 21, .inl f_164)), (q0, .inr (10, []))] := hD
    refine lv_iinc (v := (nI (k_1 + 1))) (lv' := [(4, .int (nI (k_1 + 1))), (0, .ref sc), (1, .ref q0), (2, .int na), (3, .int nb)]) hx hb dX7_addCounts_21 hl (k := 0) rfl (nI_add k_1 1) (by decide) rfl (fun ls hl => ?_)
    refine lv_goto (tgt := 3) hx hb dX7_addCounts_24 (by decide) ?_
    exact ih_12 ((k_1 + 1), f_164, H, locs, ls) ⟨by dsimp only; omega, hP, hD, hS, lv_sub hl [0, 1, 2, 3, 4] rfl⟩ (by dsimp only; omega)
set_option maxRecDepth 20000 in
theorem ggX7_addCounts_X3_slip : GoodIn wsX7_addCounts wsX3_slip := goodIn_r _ [18, 19, 20, 21, 22, 23, 24] (by decide +kernel) (by decide +kernel)
set_option maxRecDepth 20000 in
theorem gX7_addCounts_X3_slip_u49X3 : GoodIn wsX7_addCounts (va_wsO RX7 49 RX3 "ThriceCounted$Ones" ⟨"ThriceCounted$Ones", "slip", "(I)I"⟩ yX3_slip wsX3_slip) := goodIn_app (goodIn_of _ (by decide +kernel)) ggX7_addCounts_X3_slip
set_option maxRecDepth 20000 in
theorem iw_s_add_X3_X7 : ∀ w ∈ wsX70, w ∈ wsX7_addCounts := by decide +kernel
set_option maxHeartbeats 4000000 in
set_option maxRecDepth 100000 in
theorem s_add_X3 (l : Launch) (dC : Nat → ClassId) (dI : Nat → Nat → Nat) (sc : Nat) (sw : Nat) (sh : Nat) (csw : ClassId) (fw : Nat → Int64) (csh : ClassId) (fh : Nat → Int32) (q0 : Nat) (na : Int32) (nb : Int32) (sz : Nat) : Met l yX7_addCounts wsX7_addCounts ({ frames := 2, cells := 0, slots := 0, locals := 42 }) (va_Pc [.ref sc, .ref q0, .int na, .int nb] (fun U => U.heap.size = sz ∧ va_P (dC, dI) vwCl [(sc, .inr (7, [.ref sw, .ref sh])), (sw, .inl (csw, 21, .inr (.inl fw))), (sh, .inl (csh, 21, .inl fh)), (q0, .inr (3, []))] U.heap ∧ va_K (dC, dI) vwCl [(csw, .long), (csh, .int)] U ∧ va_D (fun _ => True) [(sc, .inr (7, [.ref sw, .ref sh])), (sw, .inl (csw, 21, .inr (.inl fw))), (sh, .inl (csh, 21, .inl fh)), (q0, .inr (3, []))])) (va_Qv (fun (_ : Unit) => True) (fun _ t => ∃ (gw : Nat → Int64) (gh : Nat → Int32), va_P (dC, dI) vwCl [(sc, .inr (7, [.ref sw, .ref sh])), (sw, .inl (csw, 21, .inr (.inl gw))), (sh, .inl (csh, 21, .inl gh)), (q0, .inr (3, []))] t.heap ∧ va_K (dC, dI) vwCl [(csw, .long), (csh, .int)] t ∧ va_D (va_A [(sc, .inr (7, [.ref sw, .ref sh])), (sw, .inl (csw, 21, .inr (.inl fw))), (sh, .inl (csh, 21, .inl fh)), (q0, .inr (3, []))] sz) [(sc, .inr (7, [.ref sw, .ref sh])), (sw, .inl (csw, 21, .inr (.inl gw))), (sh, .inl (csh, 21, .inl gh)), (q0, .inr (3, []))]) (va_A [(sc, .inr (7, [.ref sw, .ref sh])), (sw, .inl (csw, 21, .inr (.inl fw))), (sh, .inl (csh, 21, .inl fh)), (q0, .inr (3, []))] sz)) 0 0 (va_A [(sc, .inr (7, [.ref sw, .ref sh])), (sw, .inl (csw, 21, .inr (.inl fw))), (sh, .inl (csh, 21, .inl fh)), (q0, .inr (3, []))] sz) := by
  refine Met.ofW (cc := cX7_addCounts) (maxL := 6) (ret := none) (by decide) rfl ?_
  intro p e s m args below meth c s₁ B hml hv
  obtain ⟨rfl, hsz, hP, hK, hD0⟩ := hv
  have hx := B.exec
  have hb := B.bytes
  have hr := B.returns
  have hts := atoms_spec (ws := wsX7_addCounts) B.pre
  have hown : s.vm.findClass RX7 = some m.cls := findClass_of_methodNamed B.named
  have hlocks := B.notSynchronized
  subst hsz
  have hD := hD0.self (sz := s.heap.size)
  generalize hAe : va_A [(sc, .inr (7, [.ref sw, .ref sh])), (sw, .inl (csw, 21, .inr (.inl fw))), (sh, .inl (csh, 21, .inl fh)), (q0, .inr (3, []))] s.heap.size = A at hD ⊢
  have hA : ∀ q : Nat, s.heap.size ≤ q → A q := fun q h => by rw [← hAe]; exact Or.inr h
  have hS : va_S A s.heap s.heap [] := va_S.rf
  have hP : va_P (dC, dI) vwCl [(sc, .inr (7, [.ref sw, .ref sh])), (sw, .inl (csw, 21, .inr (.inl fw))), (sh, .inl (csh, 21, .inl fh)), (q0, .inr (3, []))] s.heap := hP
  have hl := lv_entry ([.ref sc, .ref q0, .int na, .int nb]) (n := 6) (Nat.le_of_ble_eq_true rfl)
  rw [lg_entry_eq]
  generalize (lg_sl ([.ref sc, .ref q0, .int na, .int nb]) ++ List.replicate (6 - (lg_sl ([.ref sc, .ref q0, .int na, .int nb])).length) Slot.unset).toArray = ls at hl ⊢
  have hl : lv_has ls 6 [(0, .ref sc), (1, .ref q0), (2, .int na), (3, .int nb)] := hl
  refine lv_iconst (v := 0) hx hb dX7_addCounts_0 (by decide) ?_
  refine lv_istore (lv' := [(4, .int 0), (0, .ref sc), (1, .ref q0), (2, .int na), (3, .int nb)]) hx hb dX7_addCounts_1 hl (by decide) rfl (fun ls hl => ?_)
  refine tz_while (σ := Nat × (Nat → Int32) × Heap × List Loc × Array Slot) (fun x => W p l e _ s m _ below meth c x.2.2.1 x.2.2.2.1 _ _ _ (F0 m 3 x.2.2.2.2 [])) (fun x => x.1 ≤ 21 ∧ va_P (dC, dI) vwCl [(sc, .inr (7, [.ref sw, .ref sh])), (sw, .inl (csw, 21, .inr (.inl fw))), (sh, .inl (csh, 21, .inl x.2.1)), (q0, .inr (3, []))] x.2.2.1 ∧ va_D A [(sc, .inr (7, [.ref sw, .ref sh])), (sw, .inl (csw, 21, .inr (.inl fw))), (sh, .inl (csh, 21, .inl x.2.1)), (q0, .inr (3, []))] ∧ va_S A s.heap x.2.2.1 x.2.2.2.1 ∧ lv_has x.2.2.2.2 6 [(4, .int (nI x.1)), (0, .ref sc), (1, .ref q0), (2, .int na), (3, .int nb)]) (fun x => 21 - x.1) ?_ (0, fh, s.heap, [], ls) ⟨by omega, hP, hD, hS, hl⟩
  rintro ⟨k_1, f_6, H, locs, ls⟩ ⟨hi_11_0, hP, hD, hS, hl⟩ ih_12
  dsimp only at hi_11_0 hP hD hS hl ih_12 ⊢
  refine lv_iload hx hb dX7_addCounts_3 (lv_at hl 0 rfl) ?_
  refine lv_aload_n hx hb dX7_addCounts_5 rfl (lv_at hl 1 rfl) ?_
  refine va_get (D := (dC, dI)) (ci := 7) (v := .ref sh) (C := RX7) (T := TX7) (N := 2) hx hb hts iw_s_add_X3_X7 hown hK hP 0 rfl rfl 1 (by decide) (hts (.fieldLink RX7 15 "ThriceCounted$Scale" "chances" "[I") (by decide +kernel)) (fun _ h9 => h9) rfl dX7_addCounts_6 ?_
  refine va_alen (v := 21) hx hb hK hP 2 1 rfl rfl rfl dX7_addCounts_9 ?_
  refine lv_icmp_ge (tgt := 27) hx hb dX7_addCounts_10 (by decide) (fun c_13 => ?_) (fun c_13 => ?_)
  · have hn_14 : 21 ≤ k_1 := (nI_leI (a := 21) (b := k_1) (by omega) (by omega)).mp c_13
    refine lv_iconst (v := 0) hx hb dX7_addCounts_27 (by decide) ?_
    refine lv_istore (lv' := [(4, .int 0), (0, .ref sc), (1, .ref q0), (2, .int na), (3, .int nb)]) hx hb dX7_addCounts_28 hl (by decide) rfl (fun ls hl => ?_)
    refine tz_while (σ := Nat × (Nat → Int32) × Heap × List Loc × Array Slot) (fun x => W p l e _ s m _ below meth c x.2.2.1 x.2.2.2.1 _ _ _ (F0 m 30 x.2.2.2.2 [])) (fun x => x.1 ≤ 20 ∧ va_P (dC, dI) vwCl [(sc, .inr (7, [.ref sw, .ref sh])), (sw, .inl (csw, 21, .inr (.inl fw))), (sh, .inl (csh, 21, .inl x.2.1)), (q0, .inr (3, []))] x.2.2.1 ∧ va_D A [(sc, .inr (7, [.ref sw, .ref sh])), (sw, .inl (csw, 21, .inr (.inl fw))), (sh, .inl (csh, 21, .inl x.2.1)), (q0, .inr (3, []))] ∧ va_S A s.heap x.2.2.1 x.2.2.2.1 ∧ lv_has x.2.2.2.2 6 [(4, .int (nI x.1)), (0, .ref sc), (1, .ref q0), (2, .int na), (3, .int nb)]) (fun x => 20 - x.1) ?_ (0, f_6, H, locs, ls) ⟨by omega, hP, hD, hS, hl⟩
    rintro ⟨k_15, f_30, H, locs, ls⟩ ⟨hi_45_0, hP, hD, hS, hl⟩ ih_46
    dsimp only at hi_45_0 hP hD hS hl ih_46 ⊢
    refine lv_iload hx hb dX7_addCounts_30 (lv_at hl 0 rfl) ?_
    refine lv_bipush (v := 20) hx hb dX7_addCounts_32 (by decide) ?_
    refine lv_icmp_ge (tgt := 82) hx hb dX7_addCounts_34 (by decide) (fun c_47 => ?_) (fun c_47 => ?_)
    · have hn_48 : 20 ≤ k_15 := (nI_leI (a := 20) (b := k_15) (by omega) (by omega)).mp c_47
      refine lv_iconst (v := 0) hx hb dX7_addCounts_82 (by decide) ?_
      refine lv_istore (lv' := [(4, .int 0), (0, .ref sc), (1, .ref q0), (2, .int na), (3, .int nb)]) hx hb dX7_addCounts_83 hl (by decide) rfl (fun ls hl => ?_)
      refine tz_while (σ := Int32 × (Nat → Int64) × Heap × List Loc × Array Slot) (fun x => W p l e _ s m _ below meth c x.2.2.1 x.2.2.2.1 _ _ _ (F0 m 85 x.2.2.2.2 [])) (fun x => va_P (dC, dI) vwCl [(sc, .inr (7, [.ref sw, .ref sh])), (sw, .inl (csw, 21, .inr (.inl x.2.1))), (sh, .inl (csh, 21, .inl f_30)), (q0, .inr (3, []))] x.2.2.1 ∧ va_D A [(sc, .inr (7, [.ref sw, .ref sh])), (sw, .inl (csw, 21, .inr (.inl x.2.1))), (sh, .inl (csh, 21, .inl f_30)), (q0, .inr (3, []))] ∧ va_S A s.heap x.2.2.1 x.2.2.2.1 ∧ lv_has x.2.2.2.2 6 [(4, .int x.1), (0, .ref sc), (1, .ref q0), (2, .int na), (3, .int nb)]) (fun x => (nb.toInt - x.1.toInt).toNat) ?_ (0, fw, H, locs, ls) ⟨hP, hD, hS, hl⟩
      rintro ⟨v_84, f_85, H, locs, ls⟩ ⟨hP, hD, hS, hl⟩ ih_121
      dsimp only at hP hD hS hl ih_121 ⊢
      refine lv_iload hx hb dX7_addCounts_85 (lv_at hl 0 rfl) ?_
      refine lv_iload_n hx hb dX7_addCounts_87 rfl (lv_at hl 4 rfl) ?_
      refine lv_icmp_ge (tgt := 144) hx hb dX7_addCounts_88 (by decide) (fun c_122 => ?_) (fun c_122 => ?_)
      · have hP9 := hP.sub (ws' := [(sc, .inr (7, [.ref sw, .ref sh])), (sw, .inl (csw, 21, .inr (.inl f_85))), (sh, .inl (csh, 21, .inl f_30)), (q0, .inr (3, []))]) [0, 1, 2, 3] rfl
        have hD9 := hD.sub (ws' := [(sc, .inr (7, [.ref sw, .ref sh])), (sw, .inl (csw, 21, .inr (.inl f_85))), (sh, .inl (csh, 21, .inl f_30)), (q0, .inr (3, []))]) [0, 1, 2, 3] (by decide) rfl
        have hK9 := hK.sub (tys' := [(csw, .long), (csh, .int)]) [0, 1] rfl
        exact W.vret hx hb hr (fun t ht hW => ⟨⟨(), rfl, trivial, f_85, f_30, by rw [ht]; exact hP9, va_K.moved hW.alike hK9, hD9⟩, hS.F ht⟩) hS.2.2 dX7_addCounts_144
      · refine lv_iconst (v := 0) hx hb dX7_addCounts_91 (by decide) ?_
        refine lv_istore (lv' := [(5, .int 0), (4, .int v_84), (0, .ref sc), (1, .ref q0), (2, .int na), (3, .int nb)]) hx hb dX7_addCounts_92 hl (by decide) rfl (fun ls hl => ?_)
        refine tz_while (σ := Nat × (Nat → Int64) × Heap × List Loc × Array Slot) (fun x => W p l e _ s m _ below meth c x.2.2.1 x.2.2.2.1 _ _ _ (F0 m 94 x.2.2.2.2 [])) (fun x => x.1 ≤ 21 ∧ va_P (dC, dI) vwCl [(sc, .inr (7, [.ref sw, .ref sh])), (sw, .inl (csw, 21, .inr (.inl x.2.1))), (sh, .inl (csh, 21, .inl f_30)), (q0, .inr (3, []))] x.2.2.1 ∧ va_D A [(sc, .inr (7, [.ref sw, .ref sh])), (sw, .inl (csw, 21, .inr (.inl x.2.1))), (sh, .inl (csh, 21, .inl f_30)), (q0, .inr (3, []))] ∧ va_S A s.heap x.2.2.1 x.2.2.2.1 ∧ lv_has x.2.2.2.2 6 [(5, .int (nI x.1)), (4, .int v_84), (0, .ref sc), (1, .ref q0), (2, .int na), (3, .int nb)]) (fun x => 21 - x.1) ?_ (0, f_85, H, locs, ls) ⟨by omega, hP, hD, hS, hl⟩
        rintro ⟨k_123, f_134, H, locs, ls⟩ ⟨hi_145_0, hP, hD, hS, hl⟩ ih_146
        dsimp only at hi_145_0 hP hD hS hl ih_146 ⊢
        refine lv_iload hx hb dX7_addCounts_94 (lv_at hl 0 rfl) ?_
        refine lv_aload_n hx hb dX7_addCounts_96 rfl (lv_at hl 2 rfl) ?_
        refine va_get (D := (dC, dI)) (ci := 7) (v := .ref sw) (C := RX7) (T := TX7) (N := 2) hx hb hts iw_s_add_X3_X7 hown hK hP 0 rfl rfl 0 (by decide) (hts (.fieldLink RX7 9 "ThriceCounted$Scale" "weights" "[J") (by decide +kernel)) (fun _ h9 => h9) rfl dX7_addCounts_97 ?_
        refine va_alen (v := 21) hx hb hK hP 1 0 rfl rfl rfl dX7_addCounts_100 ?_
        refine lv_icmp_ge (tgt := 138) hx hb dX7_addCounts_101 (by decide) (fun c_147 => ?_) (fun c_147 => ?_)
        · have hn_148 : 21 ≤ k_123 := (nI_leI (a := 21) (b := k_123) (by omega) (by omega)).mp c_147
          refine lv_iinc (v := (v_84 + 1)) (lv' := [(4, .int (v_84 + 1)), (5, .int (nI k_123)), (0, .ref sc), (1, .ref q0), (2, .int na), (3, .int nb)]) hx hb dX7_addCounts_138 hl (k := 1) rfl rfl (by decide) rfl (fun ls hl => ?_)
          refine lv_goto (tgt := 85) hx hb dX7_addCounts_141 (by decide) ?_
          exact ih_121 ((v_84 + 1), f_134, H, locs, ls) ⟨hP, hD, hS, lv_sub hl [0, 2, 3, 4, 5] rfl⟩ (tz_mu c_122)
        · have hn_149 : ¬ 21 ≤ k_123 := fun q => c_147 ((nI_leI (a := 21) (b := k_123) (by omega) (by omega)).mpr q)
          refine lv_iload hx hb dX7_addCounts_104 (lv_at hl 0 rfl) ?_
          refine lv_aload_n hx hb dX7_addCounts_106 rfl (lv_at hl 2 rfl) ?_
          refine va_get (D := (dC, dI)) (ci := 7) (v := .ref sh) (C := RX7) (T := TX7) (N := 2) hx hb hts iw_s_add_X3_X7 hown hK hP 0 rfl rfl 1 (by decide) (hts (.fieldLink RX7 15 "ThriceCounted$Scale" "chances" "[I") (by decide +kernel)) (fun _ h9 => h9) rfl dX7_addCounts_107 ?_
          refine va_alen (v := 21) hx hb hK hP 2 1 rfl rfl rfl dX7_addCounts_110 ?_
          refine lv_icmp_ge (tgt := 138) hx hb dX7_addCounts_111 (by decide) (fun c_150 => ?_) (fun c_150 => ?_)
          · have hn_151 : 21 ≤ k_123 := (nI_leI (a := 21) (b := k_123) (by omega) (by omega)).mp c_150
            refine lv_iinc (v := (v_84 + 1)) (lv' := [(4, .int (v_84 + 1)), (5, .int (nI k_123)), (0, .ref sc), (1, .ref q0), (2, .int na), (3, .int nb)]) hx hb dX7_addCounts_138 hl (k := 1) rfl rfl (by decide) rfl (fun ls hl => ?_)
            refine lv_goto (tgt := 85) hx hb dX7_addCounts_141 (by decide) ?_
            exact ih_121 ((v_84 + 1), f_134, H, locs, ls) ⟨hP, hD, hS, lv_sub hl [0, 2, 3, 4, 5] rfl⟩ (tz_mu c_122)
          · have hn_152 : ¬ 21 ≤ k_123 := fun q => c_150 ((nI_leI (a := 21) (b := k_123) (by omega) (by omega)).mpr q)
            refine lv_aload_n hx hb dX7_addCounts_114 rfl (lv_at hl 2 rfl) ?_
            refine va_get (D := (dC, dI)) (ci := 7) (v := .ref sw) (C := RX7) (T := TX7) (N := 2) hx hb hts iw_s_add_X3_X7 hown hK hP 0 rfl rfl 0 (by decide) (hts (.fieldLink RX7 9 "ThriceCounted$Scale" "weights" "[J") (by decide +kernel)) (fun _ h9 => h9) rfl dX7_addCounts_115 ?_
            refine lv_iload hx hb dX7_addCounts_118 (lv_at hl 0 rfl) ?_
            refine lv_dup2_11 hx hb dX7_addCounts_120 rfl rfl ?_
            refine va_lald hx hb hK hP 1 0 rfl rfl (vp_in_nI (n := k_123) (N := 21) (by omega) (by decide)) dX7_addCounts_121 ?_
            refine lv_topl (fun x_153 _ => ?_)
            refine lv_aload_n hx hb dX7_addCounts_122 rfl (lv_at hl 2 rfl) ?_
            refine va_get (D := (dC, dI)) (ci := 7) (v := .ref sh) (C := RX7) (T := TX7) (N := 2) hx hb hts iw_s_add_X3_X7 hown hK hP 0 rfl rfl 1 (by decide) (hts (.fieldLink RX7 15 "ThriceCounted$Scale" "chances" "[I") (by decide +kernel)) (fun _ h9 => h9) rfl dX7_addCounts_123 ?_
            refine lv_iload hx hb dX7_addCounts_126 (lv_at hl 0 rfl) ?_
            refine va_iald hx hb hK hP 2 1 rfl rfl (vp_in_nI (n := k_123) (N := 21) (by omega) (by decide)) dX7_addCounts_128 ?_
            refine lv_topi (fun x_154 _ => ?_)
            refine lv_i2l (v := x_154.toInt64) hx hb dX7_addCounts_129 rfl ?_
            refine lv_lmul hx hb dX7_addCounts_130 ?_
            refine lv_topl (fun x_155 _ => ?_)
            refine va_last hx hb hK hP hD hS 1 0 rfl rfl (vp_in_nI (n := k_123) (N := 21) (by omega) (by decide)) dX7_addCounts_131 (fun H locs hP hD hS => ?_)
            generalize (vp_updL f_134 (Int32.toNatClampNeg (nI k_123)) x_155) = f_156 at hP hD
            have hP : va_P (dC, dI) vwCl [(sc, .inr (7, [.ref sw, .ref sh])), (sw, .inl (csw, 21, .inr (.inl f_156))), (sh, .inl (csh, 21, .inl f_30)), (q0, .inr (3, []))] H := hP
            have hD : va_D A [(sc, .inr (7, [.ref sw, .ref sh])), (sw, .inl (csw, 21, .inr (.inl f_156))), (sh, .inl (csh, 21, .inl f_30)), (q0, .inr (3, []))] := hD
            refine lv_iinc (v := (nI (k_123 + 1))) (lv' := [(5, .int (nI (k_123 + 1))), (4, .int v_84), (0, .ref sc), (1, .ref q0), (2, .int na), (3, .int nb)]) hx hb dX7_addCounts_132 hl (k := 0) rfl (nI_add k_123 1) (by decide) rfl (fun ls hl => ?_)
            refine lv_goto (tgt := 94) hx hb dX7_addCounts_135 (by decide) ?_
            exact ih_146 ((k_123 + 1), f_156, H, locs, ls) ⟨by dsimp only; omega, hP, hD, hS, lv_sub hl [0, 1, 2, 3, 4, 5] rfl⟩ (by dsimp only; omega)
    · have hn_157 : ¬ 20 ≤ k_15 := fun q => c_47 ((nI_leI (a := 20) (b := k_15) (by omega) (by omega)).mpr q)
      refine lv_iload_n hx hb dX7_addCounts_37 rfl (lv_at hl 3 rfl) ?_
      refine lv_aload_n hx hb dX7_addCounts_38 rfl (lv_at hl 2 rfl) ?_
      refine lv_iload hx hb dX7_addCounts_39 (lv_at hl 0 rfl) ?_
      have hPc_158 := hP.sub (ws' := [(q0, .inr (3, []))]) [3] rfl
      have hKc_159 := hK.sub (tys' := []) [] rfl
      refine vp_callSi (va_Run.run (va_runU (C := RX3) (As := [.int (nI k_15)]) (rest := [.int na]) ⟨hx, hb, hml, hown, hts⟩ (k_slip_X3 l dC dI q0 (nI k_15)) (va_cwO 1 hts gX7_addCounts_X3_slip_u49X3 rfl rfl rfl (b0 := cX4_slip) (m0 := 2) (r0 := (some .int)) (by decide +kernel) (by decide +kernel) ⟨Nat.le_of_ble_eq_true rfl, Nat.le_of_ble_eq_true rfl⟩) ⟨fun a U g mk q => by obtain ⟨q0, qP, qK⟩ := q; exact ⟨q0, qP, va_K.moved (u := U) (U := U.calling g mk a) (Vm.Alike.refl U.vm) qK⟩, va_recv hK hP (ci := 3) (q0 := 3) rfl rfl, fun U hU hW => ⟨rfl, by rw [hU]; exact hPc_158, va_K.moved hW.alike hKc_159⟩⟩ rfl rfl hl.1 rfl (lv_room (Nat.le_of_ble_eq_true rfl)) dX7_addCounts_41 ⟨Nat.le_of_ble_eq_true rfl, Nat.le_of_ble_eq_true rfl⟩)) (fun r_160 hw_161 => ?_)
      obtain rfl : (zH (nI k_15)) = r_160 := hw_161.symm
      refine lv_isub hx hb dX7_addCounts_44 ?_
      refine lv_topi (fun x_162 _ => ?_)
      refine lv_bipush (v := 90) hx hb dX7_addCounts_45 (by decide) ?_
      refine lv_isub hx hb dX7_addCounts_47 ?_
      refine lv_topi (fun x_163 _ => ?_)
      refine lv_istore (lv' := [(5, .int x_163), (4, .int (nI k_15)), (0, .ref sc), (1, .ref q0), (2, .int na), (3, .int nb)]) hx hb dX7_addCounts_48 hl (by decide) rfl (fun ls hl => ?_)
      refine lv_iload hx hb dX7_addCounts_50 (lv_at hl 0 rfl) ?_
      refine lv_if_lt (tgt := 76) hx hb dX7_addCounts_52 (by decide) (fun c_164 => ?_) (fun c_164 => ?_)
      · refine lv_iinc (v := (nI (k_15 + 1))) (lv' := [(4, .int (nI (k_15 + 1))), (5, .int x_163), (0, .ref sc), (1, .ref q0), (2, .int na), (3, .int nb)]) hx hb dX7_addCounts_76 hl (k := 1) rfl (nI_add k_15 1) (by decide) rfl (fun ls hl => ?_)
        refine lv_goto (tgt := 30) hx hb dX7_addCounts_79 (by decide) ?_
        exact ih_46 ((k_15 + 1), f_30, H, locs, ls) ⟨by dsimp only; omega, hP, hD, hS, lv_sub hl [0, 2, 3, 4, 5] rfl⟩ (by dsimp only; omega)
      · refine lv_iload hx hb dX7_addCounts_55 (lv_at hl 0 rfl) ?_
        refine lv_aload_n hx hb dX7_addCounts_57 rfl (lv_at hl 2 rfl) ?_
        refine va_get (D := (dC, dI)) (ci := 7) (v := .ref sh) (C := RX7) (T := TX7) (N := 2) hx hb hts iw_s_add_X3_X7 hown hK hP 0 rfl rfl 1 (by decide) (hts (.fieldLink RX7 15 "ThriceCounted$Scale" "chances" "[I") (by decide +kernel)) (fun _ h9 => h9) rfl dX7_addCounts_58 ?_
        refine va_alen (v := 21) hx hb hK hP 2 1 rfl rfl rfl dX7_addCounts_61 ?_
        refine lv_icmp_ge (tgt := 76) hx hb dX7_addCounts_62 (by decide) (fun c_165 => ?_) (fun c_165 => ?_)
        · refine lv_iinc (v := (nI (k_15 + 1))) (lv' := [(4, .int (nI (k_15 + 1))), (5, .int x_163), (0, .ref sc), (1, .ref q0), (2, .int na), (3, .int nb)]) hx hb dX7_addCounts_76 hl (k := 1) rfl (nI_add k_15 1) (by decide) rfl (fun ls hl => ?_)
          refine lv_goto (tgt := 30) hx hb dX7_addCounts_79 (by decide) ?_
          exact ih_46 ((k_15 + 1), f_30, H, locs, ls) ⟨by dsimp only; omega, hP, hD, hS, lv_sub hl [0, 2, 3, 4, 5] rfl⟩ (by dsimp only; omega)
        · refine lv_aload_n hx hb dX7_addCounts_65 rfl (lv_at hl 2 rfl) ?_
          refine va_get (D := (dC, dI)) (ci := 7) (v := .ref sh) (C := RX7) (T := TX7) (N := 2) hx hb hts iw_s_add_X3_X7 hown hK hP 0 rfl rfl 1 (by decide) (hts (.fieldLink RX7 15 "ThriceCounted$Scale" "chances" "[I") (by decide +kernel)) (fun _ h9 => h9) rfl dX7_addCounts_66 ?_
          refine lv_iload hx hb dX7_addCounts_69 (lv_at hl 0 rfl) ?_
          refine lv_dup2_11 hx hb dX7_addCounts_71 rfl rfl ?_
          refine va_iald hx hb hK hP 2 1 rfl rfl (tz_in_le c_164 c_165 (M := 21) (by decide)) dX7_addCounts_72 ?_
          refine lv_topi (fun x_166 _ => ?_)
          refine lv_iconst (v := 1) hx hb dX7_addCounts_73 (by decide) ?_
          refine lv_iadd hx hb dX7_addCounts_74 ?_
          refine lv_topi (fun x_167 _ => ?_)
          refine va_iast hx hb hK hP hD hS 2 1 rfl rfl (tz_in_le c_164 c_165 (M := 21) (by decide)) dX7_addCounts_75 (fun H locs hP hD hS => ?_)
          generalize (upd f_30 (Int32.toNatClampNeg x_163) x_167) = f_168 at hP hD
          have hP : va_P (dC, dI) vwCl [(sc, .inr (7, [.ref sw, .ref sh])), (sw, .inl (csw, 21, .inr (.inl fw))), (sh, .inl (csh, 21, .inl f_168)), (q0, .inr (3, []))] H := hP
          have hD : va_D A [(sc, .inr (7, [.ref sw, .ref sh])), (sw, .inl (csw, 21, .inr (.inl fw))), (sh, .inl (csh, 21, .inl f_168)), (q0, .inr (3, []))] := hD
          refine lv_iinc (v := (nI (k_15 + 1))) (lv' := [(4, .int (nI (k_15 + 1))), (5, .int x_163), (0, .ref sc), (1, .ref q0), (2, .int na), (3, .int nb)]) hx hb dX7_addCounts_76 hl (k := 1) rfl (nI_add k_15 1) (by decide) rfl (fun ls hl => ?_)
          refine lv_goto (tgt := 30) hx hb dX7_addCounts_79 (by decide) ?_
          exact ih_46 ((k_15 + 1), f_168, H, locs, ls) ⟨by dsimp only; omega, hP, hD, hS, lv_sub hl [0, 2, 3, 4, 5] rfl⟩ (by dsimp only; omega)
  · have hn_169 : ¬ 21 ≤ k_1 := fun q => c_13 ((nI_leI (a := 21) (b := k_1) (by omega) (by omega)).mpr q)
    refine lv_aload_n hx hb dX7_addCounts_13 rfl (lv_at hl 1 rfl) ?_
    refine va_get (D := (dC, dI)) (ci := 7) (v := .ref sh) (C := RX7) (T := TX7) (N := 2) hx hb hts iw_s_add_X3_X7 hown hK hP 0 rfl rfl 1 (by decide) (hts (.fieldLink RX7 15 "ThriceCounted$Scale" "chances" "[I") (by decide +kernel)) (fun _ h9 => h9) rfl dX7_addCounts_14 ?_
    refine lv_iload hx hb dX7_addCounts_17 (lv_at hl 0 rfl) ?_
    refine lv_iconst (v := 0) hx hb dX7_addCounts_19 (by decide) ?_
    refine va_iast hx hb hK hP hD hS 2 1 rfl rfl (vp_in_nI (n := k_1) (N := 21) (by omega) (by decide)) dX7_addCounts_20 (fun H locs hP hD hS => ?_)
    generalize (upd f_6 (Int32.toNatClampNeg (nI k_1)) 0) = f_170 at hP hD
    have hP : va_P (dC, dI) vwCl [(sc, .inr (7, [.ref sw, .ref sh])), (sw, .inl (csw, 21, .inr (.inl fw))), (sh, .inl (csh, 21, .inl f_170)), (q0, .inr (3, []))] H := hP
    have hD : va_D A [(sc, .inr (7, [.ref sw, .ref sh])), (sw, .inl (csw, 21, .inr (.inl fw))), (sh, .inl (csh, 21, .inl f_170)), (q0, .inr (3, []))] := hD
    refine lv_iinc (v := (nI (k_1 + 1))) (lv' := [(4, .int (nI (k_1 + 1))), (0, .ref sc), (1, .ref q0), (2, .int na), (3, .int nb)]) hx hb dX7_addCounts_21 hl (k := 0) rfl (nI_add k_1 1) (by decide) rfl (fun ls hl => ?_)
    refine lv_goto (tgt := 3) hx hb dX7_addCounts_24 (by decide) ?_
    exact ih_12 ((k_1 + 1), f_170, H, locs, ls) ⟨by dsimp only; omega, hP, hD, hS, lv_sub hl [0, 1, 2, 3, 4] rfl⟩ (by dsimp only; omega)
set_option maxRecDepth 20000 in
theorem ggX7_addCounts_X9_slip : GoodIn wsX7_addCounts wsX9_slip := goodIn_r _ [36, 37, 4, 38, 12, 13, 14] (by decide +kernel) (by decide +kernel)
set_option maxRecDepth 20000 in
theorem gX7_addCounts_X9_slip_u49X9 : GoodIn wsX7_addCounts (va_wsO RX7 49 RX9 "ThriceCounted$Ones" ⟨"ThriceCounted$Ones", "slip", "(I)I"⟩ yX9_slip wsX9_slip) := goodIn_app (goodIn_of _ (by decide +kernel)) ggX7_addCounts_X9_slip
set_option maxRecDepth 20000 in
theorem iw_s_add_X9_X7 : ∀ w ∈ wsX70, w ∈ wsX7_addCounts := by decide +kernel
set_option maxHeartbeats 4000000 in
set_option maxRecDepth 100000 in
theorem s_add_X9 (l : Launch) (dC : Nat → ClassId) (dI : Nat → Nat → Nat) (sc : Nat) (sw : Nat) (sh : Nat) (csw : ClassId) (fw : Nat → Int64) (csh : ClassId) (fh : Nat → Int32) (q0 : Nat) (na : Int32) (nb : Int32) (sz : Nat) : Met l yX7_addCounts wsX7_addCounts ({ frames := 2, cells := 0, slots := 0, locals := 42 }) (va_Pc [.ref sc, .ref q0, .int na, .int nb] (fun U => U.heap.size = sz ∧ va_P (dC, dI) vwCl [(sc, .inr (7, [.ref sw, .ref sh])), (sw, .inl (csw, 21, .inr (.inl fw))), (sh, .inl (csh, 21, .inl fh)), (q0, .inr (9, []))] U.heap ∧ va_K (dC, dI) vwCl [(csw, .long), (csh, .int)] U ∧ va_D (fun _ => True) [(sc, .inr (7, [.ref sw, .ref sh])), (sw, .inl (csw, 21, .inr (.inl fw))), (sh, .inl (csh, 21, .inl fh)), (q0, .inr (9, []))])) (va_Qv (fun (_ : Unit) => True) (fun _ t => ∃ (gw : Nat → Int64) (gh : Nat → Int32), va_P (dC, dI) vwCl [(sc, .inr (7, [.ref sw, .ref sh])), (sw, .inl (csw, 21, .inr (.inl gw))), (sh, .inl (csh, 21, .inl gh)), (q0, .inr (9, []))] t.heap ∧ va_K (dC, dI) vwCl [(csw, .long), (csh, .int)] t ∧ va_D (va_A [(sc, .inr (7, [.ref sw, .ref sh])), (sw, .inl (csw, 21, .inr (.inl fw))), (sh, .inl (csh, 21, .inl fh)), (q0, .inr (9, []))] sz) [(sc, .inr (7, [.ref sw, .ref sh])), (sw, .inl (csw, 21, .inr (.inl gw))), (sh, .inl (csh, 21, .inl gh)), (q0, .inr (9, []))]) (va_A [(sc, .inr (7, [.ref sw, .ref sh])), (sw, .inl (csw, 21, .inr (.inl fw))), (sh, .inl (csh, 21, .inl fh)), (q0, .inr (9, []))] sz)) 0 0 (va_A [(sc, .inr (7, [.ref sw, .ref sh])), (sw, .inl (csw, 21, .inr (.inl fw))), (sh, .inl (csh, 21, .inl fh)), (q0, .inr (9, []))] sz) := by
  refine Met.ofW (cc := cX7_addCounts) (maxL := 6) (ret := none) (by decide) rfl ?_
  intro p e s m args below meth c s₁ B hml hv
  obtain ⟨rfl, hsz, hP, hK, hD0⟩ := hv
  have hx := B.exec
  have hb := B.bytes
  have hr := B.returns
  have hts := atoms_spec (ws := wsX7_addCounts) B.pre
  have hown : s.vm.findClass RX7 = some m.cls := findClass_of_methodNamed B.named
  have hlocks := B.notSynchronized
  subst hsz
  have hD := hD0.self (sz := s.heap.size)
  generalize hAe : va_A [(sc, .inr (7, [.ref sw, .ref sh])), (sw, .inl (csw, 21, .inr (.inl fw))), (sh, .inl (csh, 21, .inl fh)), (q0, .inr (9, []))] s.heap.size = A at hD ⊢
  have hA : ∀ q : Nat, s.heap.size ≤ q → A q := fun q h => by rw [← hAe]; exact Or.inr h
  have hS : va_S A s.heap s.heap [] := va_S.rf
  have hP : va_P (dC, dI) vwCl [(sc, .inr (7, [.ref sw, .ref sh])), (sw, .inl (csw, 21, .inr (.inl fw))), (sh, .inl (csh, 21, .inl fh)), (q0, .inr (9, []))] s.heap := hP
  have hl := lv_entry ([.ref sc, .ref q0, .int na, .int nb]) (n := 6) (Nat.le_of_ble_eq_true rfl)
  rw [lg_entry_eq]
  generalize (lg_sl ([.ref sc, .ref q0, .int na, .int nb]) ++ List.replicate (6 - (lg_sl ([.ref sc, .ref q0, .int na, .int nb])).length) Slot.unset).toArray = ls at hl ⊢
  have hl : lv_has ls 6 [(0, .ref sc), (1, .ref q0), (2, .int na), (3, .int nb)] := hl
  refine lv_iconst (v := 0) hx hb dX7_addCounts_0 (by decide) ?_
  refine lv_istore (lv' := [(4, .int 0), (0, .ref sc), (1, .ref q0), (2, .int na), (3, .int nb)]) hx hb dX7_addCounts_1 hl (by decide) rfl (fun ls hl => ?_)
  refine tz_while (σ := Nat × (Nat → Int32) × Heap × List Loc × Array Slot) (fun x => W p l e _ s m _ below meth c x.2.2.1 x.2.2.2.1 _ _ _ (F0 m 3 x.2.2.2.2 [])) (fun x => x.1 ≤ 21 ∧ va_P (dC, dI) vwCl [(sc, .inr (7, [.ref sw, .ref sh])), (sw, .inl (csw, 21, .inr (.inl fw))), (sh, .inl (csh, 21, .inl x.2.1)), (q0, .inr (9, []))] x.2.2.1 ∧ va_D A [(sc, .inr (7, [.ref sw, .ref sh])), (sw, .inl (csw, 21, .inr (.inl fw))), (sh, .inl (csh, 21, .inl x.2.1)), (q0, .inr (9, []))] ∧ va_S A s.heap x.2.2.1 x.2.2.2.1 ∧ lv_has x.2.2.2.2 6 [(4, .int (nI x.1)), (0, .ref sc), (1, .ref q0), (2, .int na), (3, .int nb)]) (fun x => 21 - x.1) ?_ (0, fh, s.heap, [], ls) ⟨by omega, hP, hD, hS, hl⟩
  rintro ⟨k_1, f_6, H, locs, ls⟩ ⟨hi_11_0, hP, hD, hS, hl⟩ ih_12
  dsimp only at hi_11_0 hP hD hS hl ih_12 ⊢
  refine lv_iload hx hb dX7_addCounts_3 (lv_at hl 0 rfl) ?_
  refine lv_aload_n hx hb dX7_addCounts_5 rfl (lv_at hl 1 rfl) ?_
  refine va_get (D := (dC, dI)) (ci := 7) (v := .ref sh) (C := RX7) (T := TX7) (N := 2) hx hb hts iw_s_add_X9_X7 hown hK hP 0 rfl rfl 1 (by decide) (hts (.fieldLink RX7 15 "ThriceCounted$Scale" "chances" "[I") (by decide +kernel)) (fun _ h9 => h9) rfl dX7_addCounts_6 ?_
  refine va_alen (v := 21) hx hb hK hP 2 1 rfl rfl rfl dX7_addCounts_9 ?_
  refine lv_icmp_ge (tgt := 27) hx hb dX7_addCounts_10 (by decide) (fun c_13 => ?_) (fun c_13 => ?_)
  · have hn_14 : 21 ≤ k_1 := (nI_leI (a := 21) (b := k_1) (by omega) (by omega)).mp c_13
    refine lv_iconst (v := 0) hx hb dX7_addCounts_27 (by decide) ?_
    refine lv_istore (lv' := [(4, .int 0), (0, .ref sc), (1, .ref q0), (2, .int na), (3, .int nb)]) hx hb dX7_addCounts_28 hl (by decide) rfl (fun ls hl => ?_)
    refine tz_while (σ := Nat × (Nat → Int32) × Heap × List Loc × Array Slot) (fun x => W p l e _ s m _ below meth c x.2.2.1 x.2.2.2.1 _ _ _ (F0 m 30 x.2.2.2.2 [])) (fun x => x.1 ≤ 20 ∧ va_P (dC, dI) vwCl [(sc, .inr (7, [.ref sw, .ref sh])), (sw, .inl (csw, 21, .inr (.inl fw))), (sh, .inl (csh, 21, .inl x.2.1)), (q0, .inr (9, []))] x.2.2.1 ∧ va_D A [(sc, .inr (7, [.ref sw, .ref sh])), (sw, .inl (csw, 21, .inr (.inl fw))), (sh, .inl (csh, 21, .inl x.2.1)), (q0, .inr (9, []))] ∧ va_S A s.heap x.2.2.1 x.2.2.2.1 ∧ lv_has x.2.2.2.2 6 [(4, .int (nI x.1)), (0, .ref sc), (1, .ref q0), (2, .int na), (3, .int nb)]) (fun x => 20 - x.1) ?_ (0, f_6, H, locs, ls) ⟨by omega, hP, hD, hS, hl⟩
    rintro ⟨k_15, f_30, H, locs, ls⟩ ⟨hi_45_0, hP, hD, hS, hl⟩ ih_46
    dsimp only at hi_45_0 hP hD hS hl ih_46 ⊢
    refine lv_iload hx hb dX7_addCounts_30 (lv_at hl 0 rfl) ?_
    refine lv_bipush (v := 20) hx hb dX7_addCounts_32 (by decide) ?_
    refine lv_icmp_ge (tgt := 82) hx hb dX7_addCounts_34 (by decide) (fun c_47 => ?_) (fun c_47 => ?_)
    · have hn_48 : 20 ≤ k_15 := (nI_leI (a := 20) (b := k_15) (by omega) (by omega)).mp c_47
      refine lv_iconst (v := 0) hx hb dX7_addCounts_82 (by decide) ?_
      refine lv_istore (lv' := [(4, .int 0), (0, .ref sc), (1, .ref q0), (2, .int na), (3, .int nb)]) hx hb dX7_addCounts_83 hl (by decide) rfl (fun ls hl => ?_)
      refine tz_while (σ := Int32 × (Nat → Int64) × Heap × List Loc × Array Slot) (fun x => W p l e _ s m _ below meth c x.2.2.1 x.2.2.2.1 _ _ _ (F0 m 85 x.2.2.2.2 [])) (fun x => va_P (dC, dI) vwCl [(sc, .inr (7, [.ref sw, .ref sh])), (sw, .inl (csw, 21, .inr (.inl x.2.1))), (sh, .inl (csh, 21, .inl f_30)), (q0, .inr (9, []))] x.2.2.1 ∧ va_D A [(sc, .inr (7, [.ref sw, .ref sh])), (sw, .inl (csw, 21, .inr (.inl x.2.1))), (sh, .inl (csh, 21, .inl f_30)), (q0, .inr (9, []))] ∧ va_S A s.heap x.2.2.1 x.2.2.2.1 ∧ lv_has x.2.2.2.2 6 [(4, .int x.1), (0, .ref sc), (1, .ref q0), (2, .int na), (3, .int nb)]) (fun x => (nb.toInt - x.1.toInt).toNat) ?_ (0, fw, H, locs, ls) ⟨hP, hD, hS, hl⟩
      rintro ⟨v_84, f_85, H, locs, ls⟩ ⟨hP, hD, hS, hl⟩ ih_121
      dsimp only at hP hD hS hl ih_121 ⊢
      refine lv_iload hx hb dX7_addCounts_85 (lv_at hl 0 rfl) ?_
      refine lv_iload_n hx hb dX7_addCounts_87 rfl (lv_at hl 4 rfl) ?_
      refine lv_icmp_ge (tgt := 144) hx hb dX7_addCounts_88 (by decide) (fun c_122 => ?_) (fun c_122 => ?_)
      · have hP9 := hP.sub (ws' := [(sc, .inr (7, [.ref sw, .ref sh])), (sw, .inl (csw, 21, .inr (.inl f_85))), (sh, .inl (csh, 21, .inl f_30)), (q0, .inr (9, []))]) [0, 1, 2, 3] rfl
        have hD9 := hD.sub (ws' := [(sc, .inr (7, [.ref sw, .ref sh])), (sw, .inl (csw, 21, .inr (.inl f_85))), (sh, .inl (csh, 21, .inl f_30)), (q0, .inr (9, []))]) [0, 1, 2, 3] (by decide) rfl
        have hK9 := hK.sub (tys' := [(csw, .long), (csh, .int)]) [0, 1] rfl
        exact W.vret hx hb hr (fun t ht hW => ⟨⟨(), rfl, trivial, f_85, f_30, by rw [ht]; exact hP9, va_K.moved hW.alike hK9, hD9⟩, hS.F ht⟩) hS.2.2 dX7_addCounts_144
      · refine lv_iconst (v := 0) hx hb dX7_addCounts_91 (by decide) ?_
        refine lv_istore (lv' := [(5, .int 0), (4, .int v_84), (0, .ref sc), (1, .ref q0), (2, .int na), (3, .int nb)]) hx hb dX7_addCounts_92 hl (by decide) rfl (fun ls hl => ?_)
        refine tz_while (σ := Nat × (Nat → Int64) × Heap × List Loc × Array Slot) (fun x => W p l e _ s m _ below meth c x.2.2.1 x.2.2.2.1 _ _ _ (F0 m 94 x.2.2.2.2 [])) (fun x => x.1 ≤ 21 ∧ va_P (dC, dI) vwCl [(sc, .inr (7, [.ref sw, .ref sh])), (sw, .inl (csw, 21, .inr (.inl x.2.1))), (sh, .inl (csh, 21, .inl f_30)), (q0, .inr (9, []))] x.2.2.1 ∧ va_D A [(sc, .inr (7, [.ref sw, .ref sh])), (sw, .inl (csw, 21, .inr (.inl x.2.1))), (sh, .inl (csh, 21, .inl f_30)), (q0, .inr (9, []))] ∧ va_S A s.heap x.2.2.1 x.2.2.2.1 ∧ lv_has x.2.2.2.2 6 [(5, .int (nI x.1)), (4, .int v_84), (0, .ref sc), (1, .ref q0), (2, .int na), (3, .int nb)]) (fun x => 21 - x.1) ?_ (0, f_85, H, locs, ls) ⟨by omega, hP, hD, hS, hl⟩
        rintro ⟨k_123, f_134, H, locs, ls⟩ ⟨hi_145_0, hP, hD, hS, hl⟩ ih_146
        dsimp only at hi_145_0 hP hD hS hl ih_146 ⊢
        refine lv_iload hx hb dX7_addCounts_94 (lv_at hl 0 rfl) ?_
        refine lv_aload_n hx hb dX7_addCounts_96 rfl (lv_at hl 2 rfl) ?_
        refine va_get (D := (dC, dI)) (ci := 7) (v := .ref sw) (C := RX7) (T := TX7) (N := 2) hx hb hts iw_s_add_X9_X7 hown hK hP 0 rfl rfl 0 (by decide) (hts (.fieldLink RX7 9 "ThriceCounted$Scale" "weights" "[J") (by decide +kernel)) (fun _ h9 => h9) rfl dX7_addCounts_97 ?_
        refine va_alen (v := 21) hx hb hK hP 1 0 rfl rfl rfl dX7_addCounts_100 ?_
        refine lv_icmp_ge (tgt := 138) hx hb dX7_addCounts_101 (by decide) (fun c_147 => ?_) (fun c_147 => ?_)
        · have hn_148 : 21 ≤ k_123 := (nI_leI (a := 21) (b := k_123) (by omega) (by omega)).mp c_147
          refine lv_iinc (v := (v_84 + 1)) (lv' := [(4, .int (v_84 + 1)), (5, .int (nI k_123)), (0, .ref sc), (1, .ref q0), (2, .int na), (3, .int nb)]) hx hb dX7_addCounts_138 hl (k := 1) rfl rfl (by decide) rfl (fun ls hl => ?_)
          refine lv_goto (tgt := 85) hx hb dX7_addCounts_141 (by decide) ?_
          exact ih_121 ((v_84 + 1), f_134, H, locs, ls) ⟨hP, hD, hS, lv_sub hl [0, 2, 3, 4, 5] rfl⟩ (tz_mu c_122)
        · have hn_149 : ¬ 21 ≤ k_123 := fun q => c_147 ((nI_leI (a := 21) (b := k_123) (by omega) (by omega)).mpr q)
          refine lv_iload hx hb dX7_addCounts_104 (lv_at hl 0 rfl) ?_
          refine lv_aload_n hx hb dX7_addCounts_106 rfl (lv_at hl 2 rfl) ?_
          refine va_get (D := (dC, dI)) (ci := 7) (v := .ref sh) (C := RX7) (T := TX7) (N := 2) hx hb hts iw_s_add_X9_X7 hown hK hP 0 rfl rfl 1 (by decide) (hts (.fieldLink RX7 15 "ThriceCounted$Scale" "chances" "[I") (by decide +kernel)) (fun _ h9 => h9) rfl dX7_addCounts_107 ?_
          refine va_alen (v := 21) hx hb hK hP 2 1 rfl rfl rfl dX7_addCounts_110 ?_
          refine lv_icmp_ge (tgt := 138) hx hb dX7_addCounts_111 (by decide) (fun c_150 => ?_) (fun c_150 => ?_)
          · have hn_151 : 21 ≤ k_123 := (nI_leI (a := 21) (b := k_123) (by omega) (by omega)).mp c_150
            refine lv_iinc (v := (v_84 + 1)) (lv' := [(4, .int (v_84 + 1)), (5, .int (nI k_123)), (0, .ref sc), (1, .ref q0), (2, .int na), (3, .int nb)]) hx hb dX7_addCounts_138 hl (k := 1) rfl rfl (by decide) rfl (fun ls hl => ?_)
            refine lv_goto (tgt := 85) hx hb dX7_addCounts_141 (by decide) ?_
            exact ih_121 ((v_84 + 1), f_134, H, locs, ls) ⟨hP, hD, hS, lv_sub hl [0, 2, 3, 4, 5] rfl⟩ (tz_mu c_122)
          · have hn_152 : ¬ 21 ≤ k_123 := fun q => c_150 ((nI_leI (a := 21) (b := k_123) (by omega) (by omega)).mpr q)
            refine lv_aload_n hx hb dX7_addCounts_114 rfl (lv_at hl 2 rfl) ?_
            refine va_get (D := (dC, dI)) (ci := 7) (v := .ref sw) (C := RX7) (T := TX7) (N := 2) hx hb hts iw_s_add_X9_X7 hown hK hP 0 rfl rfl 0 (by decide) (hts (.fieldLink RX7 9 "ThriceCounted$Scale" "weights" "[J") (by decide +kernel)) (fun _ h9 => h9) rfl dX7_addCounts_115 ?_
            refine lv_iload hx hb dX7_addCounts_118 (lv_at hl 0 rfl) ?_
            refine lv_dup2_11 hx hb dX7_addCounts_120 rfl rfl ?_
            refine va_lald hx hb hK hP 1 0 rfl rfl (vp_in_nI (n := k_123) (N := 21) (by omega) (by decide)) dX7_addCounts_121 ?_
            refine lv_topl (fun x_153 _ => ?_)
            refine lv_aload_n hx hb dX7_addCounts_122 rfl (lv_at hl 2 rfl) ?_
            refine va_get (D := (dC, dI)) (ci := 7) (v := .ref sh) (C := RX7) (T := TX7) (N := 2) hx hb hts iw_s_add_X9_X7 hown hK hP 0 rfl rfl 1 (by decide) (hts (.fieldLink RX7 15 "ThriceCounted$Scale" "chances" "[I") (by decide +kernel)) (fun _ h9 => h9) rfl dX7_addCounts_123 ?_
            refine lv_iload hx hb dX7_addCounts_126 (lv_at hl 0 rfl) ?_
            refine va_iald hx hb hK hP 2 1 rfl rfl (vp_in_nI (n := k_123) (N := 21) (by omega) (by decide)) dX7_addCounts_128 ?_
            refine lv_topi (fun x_154 _ => ?_)
            refine lv_i2l (v := x_154.toInt64) hx hb dX7_addCounts_129 rfl ?_
            refine lv_lmul hx hb dX7_addCounts_130 ?_
            refine lv_topl (fun x_155 _ => ?_)
            refine va_last hx hb hK hP hD hS 1 0 rfl rfl (vp_in_nI (n := k_123) (N := 21) (by omega) (by decide)) dX7_addCounts_131 (fun H locs hP hD hS => ?_)
            generalize (vp_updL f_134 (Int32.toNatClampNeg (nI k_123)) x_155) = f_156 at hP hD
            have hP : va_P (dC, dI) vwCl [(sc, .inr (7, [.ref sw, .ref sh])), (sw, .inl (csw, 21, .inr (.inl f_156))), (sh, .inl (csh, 21, .inl f_30)), (q0, .inr (9, []))] H := hP
            have hD : va_D A [(sc, .inr (7, [.ref sw, .ref sh])), (sw, .inl (csw, 21, .inr (.inl f_156))), (sh, .inl (csh, 21, .inl f_30)), (q0, .inr (9, []))] := hD
            refine lv_iinc (v := (nI (k_123 + 1))) (lv' := [(5, .int (nI (k_123 + 1))), (4, .int v_84), (0, .ref sc), (1, .ref q0), (2, .int na), (3, .int nb)]) hx hb dX7_addCounts_132 hl (k := 0) rfl (nI_add k_123 1) (by decide) rfl (fun ls hl => ?_)
            refine lv_goto (tgt := 94) hx hb dX7_addCounts_135 (by decide) ?_
            exact ih_146 ((k_123 + 1), f_156, H, locs, ls) ⟨by dsimp only; omega, hP, hD, hS, lv_sub hl [0, 1, 2, 3, 4, 5] rfl⟩ (by dsimp only; omega)
    · have hn_157 : ¬ 20 ≤ k_15 := fun q => c_47 ((nI_leI (a := 20) (b := k_15) (by omega) (by omega)).mpr q)
      refine lv_iload_n hx hb dX7_addCounts_37 rfl (lv_at hl 3 rfl) ?_
      refine lv_aload_n hx hb dX7_addCounts_38 rfl (lv_at hl 2 rfl) ?_
      refine lv_iload hx hb dX7_addCounts_39 (lv_at hl 0 rfl) ?_
      have hPc_158 := hP.sub (ws' := [(q0, .inr (9, []))]) [3] rfl
      have hKc_159 := hK.sub (tys' := []) [] rfl
      refine vp_callSi (va_Run.run (va_runU (C := RX9) (As := [.int (nI k_15)]) (rest := [.int na]) ⟨hx, hb, hml, hown, hts⟩ (k_slip_X9 l dC dI q0 (nI k_15)) (va_cwO 1 hts gX7_addCounts_X9_slip_u49X9 rfl rfl rfl (b0 := cX4_slip) (m0 := 2) (r0 := (some .int)) (by decide +kernel) (by decide +kernel) ⟨Nat.le_of_ble_eq_true rfl, Nat.le_of_ble_eq_true rfl⟩) ⟨fun a U g mk q => by obtain ⟨q0, qP, qK⟩ := q; exact ⟨q0, qP, va_K.moved (u := U) (U := U.calling g mk a) (Vm.Alike.refl U.vm) qK⟩, va_recv hK hP (ci := 9) (q0 := 3) rfl rfl, fun U hU hW => ⟨rfl, by rw [hU]; exact hPc_158, va_K.moved hW.alike hKc_159⟩⟩ rfl rfl hl.1 rfl (lv_room (Nat.le_of_ble_eq_true rfl)) dX7_addCounts_41 ⟨Nat.le_of_ble_eq_true rfl, Nat.le_of_ble_eq_true rfl⟩)) (fun r_160 hw_161 => ?_)
      obtain rfl : (zT (nI k_15)) = r_160 := hw_161.symm
      refine lv_isub hx hb dX7_addCounts_44 ?_
      refine lv_topi (fun x_162 _ => ?_)
      refine lv_bipush (v := 90) hx hb dX7_addCounts_45 (by decide) ?_
      refine lv_isub hx hb dX7_addCounts_47 ?_
      refine lv_topi (fun x_163 _ => ?_)
      refine lv_istore (lv' := [(5, .int x_163), (4, .int (nI k_15)), (0, .ref sc), (1, .ref q0), (2, .int na), (3, .int nb)]) hx hb dX7_addCounts_48 hl (by decide) rfl (fun ls hl => ?_)
      refine lv_iload hx hb dX7_addCounts_50 (lv_at hl 0 rfl) ?_
      refine lv_if_lt (tgt := 76) hx hb dX7_addCounts_52 (by decide) (fun c_164 => ?_) (fun c_164 => ?_)
      · refine lv_iinc (v := (nI (k_15 + 1))) (lv' := [(4, .int (nI (k_15 + 1))), (5, .int x_163), (0, .ref sc), (1, .ref q0), (2, .int na), (3, .int nb)]) hx hb dX7_addCounts_76 hl (k := 1) rfl (nI_add k_15 1) (by decide) rfl (fun ls hl => ?_)
        refine lv_goto (tgt := 30) hx hb dX7_addCounts_79 (by decide) ?_
        exact ih_46 ((k_15 + 1), f_30, H, locs, ls) ⟨by dsimp only; omega, hP, hD, hS, lv_sub hl [0, 2, 3, 4, 5] rfl⟩ (by dsimp only; omega)
      · refine lv_iload hx hb dX7_addCounts_55 (lv_at hl 0 rfl) ?_
        refine lv_aload_n hx hb dX7_addCounts_57 rfl (lv_at hl 2 rfl) ?_
        refine va_get (D := (dC, dI)) (ci := 7) (v := .ref sh) (C := RX7) (T := TX7) (N := 2) hx hb hts iw_s_add_X9_X7 hown hK hP 0 rfl rfl 1 (by decide) (hts (.fieldLink RX7 15 "ThriceCounted$Scale" "chances" "[I") (by decide +kernel)) (fun _ h9 => h9) rfl dX7_addCounts_58 ?_
        refine va_alen (v := 21) hx hb hK hP 2 1 rfl rfl rfl dX7_addCounts_61 ?_
        refine lv_icmp_ge (tgt := 76) hx hb dX7_addCounts_62 (by decide) (fun c_165 => ?_) (fun c_165 => ?_)
        · refine lv_iinc (v := (nI (k_15 + 1))) (lv' := [(4, .int (nI (k_15 + 1))), (5, .int x_163), (0, .ref sc), (1, .ref q0), (2, .int na), (3, .int nb)]) hx hb dX7_addCounts_76 hl (k := 1) rfl (nI_add k_15 1) (by decide) rfl (fun ls hl => ?_)
          refine lv_goto (tgt := 30) hx hb dX7_addCounts_79 (by decide) ?_
          exact ih_46 ((k_15 + 1), f_30, H, locs, ls) ⟨by dsimp only; omega, hP, hD, hS, lv_sub hl [0, 2, 3, 4, 5] rfl⟩ (by dsimp only; omega)
        · refine lv_aload_n hx hb dX7_addCounts_65 rfl (lv_at hl 2 rfl) ?_
          refine va_get (D := (dC, dI)) (ci := 7) (v := .ref sh) (C := RX7) (T := TX7) (N := 2) hx hb hts iw_s_add_X9_X7 hown hK hP 0 rfl rfl 1 (by decide) (hts (.fieldLink RX7 15 "ThriceCounted$Scale" "chances" "[I") (by decide +kernel)) (fun _ h9 => h9) rfl dX7_addCounts_66 ?_
          refine lv_iload hx hb dX7_addCounts_69 (lv_at hl 0 rfl) ?_
          refine lv_dup2_11 hx hb dX7_addCounts_71 rfl rfl ?_
          refine va_iald hx hb hK hP 2 1 rfl rfl (tz_in_le c_164 c_165 (M := 21) (by decide)) dX7_addCounts_72 ?_
          refine lv_topi (fun x_166 _ => ?_)
          refine lv_iconst (v := 1) hx hb dX7_addCounts_73 (by decide) ?_
          refine lv_iadd hx hb dX7_addCounts_74 ?_
          refine lv_topi (fun x_167 _ => ?_)
          refine va_iast hx hb hK hP hD hS 2 1 rfl rfl (tz_in_le c_164 c_165 (M := 21) (by decide)) dX7_addCounts_75 (fun H locs hP hD hS => ?_)
          generalize (upd f_30 (Int32.toNatClampNeg x_163) x_167) = f_168 at hP hD
          have hP : va_P (dC, dI) vwCl [(sc, .inr (7, [.ref sw, .ref sh])), (sw, .inl (csw, 21, .inr (.inl fw))), (sh, .inl (csh, 21, .inl f_168)), (q0, .inr (9, []))] H := hP
          have hD : va_D A [(sc, .inr (7, [.ref sw, .ref sh])), (sw, .inl (csw, 21, .inr (.inl fw))), (sh, .inl (csh, 21, .inl f_168)), (q0, .inr (9, []))] := hD
          refine lv_iinc (v := (nI (k_15 + 1))) (lv' := [(4, .int (nI (k_15 + 1))), (5, .int x_163), (0, .ref sc), (1, .ref q0), (2, .int na), (3, .int nb)]) hx hb dX7_addCounts_76 hl (k := 1) rfl (nI_add k_15 1) (by decide) rfl (fun ls hl => ?_)
          refine lv_goto (tgt := 30) hx hb dX7_addCounts_79 (by decide) ?_
          exact ih_46 ((k_15 + 1), f_168, H, locs, ls) ⟨by dsimp only; omega, hP, hD, hS, lv_sub hl [0, 2, 3, 4, 5] rfl⟩ (by dsimp only; omega)
  · have hn_169 : ¬ 21 ≤ k_1 := fun q => c_13 ((nI_leI (a := 21) (b := k_1) (by omega) (by omega)).mpr q)
    refine lv_aload_n hx hb dX7_addCounts_13 rfl (lv_at hl 1 rfl) ?_
    refine va_get (D := (dC, dI)) (ci := 7) (v := .ref sh) (C := RX7) (T := TX7) (N := 2) hx hb hts iw_s_add_X9_X7 hown hK hP 0 rfl rfl 1 (by decide) (hts (.fieldLink RX7 15 "ThriceCounted$Scale" "chances" "[I") (by decide +kernel)) (fun _ h9 => h9) rfl dX7_addCounts_14 ?_
    refine lv_iload hx hb dX7_addCounts_17 (lv_at hl 0 rfl) ?_
    refine lv_iconst (v := 0) hx hb dX7_addCounts_19 (by decide) ?_
    refine va_iast hx hb hK hP hD hS 2 1 rfl rfl (vp_in_nI (n := k_1) (N := 21) (by omega) (by decide)) dX7_addCounts_20 (fun H locs hP hD hS => ?_)
    generalize (upd f_6 (Int32.toNatClampNeg (nI k_1)) 0) = f_170 at hP hD
    have hP : va_P (dC, dI) vwCl [(sc, .inr (7, [.ref sw, .ref sh])), (sw, .inl (csw, 21, .inr (.inl fw))), (sh, .inl (csh, 21, .inl f_170)), (q0, .inr (9, []))] H := hP
    have hD : va_D A [(sc, .inr (7, [.ref sw, .ref sh])), (sw, .inl (csw, 21, .inr (.inl fw))), (sh, .inl (csh, 21, .inl f_170)), (q0, .inr (9, []))] := hD
    refine lv_iinc (v := (nI (k_1 + 1))) (lv' := [(4, .int (nI (k_1 + 1))), (0, .ref sc), (1, .ref q0), (2, .int na), (3, .int nb)]) hx hb dX7_addCounts_21 hl (k := 0) rfl (nI_add k_1 1) (by decide) rfl (fun ls hl => ?_)
    refine lv_goto (tgt := 3) hx hb dX7_addCounts_24 (by decide) ?_
    exact ih_12 ((k_1 + 1), f_170, H, locs, ls) ⟨by dsimp only; omega, hP, hD, hS, lv_sub hl [0, 1, 2, 3, 4] rfl⟩ (by dsimp only; omega)
set_option maxRecDepth 20000 in
theorem ggX7_addCounts_X8_slip : GoodIn wsX7_addCounts wsX8_slip := goodIn_r _ [30, 31, 32, 33, 34, 35, 36, 37, 4, 38, 12, 13, 14] (by decide +kernel) (by decide +kernel)
set_option maxRecDepth 20000 in
theorem gX7_addCounts_X8_slip_u49X8 : GoodIn wsX7_addCounts (va_wsO RX7 49 RX8 "ThriceCounted$Ones" ⟨"ThriceCounted$Ones", "slip", "(I)I"⟩ yX8_slip wsX8_slip) := goodIn_app (goodIn_of _ (by decide +kernel)) ggX7_addCounts_X8_slip
set_option maxRecDepth 20000 in
theorem iw_s_add_X8_X7 : ∀ w ∈ wsX70, w ∈ wsX7_addCounts := by decide +kernel
set_option maxHeartbeats 4000000 in
set_option maxRecDepth 100000 in
theorem s_add_X8 (l : Launch) (dC : Nat → ClassId) (dI : Nat → Nat → Nat) (sc : Nat) (sw : Nat) (sh : Nat) (csw : ClassId) (fw : Nat → Int64) (csh : ClassId) (fh : Nat → Int32) (q0 : Nat) (na : Int32) (nb : Int32) (sz : Nat) : Met l yX7_addCounts wsX7_addCounts ({ frames := 3, cells := 0, slots := 0, locals := 63 }) (va_Pc [.ref sc, .ref q0, .int na, .int nb] (fun U => U.heap.size = sz ∧ va_P (dC, dI) vwCl [(sc, .inr (7, [.ref sw, .ref sh])), (sw, .inl (csw, 21, .inr (.inl fw))), (sh, .inl (csh, 21, .inl fh)), (q0, .inr (8, []))] U.heap ∧ va_K (dC, dI) vwCl [(csw, .long), (csh, .int)] U ∧ va_D (fun _ => True) [(sc, .inr (7, [.ref sw, .ref sh])), (sw, .inl (csw, 21, .inr (.inl fw))), (sh, .inl (csh, 21, .inl fh)), (q0, .inr (8, []))])) (va_Qv (fun (_ : Unit) => True) (fun _ t => ∃ (gw : Nat → Int64) (gh : Nat → Int32), va_P (dC, dI) vwCl [(sc, .inr (7, [.ref sw, .ref sh])), (sw, .inl (csw, 21, .inr (.inl gw))), (sh, .inl (csh, 21, .inl gh)), (q0, .inr (8, []))] t.heap ∧ va_K (dC, dI) vwCl [(csw, .long), (csh, .int)] t ∧ va_D (va_A [(sc, .inr (7, [.ref sw, .ref sh])), (sw, .inl (csw, 21, .inr (.inl fw))), (sh, .inl (csh, 21, .inl fh)), (q0, .inr (8, []))] sz) [(sc, .inr (7, [.ref sw, .ref sh])), (sw, .inl (csw, 21, .inr (.inl gw))), (sh, .inl (csh, 21, .inl gh)), (q0, .inr (8, []))]) (va_A [(sc, .inr (7, [.ref sw, .ref sh])), (sw, .inl (csw, 21, .inr (.inl fw))), (sh, .inl (csh, 21, .inl fh)), (q0, .inr (8, []))] sz)) 0 0 (va_A [(sc, .inr (7, [.ref sw, .ref sh])), (sw, .inl (csw, 21, .inr (.inl fw))), (sh, .inl (csh, 21, .inl fh)), (q0, .inr (8, []))] sz) := by
  refine Met.ofW (cc := cX7_addCounts) (maxL := 6) (ret := none) (by decide) rfl ?_
  intro p e s m args below meth c s₁ B hml hv
  obtain ⟨rfl, hsz, hP, hK, hD0⟩ := hv
  have hx := B.exec
  have hb := B.bytes
  have hr := B.returns
  have hts := atoms_spec (ws := wsX7_addCounts) B.pre
  have hown : s.vm.findClass RX7 = some m.cls := findClass_of_methodNamed B.named
  have hlocks := B.notSynchronized
  subst hsz
  have hD := hD0.self (sz := s.heap.size)
  generalize hAe : va_A [(sc, .inr (7, [.ref sw, .ref sh])), (sw, .inl (csw, 21, .inr (.inl fw))), (sh, .inl (csh, 21, .inl fh)), (q0, .inr (8, []))] s.heap.size = A at hD ⊢
  have hA : ∀ q : Nat, s.heap.size ≤ q → A q := fun q h => by rw [← hAe]; exact Or.inr h
  have hS : va_S A s.heap s.heap [] := va_S.rf
  have hP : va_P (dC, dI) vwCl [(sc, .inr (7, [.ref sw, .ref sh])), (sw, .inl (csw, 21, .inr (.inl fw))), (sh, .inl (csh, 21, .inl fh)), (q0, .inr (8, []))] s.heap := hP
  have hl := lv_entry ([.ref sc, .ref q0, .int na, .int nb]) (n := 6) (Nat.le_of_ble_eq_true rfl)
  rw [lg_entry_eq]
  generalize (lg_sl ([.ref sc, .ref q0, .int na, .int nb]) ++ List.replicate (6 - (lg_sl ([.ref sc, .ref q0, .int na, .int nb])).length) Slot.unset).toArray = ls at hl ⊢
  have hl : lv_has ls 6 [(0, .ref sc), (1, .ref q0), (2, .int na), (3, .int nb)] := hl
  refine lv_iconst (v := 0) hx hb dX7_addCounts_0 (by decide) ?_
  refine lv_istore (lv' := [(4, .int 0), (0, .ref sc), (1, .ref q0), (2, .int na), (3, .int nb)]) hx hb dX7_addCounts_1 hl (by decide) rfl (fun ls hl => ?_)
  refine tz_while (σ := Nat × (Nat → Int32) × Heap × List Loc × Array Slot) (fun x => W p l e _ s m _ below meth c x.2.2.1 x.2.2.2.1 _ _ _ (F0 m 3 x.2.2.2.2 [])) (fun x => x.1 ≤ 21 ∧ va_P (dC, dI) vwCl [(sc, .inr (7, [.ref sw, .ref sh])), (sw, .inl (csw, 21, .inr (.inl fw))), (sh, .inl (csh, 21, .inl x.2.1)), (q0, .inr (8, []))] x.2.2.1 ∧ va_D A [(sc, .inr (7, [.ref sw, .ref sh])), (sw, .inl (csw, 21, .inr (.inl fw))), (sh, .inl (csh, 21, .inl x.2.1)), (q0, .inr (8, []))] ∧ va_S A s.heap x.2.2.1 x.2.2.2.1 ∧ lv_has x.2.2.2.2 6 [(4, .int (nI x.1)), (0, .ref sc), (1, .ref q0), (2, .int na), (3, .int nb)]) (fun x => 21 - x.1) ?_ (0, fh, s.heap, [], ls) ⟨by omega, hP, hD, hS, hl⟩
  rintro ⟨k_1, f_6, H, locs, ls⟩ ⟨hi_11_0, hP, hD, hS, hl⟩ ih_12
  dsimp only at hi_11_0 hP hD hS hl ih_12 ⊢
  refine lv_iload hx hb dX7_addCounts_3 (lv_at hl 0 rfl) ?_
  refine lv_aload_n hx hb dX7_addCounts_5 rfl (lv_at hl 1 rfl) ?_
  refine va_get (D := (dC, dI)) (ci := 7) (v := .ref sh) (C := RX7) (T := TX7) (N := 2) hx hb hts iw_s_add_X8_X7 hown hK hP 0 rfl rfl 1 (by decide) (hts (.fieldLink RX7 15 "ThriceCounted$Scale" "chances" "[I") (by decide +kernel)) (fun _ h9 => h9) rfl dX7_addCounts_6 ?_
  refine va_alen (v := 21) hx hb hK hP 2 1 rfl rfl rfl dX7_addCounts_9 ?_
  refine lv_icmp_ge (tgt := 27) hx hb dX7_addCounts_10 (by decide) (fun c_13 => ?_) (fun c_13 => ?_)
  · have hn_14 : 21 ≤ k_1 := (nI_leI (a := 21) (b := k_1) (by omega) (by omega)).mp c_13
    refine lv_iconst (v := 0) hx hb dX7_addCounts_27 (by decide) ?_
    refine lv_istore (lv' := [(4, .int 0), (0, .ref sc), (1, .ref q0), (2, .int na), (3, .int nb)]) hx hb dX7_addCounts_28 hl (by decide) rfl (fun ls hl => ?_)
    refine tz_while (σ := Nat × (Nat → Int32) × Heap × List Loc × Array Slot) (fun x => W p l e _ s m _ below meth c x.2.2.1 x.2.2.2.1 _ _ _ (F0 m 30 x.2.2.2.2 [])) (fun x => x.1 ≤ 20 ∧ va_P (dC, dI) vwCl [(sc, .inr (7, [.ref sw, .ref sh])), (sw, .inl (csw, 21, .inr (.inl fw))), (sh, .inl (csh, 21, .inl x.2.1)), (q0, .inr (8, []))] x.2.2.1 ∧ va_D A [(sc, .inr (7, [.ref sw, .ref sh])), (sw, .inl (csw, 21, .inr (.inl fw))), (sh, .inl (csh, 21, .inl x.2.1)), (q0, .inr (8, []))] ∧ va_S A s.heap x.2.2.1 x.2.2.2.1 ∧ lv_has x.2.2.2.2 6 [(4, .int (nI x.1)), (0, .ref sc), (1, .ref q0), (2, .int na), (3, .int nb)]) (fun x => 20 - x.1) ?_ (0, f_6, H, locs, ls) ⟨by omega, hP, hD, hS, hl⟩
    rintro ⟨k_15, f_30, H, locs, ls⟩ ⟨hi_45_0, hP, hD, hS, hl⟩ ih_46
    dsimp only at hi_45_0 hP hD hS hl ih_46 ⊢
    refine lv_iload hx hb dX7_addCounts_30 (lv_at hl 0 rfl) ?_
    refine lv_bipush (v := 20) hx hb dX7_addCounts_32 (by decide) ?_
    refine lv_icmp_ge (tgt := 82) hx hb dX7_addCounts_34 (by decide) (fun c_47 => ?_) (fun c_47 => ?_)
    · have hn_48 : 20 ≤ k_15 := (nI_leI (a := 20) (b := k_15) (by omega) (by omega)).mp c_47
      refine lv_iconst (v := 0) hx hb dX7_addCounts_82 (by decide) ?_
      refine lv_istore (lv' := [(4, .int 0), (0, .ref sc), (1, .ref q0), (2, .int na), (3, .int nb)]) hx hb dX7_addCounts_83 hl (by decide) rfl (fun ls hl => ?_)
      refine tz_while (σ := Int32 × (Nat → Int64) × Heap × List Loc × Array Slot) (fun x => W p l e _ s m _ below meth c x.2.2.1 x.2.2.2.1 _ _ _ (F0 m 85 x.2.2.2.2 [])) (fun x => va_P (dC, dI) vwCl [(sc, .inr (7, [.ref sw, .ref sh])), (sw, .inl (csw, 21, .inr (.inl x.2.1))), (sh, .inl (csh, 21, .inl f_30)), (q0, .inr (8, []))] x.2.2.1 ∧ va_D A [(sc, .inr (7, [.ref sw, .ref sh])), (sw, .inl (csw, 21, .inr (.inl x.2.1))), (sh, .inl (csh, 21, .inl f_30)), (q0, .inr (8, []))] ∧ va_S A s.heap x.2.2.1 x.2.2.2.1 ∧ lv_has x.2.2.2.2 6 [(4, .int x.1), (0, .ref sc), (1, .ref q0), (2, .int na), (3, .int nb)]) (fun x => (nb.toInt - x.1.toInt).toNat) ?_ (0, fw, H, locs, ls) ⟨hP, hD, hS, hl⟩
      rintro ⟨v_84, f_85, H, locs, ls⟩ ⟨hP, hD, hS, hl⟩ ih_121
      dsimp only at hP hD hS hl ih_121 ⊢
      refine lv_iload hx hb dX7_addCounts_85 (lv_at hl 0 rfl) ?_
      refine lv_iload_n hx hb dX7_addCounts_87 rfl (lv_at hl 4 rfl) ?_
      refine lv_icmp_ge (tgt := 144) hx hb dX7_addCounts_88 (by decide) (fun c_122 => ?_) (fun c_122 => ?_)
      · have hP9 := hP.sub (ws' := [(sc, .inr (7, [.ref sw, .ref sh])), (sw, .inl (csw, 21, .inr (.inl f_85))), (sh, .inl (csh, 21, .inl f_30)), (q0, .inr (8, []))]) [0, 1, 2, 3] rfl
        have hD9 := hD.sub (ws' := [(sc, .inr (7, [.ref sw, .ref sh])), (sw, .inl (csw, 21, .inr (.inl f_85))), (sh, .inl (csh, 21, .inl f_30)), (q0, .inr (8, []))]) [0, 1, 2, 3] (by decide) rfl
        have hK9 := hK.sub (tys' := [(csw, .long), (csh, .int)]) [0, 1] rfl
        exact W.vret hx hb hr (fun t ht hW => ⟨⟨(), rfl, trivial, f_85, f_30, by rw [ht]; exact hP9, va_K.moved hW.alike hK9, hD9⟩, hS.F ht⟩) hS.2.2 dX7_addCounts_144
      · refine lv_iconst (v := 0) hx hb dX7_addCounts_91 (by decide) ?_
        refine lv_istore (lv' := [(5, .int 0), (4, .int v_84), (0, .ref sc), (1, .ref q0), (2, .int na), (3, .int nb)]) hx hb dX7_addCounts_92 hl (by decide) rfl (fun ls hl => ?_)
        refine tz_while (σ := Nat × (Nat → Int64) × Heap × List Loc × Array Slot) (fun x => W p l e _ s m _ below meth c x.2.2.1 x.2.2.2.1 _ _ _ (F0 m 94 x.2.2.2.2 [])) (fun x => x.1 ≤ 21 ∧ va_P (dC, dI) vwCl [(sc, .inr (7, [.ref sw, .ref sh])), (sw, .inl (csw, 21, .inr (.inl x.2.1))), (sh, .inl (csh, 21, .inl f_30)), (q0, .inr (8, []))] x.2.2.1 ∧ va_D A [(sc, .inr (7, [.ref sw, .ref sh])), (sw, .inl (csw, 21, .inr (.inl x.2.1))), (sh, .inl (csh, 21, .inl f_30)), (q0, .inr (8, []))] ∧ va_S A s.heap x.2.2.1 x.2.2.2.1 ∧ lv_has x.2.2.2.2 6 [(5, .int (nI x.1)), (4, .int v_84), (0, .ref sc), (1, .ref q0), (2, .int na), (3, .int nb)]) (fun x => 21 - x.1) ?_ (0, f_85, H, locs, ls) ⟨by omega, hP, hD, hS, hl⟩
        rintro ⟨k_123, f_134, H, locs, ls⟩ ⟨hi_145_0, hP, hD, hS, hl⟩ ih_146
        dsimp only at hi_145_0 hP hD hS hl ih_146 ⊢
        refine lv_iload hx hb dX7_addCounts_94 (lv_at hl 0 rfl) ?_
        refine lv_aload_n hx hb dX7_addCounts_96 rfl (lv_at hl 2 rfl) ?_
        refine va_get (D := (dC, dI)) (ci := 7) (v := .ref sw) (C := RX7) (T := TX7) (N := 2) hx hb hts iw_s_add_X8_X7 hown hK hP 0 rfl rfl 0 (by decide) (hts (.fieldLink RX7 9 "ThriceCounted$Scale" "weights" "[J") (by decide +kernel)) (fun _ h9 => h9) rfl dX7_addCounts_97 ?_
        refine va_alen (v := 21) hx hb hK hP 1 0 rfl rfl rfl dX7_addCounts_100 ?_
        refine lv_icmp_ge (tgt := 138) hx hb dX7_addCounts_101 (by decide) (fun c_147 => ?_) (fun c_147 => ?_)
        · have hn_148 : 21 ≤ k_123 := (nI_leI (a := 21) (b := k_123) (by omega) (by omega)).mp c_147
          refine lv_iinc (v := (v_84 + 1)) (lv' := [(4, .int (v_84 + 1)), (5, .int (nI k_123)), (0, .ref sc), (1, .ref q0), (2, .int na), (3, .int nb)]) hx hb dX7_addCounts_138 hl (k := 1) rfl rfl (by decide) rfl (fun ls hl => ?_)
          refine lv_goto (tgt := 85) hx hb dX7_addCounts_141 (by decide) ?_
          exact ih_121 ((v_84 + 1), f_134, H, locs, ls) ⟨hP, hD, hS, lv_sub hl [0, 2, 3, 4, 5] rfl⟩ (tz_mu c_122)
        · have hn_149 : ¬ 21 ≤ k_123 := fun q => c_147 ((nI_leI (a := 21) (b := k_123) (by omega) (by omega)).mpr q)
          refine lv_iload hx hb dX7_addCounts_104 (lv_at hl 0 rfl) ?_
          refine lv_aload_n hx hb dX7_addCounts_106 rfl (lv_at hl 2 rfl) ?_
          refine va_get (D := (dC, dI)) (ci := 7) (v := .ref sh) (C := RX7) (T := TX7) (N := 2) hx hb hts iw_s_add_X8_X7 hown hK hP 0 rfl rfl 1 (by decide) (hts (.fieldLink RX7 15 "ThriceCounted$Scale" "chances" "[I") (by decide +kernel)) (fun _ h9 => h9) rfl dX7_addCounts_107 ?_
          refine va_alen (v := 21) hx hb hK hP 2 1 rfl rfl rfl dX7_addCounts_110 ?_
          refine lv_icmp_ge (tgt := 138) hx hb dX7_addCounts_111 (by decide) (fun c_150 => ?_) (fun c_150 => ?_)
          · have hn_151 : 21 ≤ k_123 := (nI_leI (a := 21) (b := k_123) (by omega) (by omega)).mp c_150
            refine lv_iinc (v := (v_84 + 1)) (lv' := [(4, .int (v_84 + 1)), (5, .int (nI k_123)), (0, .ref sc), (1, .ref q0), (2, .int na), (3, .int nb)]) hx hb dX7_addCounts_138 hl (k := 1) rfl rfl (by decide) rfl (fun ls hl => ?_)
            refine lv_goto (tgt := 85) hx hb dX7_addCounts_141 (by decide) ?_
            exact ih_121 ((v_84 + 1), f_134, H, locs, ls) ⟨hP, hD, hS, lv_sub hl [0, 2, 3, 4, 5] rfl⟩ (tz_mu c_122)
          · have hn_152 : ¬ 21 ≤ k_123 := fun q => c_150 ((nI_leI (a := 21) (b := k_123) (by omega) (by omega)).mpr q)
            refine lv_aload_n hx hb dX7_addCounts_114 rfl (lv_at hl 2 rfl) ?_
            refine va_get (D := (dC, dI)) (ci := 7) (v := .ref sw) (C := RX7) (T := TX7) (N := 2) hx hb hts iw_s_add_X8_X7 hown hK hP 0 rfl rfl 0 (by decide) (hts (.fieldLink RX7 9 "ThriceCounted$Scale" "weights" "[J") (by decide +kernel)) (fun _ h9 => h9) rfl dX7_addCounts_115 ?_
            refine lv_iload hx hb dX7_addCounts_118 (lv_at hl 0 rfl) ?_
            refine lv_dup2_11 hx hb dX7_addCounts_120 rfl rfl ?_
            refine va_lald hx hb hK hP 1 0 rfl rfl (vp_in_nI (n := k_123) (N := 21) (by omega) (by decide)) dX7_addCounts_121 ?_
            refine lv_topl (fun x_153 _ => ?_)
            refine lv_aload_n hx hb dX7_addCounts_122 rfl (lv_at hl 2 rfl) ?_
            refine va_get (D := (dC, dI)) (ci := 7) (v := .ref sh) (C := RX7) (T := TX7) (N := 2) hx hb hts iw_s_add_X8_X7 hown hK hP 0 rfl rfl 1 (by decide) (hts (.fieldLink RX7 15 "ThriceCounted$Scale" "chances" "[I") (by decide +kernel)) (fun _ h9 => h9) rfl dX7_addCounts_123 ?_
            refine lv_iload hx hb dX7_addCounts_126 (lv_at hl 0 rfl) ?_
            refine va_iald hx hb hK hP 2 1 rfl rfl (vp_in_nI (n := k_123) (N := 21) (by omega) (by decide)) dX7_addCounts_128 ?_
            refine lv_topi (fun x_154 _ => ?_)
            refine lv_i2l (v := x_154.toInt64) hx hb dX7_addCounts_129 rfl ?_
            refine lv_lmul hx hb dX7_addCounts_130 ?_
            refine lv_topl (fun x_155 _ => ?_)
            refine va_last hx hb hK hP hD hS 1 0 rfl rfl (vp_in_nI (n := k_123) (N := 21) (by omega) (by decide)) dX7_addCounts_131 (fun H locs hP hD hS => ?_)
            generalize (vp_updL f_134 (Int32.toNatClampNeg (nI k_123)) x_155) = f_156 at hP hD
            have hP : va_P (dC, dI) vwCl [(sc, .inr (7, [.ref sw, .ref sh])), (sw, .inl (csw, 21, .inr (.inl f_156))), (sh, .inl (csh, 21, .inl f_30)), (q0, .inr (8, []))] H := hP
            have hD : va_D A [(sc, .inr (7, [.ref sw, .ref sh])), (sw, .inl (csw, 21, .inr (.inl f_156))), (sh, .inl (csh, 21, .inl f_30)), (q0, .inr (8, []))] := hD
            refine lv_iinc (v := (nI (k_123 + 1))) (lv' := [(5, .int (nI (k_123 + 1))), (4, .int v_84), (0, .ref sc), (1, .ref q0), (2, .int na), (3, .int nb)]) hx hb dX7_addCounts_132 hl (k := 0) rfl (nI_add k_123 1) (by decide) rfl (fun ls hl => ?_)
            refine lv_goto (tgt := 94) hx hb dX7_addCounts_135 (by decide) ?_
            exact ih_146 ((k_123 + 1), f_156, H, locs, ls) ⟨by dsimp only; omega, hP, hD, hS, lv_sub hl [0, 1, 2, 3, 4, 5] rfl⟩ (by dsimp only; omega)
    · have hn_157 : ¬ 20 ≤ k_15 := fun q => c_47 ((nI_leI (a := 20) (b := k_15) (by omega) (by omega)).mpr q)
      refine lv_iload_n hx hb dX7_addCounts_37 rfl (lv_at hl 3 rfl) ?_
      refine lv_aload_n hx hb dX7_addCounts_38 rfl (lv_at hl 2 rfl) ?_
      refine lv_iload hx hb dX7_addCounts_39 (lv_at hl 0 rfl) ?_
      have hPc_158 := hP.sub (ws' := [(q0, .inr (8, []))]) [3] rfl
      have hKc_159 := hK.sub (tys' := []) [] rfl
      refine vp_callSi (va_Run.run (va_runU (C := RX8) (As := [.int (nI k_15)]) (rest := [.int na]) ⟨hx, hb, hml, hown, hts⟩ (k_slip_X8 l dC dI q0 (nI k_15)) (va_cwO 1 hts gX7_addCounts_X8_slip_u49X8 rfl rfl rfl (b0 := cX4_slip) (m0 := 2) (r0 := (some .int)) (by decide +kernel) (by decide +kernel) ⟨Nat.le_of_ble_eq_true rfl, Nat.le_of_ble_eq_true rfl⟩) ⟨fun a U g mk q => by obtain ⟨q0, qP, qK⟩ := q; exact ⟨q0, qP, va_K.moved (u := U) (U := U.calling g mk a) (Vm.Alike.refl U.vm) qK⟩, va_recv hK hP (ci := 8) (q0 := 3) rfl rfl, fun U hU hW => ⟨rfl, by rw [hU]; exact hPc_158, va_K.moved hW.alike hKc_159⟩⟩ rfl rfl hl.1 rfl (lv_room (Nat.le_of_ble_eq_true rfl)) dX7_addCounts_41 ⟨Nat.le_of_ble_eq_true rfl, Nat.le_of_ble_eq_true rfl⟩)) (fun r_160 hw_161 => ?_)
      obtain rfl : (zK (nI k_15)) = r_160 := hw_161.symm
      refine lv_isub hx hb dX7_addCounts_44 ?_
      refine lv_topi (fun x_162 _ => ?_)
      refine lv_bipush (v := 90) hx hb dX7_addCounts_45 (by decide) ?_
      refine lv_isub hx hb dX7_addCounts_47 ?_
      refine lv_topi (fun x_163 _ => ?_)
      refine lv_istore (lv' := [(5, .int x_163), (4, .int (nI k_15)), (0, .ref sc), (1, .ref q0), (2, .int na), (3, .int nb)]) hx hb dX7_addCounts_48 hl (by decide) rfl (fun ls hl => ?_)
      refine lv_iload hx hb dX7_addCounts_50 (lv_at hl 0 rfl) ?_
      refine lv_if_lt (tgt := 76) hx hb dX7_addCounts_52 (by decide) (fun c_164 => ?_) (fun c_164 => ?_)
      · refine lv_iinc (v := (nI (k_15 + 1))) (lv' := [(4, .int (nI (k_15 + 1))), (5, .int x_163), (0, .ref sc), (1, .ref q0), (2, .int na), (3, .int nb)]) hx hb dX7_addCounts_76 hl (k := 1) rfl (nI_add k_15 1) (by decide) rfl (fun ls hl => ?_)
        refine lv_goto (tgt := 30) hx hb dX7_addCounts_79 (by decide) ?_
        exact ih_46 ((k_15 + 1), f_30, H, locs, ls) ⟨by dsimp only; omega, hP, hD, hS, lv_sub hl [0, 2, 3, 4, 5] rfl⟩ (by dsimp only; omega)
      · refine lv_iload hx hb dX7_addCounts_55 (lv_at hl 0 rfl) ?_
        refine lv_aload_n hx hb dX7_addCounts_57 rfl (lv_at hl 2 rfl) ?_
        refine va_get (D := (dC, dI)) (ci := 7) (v := .ref sh) (C := RX7) (T := TX7) (N := 2) hx hb hts iw_s_add_X8_X7 hown hK hP 0 rfl rfl 1 (by decide) (hts (.fieldLink RX7 15 "ThriceCounted$Scale" "chances" "[I") (by decide +kernel)) (fun _ h9 => h9) rfl dX7_addCounts_58 ?_
        refine va_alen (v := 21) hx hb hK hP 2 1 rfl rfl rfl dX7_addCounts_61 ?_
        refine lv_icmp_ge (tgt := 76) hx hb dX7_addCounts_62 (by decide) (fun c_165 => ?_) (fun c_165 => ?_)
        · refine lv_iinc (v := (nI (k_15 + 1))) (lv' := [(4, .int (nI (k_15 + 1))), (5, .int x_163), (0, .ref sc), (1, .ref q0), (2, .int na), (3, .int nb)]) hx hb dX7_addCounts_76 hl (k := 1) rfl (nI_add k_15 1) (by decide) rfl (fun ls hl => ?_)
          refine lv_goto (tgt := 30) hx hb dX7_addCounts_79 (by decide) ?_
          exact ih_46 ((k_15 + 1), f_30, H, locs, ls) ⟨by dsimp only; omega, hP, hD, hS, lv_sub hl [0, 2, 3, 4, 5] rfl⟩ (by dsimp only; omega)
        · refine lv_aload_n hx hb dX7_addCounts_65 rfl (lv_at hl 2 rfl) ?_
          refine va_get (D := (dC, dI)) (ci := 7) (v := .ref sh) (C := RX7) (T := TX7) (N := 2) hx hb hts iw_s_add_X8_X7 hown hK hP 0 rfl rfl 1 (by decide) (hts (.fieldLink RX7 15 "ThriceCounted$Scale" "chances" "[I") (by decide +kernel)) (fun _ h9 => h9) rfl dX7_addCounts_66 ?_
          refine lv_iload hx hb dX7_addCounts_69 (lv_at hl 0 rfl) ?_
          refine lv_dup2_11 hx hb dX7_addCounts_71 rfl rfl ?_
          refine va_iald hx hb hK hP 2 1 rfl rfl (tz_in_le c_164 c_165 (M := 21) (by decide)) dX7_addCounts_72 ?_
          refine lv_topi (fun x_166 _ => ?_)
          refine lv_iconst (v := 1) hx hb dX7_addCounts_73 (by decide) ?_
          refine lv_iadd hx hb dX7_addCounts_74 ?_
          refine lv_topi (fun x_167 _ => ?_)
          refine va_iast hx hb hK hP hD hS 2 1 rfl rfl (tz_in_le c_164 c_165 (M := 21) (by decide)) dX7_addCounts_75 (fun H locs hP hD hS => ?_)
          generalize (upd f_30 (Int32.toNatClampNeg x_163) x_167) = f_168 at hP hD
          have hP : va_P (dC, dI) vwCl [(sc, .inr (7, [.ref sw, .ref sh])), (sw, .inl (csw, 21, .inr (.inl fw))), (sh, .inl (csh, 21, .inl f_168)), (q0, .inr (8, []))] H := hP
          have hD : va_D A [(sc, .inr (7, [.ref sw, .ref sh])), (sw, .inl (csw, 21, .inr (.inl fw))), (sh, .inl (csh, 21, .inl f_168)), (q0, .inr (8, []))] := hD
          refine lv_iinc (v := (nI (k_15 + 1))) (lv' := [(4, .int (nI (k_15 + 1))), (5, .int x_163), (0, .ref sc), (1, .ref q0), (2, .int na), (3, .int nb)]) hx hb dX7_addCounts_76 hl (k := 1) rfl (nI_add k_15 1) (by decide) rfl (fun ls hl => ?_)
          refine lv_goto (tgt := 30) hx hb dX7_addCounts_79 (by decide) ?_
          exact ih_46 ((k_15 + 1), f_168, H, locs, ls) ⟨by dsimp only; omega, hP, hD, hS, lv_sub hl [0, 2, 3, 4, 5] rfl⟩ (by dsimp only; omega)
  · have hn_169 : ¬ 21 ≤ k_1 := fun q => c_13 ((nI_leI (a := 21) (b := k_1) (by omega) (by omega)).mpr q)
    refine lv_aload_n hx hb dX7_addCounts_13 rfl (lv_at hl 1 rfl) ?_
    refine va_get (D := (dC, dI)) (ci := 7) (v := .ref sh) (C := RX7) (T := TX7) (N := 2) hx hb hts iw_s_add_X8_X7 hown hK hP 0 rfl rfl 1 (by decide) (hts (.fieldLink RX7 15 "ThriceCounted$Scale" "chances" "[I") (by decide +kernel)) (fun _ h9 => h9) rfl dX7_addCounts_14 ?_
    refine lv_iload hx hb dX7_addCounts_17 (lv_at hl 0 rfl) ?_
    refine lv_iconst (v := 0) hx hb dX7_addCounts_19 (by decide) ?_
    refine va_iast hx hb hK hP hD hS 2 1 rfl rfl (vp_in_nI (n := k_1) (N := 21) (by omega) (by decide)) dX7_addCounts_20 (fun H locs hP hD hS => ?_)
    generalize (upd f_6 (Int32.toNatClampNeg (nI k_1)) 0) = f_170 at hP hD
    have hP : va_P (dC, dI) vwCl [(sc, .inr (7, [.ref sw, .ref sh])), (sw, .inl (csw, 21, .inr (.inl fw))), (sh, .inl (csh, 21, .inl f_170)), (q0, .inr (8, []))] H := hP
    have hD : va_D A [(sc, .inr (7, [.ref sw, .ref sh])), (sw, .inl (csw, 21, .inr (.inl fw))), (sh, .inl (csh, 21, .inl f_170)), (q0, .inr (8, []))] := hD
    refine lv_iinc (v := (nI (k_1 + 1))) (lv' := [(4, .int (nI (k_1 + 1))), (0, .ref sc), (1, .ref q0), (2, .int na), (3, .int nb)]) hx hb dX7_addCounts_21 hl (k := 0) rfl (nI_add k_1 1) (by decide) rfl (fun ls hl => ?_)
    refine lv_goto (tgt := 3) hx hb dX7_addCounts_24 (by decide) ?_
    exact ih_12 ((k_1 + 1), f_170, H, locs, ls) ⟨by dsimp only; omega, hP, hD, hS, lv_sub hl [0, 1, 2, 3, 4] rfl⟩ (by dsimp only; omega)
set_option maxRecDepth 20000 in
theorem ggX7_weigh_X7_firstWeight : GoodIn wsX7_weigh wsX7_firstWeight := goodIn_r _ [6, 7, 8, 9, 10, 11, 12, 13, 14, 15, 16, 17, 18, 19, 20, 70, 71, 72, 73, 74, 75, 76, 77, 78, 79] (by decide +kernel) (by decide +kernel)
set_option maxRecDepth 20000 in
theorem gX7_weigh_X7_firstWeight : GoodIn wsX7_weigh (va_wsS RX7 19 yX7_firstWeight wsX7_firstWeight) := goodIn_app (goodIn_of _ (by decide +kernel)) ggX7_weigh_X7_firstWeight
set_option maxRecDepth 20000 in
theorem ggX7_weigh_X6_size : GoodIn wsX7_weigh wsX6_size := goodIn_r _ [24, 20, 76, 77, 78, 79] (by decide +kernel) (by decide +kernel)
set_option maxRecDepth 20000 in
theorem gX7_weigh_X6_size : GoodIn wsX7_weigh (wsV RX7 29 RX6 yX6_size wsX6_size) := goodIn_app (goodIn_of _ (by decide +kernel)) ggX7_weigh_X6_size
set_option maxRecDepth 20000 in
theorem ggX7_weigh_X6_get : GoodIn wsX7_weigh wsX6_get := goodIn_r _ [13, 14, 15, 16, 17, 18, 12, 19, 20, 76, 77, 78, 79] (by decide +kernel) (by decide +kernel)
set_option maxRecDepth 20000 in
theorem gX7_weigh_X6_get : GoodIn wsX7_weigh (wsV RX7 35 RX6 yX6_get wsX6_get) := goodIn_app (goodIn_of _ (by decide +kernel)) ggX7_weigh_X6_get
set_option maxRecDepth 20000 in
theorem ggX7_weigh_X7_addCounts : GoodIn wsX7_weigh wsX7_addCounts := goodIn_r _ [28, 29, 1, 30, 31, 32, 33, 34, 35, 36, 37, 38, 39, 40, 41, 42, 43, 44, 45, 46, 47, 48, 49, 50, 51, 52, 53, 54, 55, 56, 57, 58, 59, 60, 61, 62, 63, 64, 65, 66, 67, 68, 69] (by decide +kernel) (by decide +kernel)
set_option maxRecDepth 20000 in
theorem gX7_weigh_X7_addCounts : GoodIn wsX7_weigh (wsV RX7 39 RX7 yX7_addCounts wsX7_addCounts) := goodIn_app (goodIn_of _ (by decide +kernel)) ggX7_weigh_X7_addCounts
theorem dX7_weigh_0 : decode cX7_weigh 0 = .ok (.iconst 0, 1) := by decide +kernel
theorem dX7_weigh_1 : decode cX7_weigh 1 = .ok (.istore 4, 2) := by decide +kernel
theorem dX7_weigh_3 : decode cX7_weigh 3 = .ok (.iload 4, 2) := by decide +kernel
theorem dX7_weigh_5 : decode cX7_weigh 5 = .ok (.aload_n 0, 1) := by decide +kernel
theorem dX7_weigh_6 : decode cX7_weigh 6 = .ok (.getfield 9, 3) := by decide +kernel
theorem dX7_weigh_9 : decode cX7_weigh 9 = .ok (.arraylength, 1) := by decide +kernel
theorem dX7_weigh_10 : decode cX7_weigh 10 = .ok (.if_icmp .ge 26, 3) := by decide +kernel
theorem dX7_weigh_13 : decode cX7_weigh 13 = .ok (.aload_n 0, 1) := by decide +kernel
theorem dX7_weigh_14 : decode cX7_weigh 14 = .ok (.getfield 9, 3) := by decide +kernel
theorem dX7_weigh_17 : decode cX7_weigh 17 = .ok (.iload 4, 2) := by decide +kernel
theorem dX7_weigh_19 : decode cX7_weigh 19 = .ok (.aload_n 1, 1) := by decide +kernel
theorem dX7_weigh_20 : decode cX7_weigh 20 = .ok (.iload_n 2, 1) := by decide +kernel
theorem dX7_weigh_21 : decode cX7_weigh 21 = .ok (.bipush 90, 2) := by decide +kernel
theorem dX7_weigh_23 : decode cX7_weigh 23 = .ok (.iload 4, 2) := by decide +kernel
theorem dX7_weigh_25 : decode cX7_weigh 25 = .ok (.iadd, 1) := by decide +kernel
theorem dX7_weigh_26 : decode cX7_weigh 26 = .ok (.invokestatic 19, 3) := by decide +kernel
theorem dX7_weigh_29 : decode cX7_weigh 29 = .ok (.lastore, 1) := by decide +kernel
theorem dX7_weigh_30 : decode cX7_weigh 30 = .ok (.iinc 4 1, 3) := by decide +kernel
theorem dX7_weigh_33 : decode cX7_weigh 33 = .ok (.goto (-30), 3) := by decide +kernel
theorem dX7_weigh_36 : decode cX7_weigh 36 = .ok (.iconst 0, 1) := by decide +kernel
theorem dX7_weigh_37 : decode cX7_weigh 37 = .ok (.istore 4, 2) := by decide +kernel
theorem dX7_weigh_39 : decode cX7_weigh 39 = .ok (.iload 4, 2) := by decide +kernel
theorem dX7_weigh_41 : decode cX7_weigh 41 = .ok (.aload_n 1, 1) := by decide +kernel
theorem dX7_weigh_42 : decode cX7_weigh 42 = .ok (.getfield 23, 3) := by decide +kernel
theorem dX7_weigh_45 : decode cX7_weigh 45 = .ok (.invokevirtual 29, 3) := by decide +kernel
theorem dX7_weigh_48 : decode cX7_weigh 48 = .ok (.if_icmp .ge 66, 3) := by decide +kernel
theorem dX7_weigh_51 : decode cX7_weigh 51 = .ok (.aload_n 1, 1) := by decide +kernel
theorem dX7_weigh_52 : decode cX7_weigh 52 = .ok (.getfield 23, 3) := by decide +kernel
theorem dX7_weigh_55 : decode cX7_weigh 55 = .ok (.iload 4, 2) := by decide +kernel
theorem dX7_weigh_57 : decode cX7_weigh 57 = .ok (.iconst 1, 1) := by decide +kernel
theorem dX7_weigh_58 : decode cX7_weigh 58 = .ok (.invokevirtual 35, 3) := by decide +kernel
theorem dX7_weigh_61 : decode cX7_weigh 61 = .ok (.istore 5, 2) := by decide +kernel
theorem dX7_weigh_63 : decode cX7_weigh 63 = .ok (.aload_n 1, 1) := by decide +kernel
theorem dX7_weigh_64 : decode cX7_weigh 64 = .ok (.getfield 23, 3) := by decide +kernel
theorem dX7_weigh_67 : decode cX7_weigh 67 = .ok (.iload 4, 2) := by decide +kernel
theorem dX7_weigh_69 : decode cX7_weigh 69 = .ok (.iconst 0, 1) := by decide +kernel
theorem dX7_weigh_70 : decode cX7_weigh 70 = .ok (.invokevirtual 35, 3) := by decide +kernel
theorem dX7_weigh_73 : decode cX7_weigh 73 = .ok (.iload_n 2, 1) := by decide +kernel
theorem dX7_weigh_74 : decode cX7_weigh 74 = .ok (.if_icmp .ne 34, 3) := by decide +kernel
theorem dX7_weigh_108 : decode cX7_weigh 108 = .ok (.iinc 4 1, 3) := by decide +kernel
theorem dX7_weigh_111 : decode cX7_weigh 111 = .ok (.goto (-72), 3) := by decide +kernel
theorem dX7_weigh_77 : decode cX7_weigh 77 = .ok (.iload 5, 2) := by decide +kernel
theorem dX7_weigh_79 : decode cX7_weigh 79 = .ok (.ifCond .lt 29, 3) := by decide +kernel
theorem dX7_weigh_82 : decode cX7_weigh 82 = .ok (.iload 5, 2) := by decide +kernel
theorem dX7_weigh_84 : decode cX7_weigh 84 = .ok (.aload_n 3, 1) := by decide +kernel
theorem dX7_weigh_85 : decode cX7_weigh 85 = .ok (.arraylength, 1) := by decide +kernel
theorem dX7_weigh_86 : decode cX7_weigh 86 = .ok (.if_icmp .ge 22, 3) := by decide +kernel
theorem dX7_weigh_89 : decode cX7_weigh 89 = .ok (.aload_n 0, 1) := by decide +kernel
theorem dX7_weigh_90 : decode cX7_weigh 90 = .ok (.aload_n 3, 1) := by decide +kernel
theorem dX7_weigh_91 : decode cX7_weigh 91 = .ok (.iload 5, 2) := by decide +kernel
theorem dX7_weigh_93 : decode cX7_weigh 93 = .ok (.aaload, 1) := by decide +kernel
theorem dX7_weigh_94 : decode cX7_weigh 94 = .ok (.aload_n 1, 1) := by decide +kernel
theorem dX7_weigh_95 : decode cX7_weigh 95 = .ok (.getfield 23, 3) := by decide +kernel
theorem dX7_weigh_98 : decode cX7_weigh 98 = .ok (.iload 4, 2) := by decide +kernel
theorem dX7_weigh_100 : decode cX7_weigh 100 = .ok (.iconst 3, 1) := by decide +kernel
theorem dX7_weigh_101 : decode cX7_weigh 101 = .ok (.invokevirtual 35, 3) := by decide +kernel
theorem dX7_weigh_104 : decode cX7_weigh 104 = .ok (.iconst 1, 1) := by decide +kernel
theorem dX7_weigh_105 : decode cX7_weigh 105 = .ok (.invokevirtual 39, 3) := by decide +kernel
theorem dX7_weigh_114 : decode cX7_weigh 114 = .ok (.return_, 1) := by decide +kernel
set_option maxRecDepth 20000 in
theorem iw_s_weigh_X7 : ∀ w ∈ wsX70, w ∈ wsX7_weigh := by decide +kernel
set_option maxRecDepth 20000 in
theorem iw_s_weigh_X0 : ∀ w ∈ wsX00, w ∈ wsX7_weigh := by decide +kernel
set_option maxHeartbeats 4000000 in
set_option maxRecDepth 100000 in
theorem s_weigh (l : Launch) (dC : Nat → ClassId) (dI : Nat → Nat → Nat) (sc : Nat) (sw : Nat) (sh : Nat) (csw : ClassId) (fw : Nat → Int64) (csh : ClassId) (fh : Nat → Int32) (ab : Nat → Nat) (ub : Nat) (zb : Nat → Nat) (cb : Nat → ClassId) (fb : Nat → Nat → Int32) (aw : Nat) (cw : ClassId) (w0 : Nat) (w1 : Nat) (w2 : Nat) (w3 : Nat) (w4 : Nat) (w5 : Nat) (na : Int32) (sz : Nat) (hB : (∀ i, zb i ≤ tz_lim i) ∧ ub ≤ 8) : Met l yX7_weigh wsX7_weigh ({ frames := 4, cells := 0, slots := 0, locals := 88 }) (va_Pc [.ref sc, .ref (ab 0), .int na, .ref aw] (fun U => U.heap.size = sz ∧ va_P (dC, dI) vwCl [(sc, .inr (7, [.ref sw, .ref sh])), (sw, .inl (csw, 21, .inr (.inl fw))), (sh, .inl (csh, 21, .inl fh)), ((ab 0), .inr (0, [.ref (ab 1), .ref (ab 3), .ref (ab 5), .ref (ab 7), .ref (ab 9), .int (nI ub)])), ((ab 1), .inr (6, [.int 1, .int 5, .ref (ab 2), .int (nI (zb 0))])), ((ab 2), .inl ((cb 0), 5, .inl (fb 0))), ((ab 3), .inr (6, [.int 4, .int 5, .ref (ab 4), .int (nI (zb 1))])), ((ab 4), .inl ((cb 1), 20, .inl (fb 1))), ((ab 5), .inr (6, [.int 4, .int 8, .ref (ab 6), .int (nI (zb 2))])), ((ab 6), .inl ((cb 2), 32, .inl (fb 2))), (aw, .inl (cw, 6, .inr (.inr (.inr (.inr (tz_w w0 w1 w2 w3 w4 w5)))))), (w0, .inr (4, [])), (w1, .inr (1, [])), (w2, .inr (10, [])), (w3, .inr (3, [])), (w4, .inr (9, [])), (w5, .inr (8, []))] U.heap ∧ va_K (dC, dI) vwCl [(csw, .long), (csh, .int), ((cb 0), .int), ((cb 1), .int), ((cb 2), .int), (cw, (.object "ThriceCounted$Ones"))] U ∧ va_D (fun _ => True) [(sc, .inr (7, [.ref sw, .ref sh])), (sw, .inl (csw, 21, .inr (.inl fw))), (sh, .inl (csh, 21, .inl fh)), ((ab 0), .inr (0, [.ref (ab 1), .ref (ab 3), .ref (ab 5), .ref (ab 7), .ref (ab 9), .int (nI ub)])), ((ab 1), .inr (6, [.int 1, .int 5, .ref (ab 2), .int (nI (zb 0))])), ((ab 2), .inl ((cb 0), 5, .inl (fb 0))), ((ab 3), .inr (6, [.int 4, .int 5, .ref (ab 4), .int (nI (zb 1))])), ((ab 4), .inl ((cb 1), 20, .inl (fb 1))), ((ab 5), .inr (6, [.int 4, .int 8, .ref (ab 6), .int (nI (zb 2))])), ((ab 6), .inl ((cb 2), 32, .inl (fb 2))), (aw, .inl (cw, 6, .inr (.inr (.inr (.inr (tz_w w0 w1 w2 w3 w4 w5)))))), (w0, .inr (4, [])), (w1, .inr (1, [])), (w2, .inr (10, [])), (w3, .inr (3, [])), (w4, .inr (9, [])), (w5, .inr (8, []))])) (va_Qv (fun (_ : Unit) => True) (fun _ t => ∃ (gw : Nat → Int64) (gh : Nat → Int32), va_P (dC, dI) vwCl [(sc, .inr (7, [.ref sw, .ref sh])), (sw, .inl (csw, 21, .inr (.inl gw))), (sh, .inl (csh, 21, .inl gh)), ((ab 0), .inr (0, [.ref (ab 1), .ref (ab 3), .ref (ab 5), .ref (ab 7), .ref (ab 9), .int (nI ub)])), ((ab 1), .inr (6, [.int 1, .int 5, .ref (ab 2), .int (nI (zb 0))])), ((ab 2), .inl ((cb 0), 5, .inl (fb 0))), ((ab 3), .inr (6, [.int 4, .int 5, .ref (ab 4), .int (nI (zb 1))])), ((ab 4), .inl ((cb 1), 20, .inl (fb 1))), ((ab 5), .inr (6, [.int 4, .int 8, .ref (ab 6), .int (nI (zb 2))])), ((ab 6), .inl ((cb 2), 32, .inl (fb 2))), (aw, .inl (cw, 6, .inr (.inr (.inr (.inr (tz_w w0 w1 w2 w3 w4 w5)))))), (w0, .inr (4, [])), (w1, .inr (1, [])), (w2, .inr (10, [])), (w3, .inr (3, [])), (w4, .inr (9, [])), (w5, .inr (8, []))] t.heap ∧ va_K (dC, dI) vwCl [(csw, .long), (csh, .int), ((cb 0), .int), ((cb 1), .int), ((cb 2), .int), (cw, (.object "ThriceCounted$Ones"))] t ∧ va_D (va_A [(sc, .inr (7, [.ref sw, .ref sh])), (sw, .inl (csw, 21, .inr (.inl fw))), (sh, .inl (csh, 21, .inl fh)), ((ab 0), .inr (0, [.ref (ab 1), .ref (ab 3), .ref (ab 5), .ref (ab 7), .ref (ab 9), .int (nI ub)])), ((ab 1), .inr (6, [.int 1, .int 5, .ref (ab 2), .int (nI (zb 0))])), ((ab 2), .inl ((cb 0), 5, .inl (fb 0))), ((ab 3), .inr (6, [.int 4, .int 5, .ref (ab 4), .int (nI (zb 1))])), ((ab 4), .inl ((cb 1), 20, .inl (fb 1))), ((ab 5), .inr (6, [.int 4, .int 8, .ref (ab 6), .int (nI (zb 2))])), ((ab 6), .inl ((cb 2), 32, .inl (fb 2))), (aw, .inl (cw, 6, .inr (.inr (.inr (.inr (tz_w w0 w1 w2 w3 w4 w5)))))), (w0, .inr (4, [])), (w1, .inr (1, [])), (w2, .inr (10, [])), (w3, .inr (3, [])), (w4, .inr (9, [])), (w5, .inr (8, []))] sz) [(sc, .inr (7, [.ref sw, .ref sh])), (sw, .inl (csw, 21, .inr (.inl gw))), (sh, .inl (csh, 21, .inl gh)), ((ab 0), .inr (0, [.ref (ab 1), .ref (ab 3), .ref (ab 5), .ref (ab 7), .ref (ab 9), .int (nI ub)])), ((ab 1), .inr (6, [.int 1, .int 5, .ref (ab 2), .int (nI (zb 0))])), ((ab 2), .inl ((cb 0), 5, .inl (fb 0))), ((ab 3), .inr (6, [.int 4, .int 5, .ref (ab 4), .int (nI (zb 1))])), ((ab 4), .inl ((cb 1), 20, .inl (fb 1))), ((ab 5), .inr (6, [.int 4, .int 8, .ref (ab 6), .int (nI (zb 2))])), ((ab 6), .inl ((cb 2), 32, .inl (fb 2))), (aw, .inl (cw, 6, .inr (.inr (.inr (.inr (tz_w w0 w1 w2 w3 w4 w5)))))), (w0, .inr (4, [])), (w1, .inr (1, [])), (w2, .inr (10, [])), (w3, .inr (3, [])), (w4, .inr (9, [])), (w5, .inr (8, []))]) (va_A [(sc, .inr (7, [.ref sw, .ref sh])), (sw, .inl (csw, 21, .inr (.inl fw))), (sh, .inl (csh, 21, .inl fh)), ((ab 0), .inr (0, [.ref (ab 1), .ref (ab 3), .ref (ab 5), .ref (ab 7), .ref (ab 9), .int (nI ub)])), ((ab 1), .inr (6, [.int 1, .int 5, .ref (ab 2), .int (nI (zb 0))])), ((ab 2), .inl ((cb 0), 5, .inl (fb 0))), ((ab 3), .inr (6, [.int 4, .int 5, .ref (ab 4), .int (nI (zb 1))])), ((ab 4), .inl ((cb 1), 20, .inl (fb 1))), ((ab 5), .inr (6, [.int 4, .int 8, .ref (ab 6), .int (nI (zb 2))])), ((ab 6), .inl ((cb 2), 32, .inl (fb 2))), (aw, .inl (cw, 6, .inr (.inr (.inr (.inr (tz_w w0 w1 w2 w3 w4 w5)))))), (w0, .inr (4, [])), (w1, .inr (1, [])), (w2, .inr (10, [])), (w3, .inr (3, [])), (w4, .inr (9, [])), (w5, .inr (8, []))] sz)) 0 0 (va_A [(sc, .inr (7, [.ref sw, .ref sh])), (sw, .inl (csw, 21, .inr (.inl fw))), (sh, .inl (csh, 21, .inl fh)), ((ab 0), .inr (0, [.ref (ab 1), .ref (ab 3), .ref (ab 5), .ref (ab 7), .ref (ab 9), .int (nI ub)])), ((ab 1), .inr (6, [.int 1, .int 5, .ref (ab 2), .int (nI (zb 0))])), ((ab 2), .inl ((cb 0), 5, .inl (fb 0))), ((ab 3), .inr (6, [.int 4, .int 5, .ref (ab 4), .int (nI (zb 1))])), ((ab 4), .inl ((cb 1), 20, .inl (fb 1))), ((ab 5), .inr (6, [.int 4, .int 8, .ref (ab 6), .int (nI (zb 2))])), ((ab 6), .inl ((cb 2), 32, .inl (fb 2))), (aw, .inl (cw, 6, .inr (.inr (.inr (.inr (tz_w w0 w1 w2 w3 w4 w5)))))), (w0, .inr (4, [])), (w1, .inr (1, [])), (w2, .inr (10, [])), (w3, .inr (3, [])), (w4, .inr (9, [])), (w5, .inr (8, []))] sz) := by
  refine Met.ofW (cc := cX7_weigh) (maxL := 6) (ret := none) (by decide) rfl ?_
  intro p e s m args below meth c s₁ B hml hv
  obtain ⟨rfl, hsz, hP, hK, hD0⟩ := hv
  have hx := B.exec
  have hb := B.bytes
  have hr := B.returns
  have hts := atoms_spec (ws := wsX7_weigh) B.pre
  have hown : s.vm.findClass RX7 = some m.cls := findClass_of_methodNamed B.named
  have hlocks := B.notSynchronized
  subst hsz
  have hD := hD0.self (sz := s.heap.size)
  generalize hAe : va_A [(sc, .inr (7, [.ref sw, .ref sh])), (sw, .inl (csw, 21, .inr (.inl fw))), (sh, .inl (csh, 21, .inl fh)), ((ab 0), .inr (0, [.ref (ab 1), .ref (ab 3), .ref (ab 5), .ref (ab 7), .ref (ab 9), .int (nI ub)])), ((ab 1), .inr (6, [.int 1, .int 5, .ref (ab 2), .int (nI (zb 0))])), ((ab 2), .inl ((cb 0), 5, .inl (fb 0))), ((ab 3), .inr (6, [.int 4, .int 5, .ref (ab 4), .int (nI (zb 1))])), ((ab 4), .inl ((cb 1), 20, .inl (fb 1))), ((ab 5), .inr (6, [.int 4, .int 8, .ref (ab 6), .int (nI (zb 2))])), ((ab 6), .inl ((cb 2), 32, .inl (fb 2))), (aw, .inl (cw, 6, .inr (.inr (.inr (.inr (tz_w w0 w1 w2 w3 w4 w5)))))), (w0, .inr (4, [])), (w1, .inr (1, [])), (w2, .inr (10, [])), (w3, .inr (3, [])), (w4, .inr (9, [])), (w5, .inr (8, []))] s.heap.size = A at hD ⊢
  have hA : ∀ q : Nat, s.heap.size ≤ q → A q := fun q h => by rw [← hAe]; exact Or.inr h
  have hS : va_S A s.heap s.heap [] := va_S.rf
  have hP : va_P (dC, dI) vwCl [(sc, .inr (7, [.ref sw, .ref sh])), (sw, .inl (csw, 21, .inr (.inl fw))), (sh, .inl (csh, 21, .inl fh)), ((ab 0), .inr (0, [.ref (ab 1), .ref (ab 3), .ref (ab 5), .ref (ab 7), .ref (ab 9), .int (nI ub)])), ((ab 1), .inr (6, [.int 1, .int 5, .ref (ab 2), .int (nI (zb 0))])), ((ab 2), .inl ((cb 0), 5, .inl (fb 0))), ((ab 3), .inr (6, [.int 4, .int 5, .ref (ab 4), .int (nI (zb 1))])), ((ab 4), .inl ((cb 1), 20, .inl (fb 1))), ((ab 5), .inr (6, [.int 4, .int 8, .ref (ab 6), .int (nI (zb 2))])), ((ab 6), .inl ((cb 2), 32, .inl (fb 2))), (aw, .inl (cw, 6, .inr (.inr (.inr (.inr (tz_w w0 w1 w2 w3 w4 w5)))))), (w0, .inr (4, [])), (w1, .inr (1, [])), (w2, .inr (10, [])), (w3, .inr (3, [])), (w4, .inr (9, [])), (w5, .inr (8, []))] s.heap := hP
  have hl := lv_entry ([.ref sc, .ref (ab 0), .int na, .ref aw]) (n := 6) (Nat.le_of_ble_eq_true rfl)
  rw [lg_entry_eq]
  generalize (lg_sl ([.ref sc, .ref (ab 0), .int na, .ref aw]) ++ List.replicate (6 - (lg_sl ([.ref sc, .ref (ab 0), .int na, .ref aw])).length) Slot.unset).toArray = ls at hl ⊢
  have hl : lv_has ls 6 [(0, .ref sc), (1, .ref (ab 0)), (2, .int na), (3, .ref aw)] := hl
  have hz_zb_0 : zb 0 ≤ 5 := hB.1 0
  have hz_zb_1 : zb 1 ≤ 5 := hB.1 1
  have hz_zb_2 : zb 2 ≤ 8 := hB.1 2
  have hz_zb_3 : zb 3 ≤ 6 := hB.1 3
  have hz_zb_4 : zb 4 ≤ 8 := hB.1 4
  have hz_zb_5 : zb 5 ≤ 8 := hB.1 5
  have hz_zb_6 : zb 6 ≤ 8 := hB.1 6
  have hz_zb_7 : zb 7 ≤ 8 := hB.1 7
  have hz_zb_8 : zb 8 ≤ 8 := hB.1 8
  have hz_zb_9 : zb 9 ≤ 8 := hB.1 9
  have hz_zb_10 : zb 10 ≤ 8 := hB.1 10
  have hz_zb_11 : zb 11 ≤ 8 := hB.1 11
  have hu_zb := hB.2
  refine lv_iconst (v := 0) hx hb dX7_weigh_0 (by decide) ?_
  refine lv_istore (lv' := [(4, .int 0), (0, .ref sc), (1, .ref (ab 0)), (2, .int na), (3, .ref aw)]) hx hb dX7_weigh_1 hl (by decide) rfl (fun ls hl => ?_)
  refine tz_while (σ := Nat × (Nat → Int64) × Heap × List Loc × Array Slot) (fun x => W p l e _ s m _ below meth c x.2.2.1 x.2.2.2.1 _ _ _ (F0 m 3 x.2.2.2.2 [])) (fun x => x.1 ≤ 21 ∧ va_P (dC, dI) vwCl [(sc, .inr (7, [.ref sw, .ref sh])), (sw, .inl (csw, 21, .inr (.inl x.2.1))), (sh, .inl (csh, 21, .inl fh)), ((ab 0), .inr (0, [.ref (ab 1), .ref (ab 3), .ref (ab 5), .ref (ab 7), .ref (ab 9), .int (nI ub)])), ((ab 1), .inr (6, [.int 1, .int 5, .ref (ab 2), .int (nI (zb 0))])), ((ab 2), .inl ((cb 0), 5, .inl (fb 0))), ((ab 3), .inr (6, [.int 4, .int 5, .ref (ab 4), .int (nI (zb 1))])), ((ab 4), .inl ((cb 1), 20, .inl (fb 1))), ((ab 5), .inr (6, [.int 4, .int 8, .ref (ab 6), .int (nI (zb 2))])), ((ab 6), .inl ((cb 2), 32, .inl (fb 2))), (aw, .inl (cw, 6, .inr (.inr (.inr (.inr (tz_w w0 w1 w2 w3 w4 w5)))))), (w0, .inr (4, [])), (w1, .inr (1, [])), (w2, .inr (10, [])), (w3, .inr (3, [])), (w4, .inr (9, [])), (w5, .inr (8, []))] x.2.2.1 ∧ va_D A [(sc, .inr (7, [.ref sw, .ref sh])), (sw, .inl (csw, 21, .inr (.inl x.2.1))), (sh, .inl (csh, 21, .inl fh)), ((ab 0), .inr (0, [.ref (ab 1), .ref (ab 3), .ref (ab 5), .ref (ab 7), .ref (ab 9), .int (nI ub)])), ((ab 1), .inr (6, [.int 1, .int 5, .ref (ab 2), .int (nI (zb 0))])), ((ab 2), .inl ((cb 0), 5, .inl (fb 0))), ((ab 3), .inr (6, [.int 4, .int 5, .ref (ab 4), .int (nI (zb 1))])), ((ab 4), .inl ((cb 1), 20, .inl (fb 1))), ((ab 5), .inr (6, [.int 4, .int 8, .ref (ab 6), .int (nI (zb 2))])), ((ab 6), .inl ((cb 2), 32, .inl (fb 2))), (aw, .inl (cw, 6, .inr (.inr (.inr (.inr (tz_w w0 w1 w2 w3 w4 w5)))))), (w0, .inr (4, [])), (w1, .inr (1, [])), (w2, .inr (10, [])), (w3, .inr (3, [])), (w4, .inr (9, [])), (w5, .inr (8, []))] ∧ va_S A s.heap x.2.2.1 x.2.2.2.1 ∧ lv_has x.2.2.2.2 6 [(4, .int (nI x.1)), (0, .ref sc), (1, .ref (ab 0)), (2, .int na), (3, .ref aw)]) (fun x => 21 - x.1) ?_ (0, fw, s.heap, [], ls) ⟨by omega, hP, hD, hS, hl⟩
  rintro ⟨k_1, f_10, H, locs, ls⟩ ⟨hi_19_0, hP, hD, hS, hl⟩ ih_20
  dsimp only at hi_19_0 hP hD hS hl ih_20 ⊢
  refine lv_iload hx hb dX7_weigh_3 (lv_at hl 0 rfl) ?_
  refine lv_aload_n hx hb dX7_weigh_5 rfl (lv_at hl 1 rfl) ?_
  refine va_get (D := (dC, dI)) (ci := 7) (v := .ref sw) (C := RX7) (T := TX7) (N := 2) hx hb hts iw_s_weigh_X7 hown hK hP 0 rfl rfl 0 (by decide) (hts (.fieldLink RX7 9 "ThriceCounted$Scale" "weights" "[J") (by decide +kernel)) (fun _ h9 => h9) rfl dX7_weigh_6 ?_
  refine va_alen (v := 21) hx hb hK hP 1 0 rfl rfl rfl dX7_weigh_9 ?_
  refine lv_icmp_ge (tgt := 36) hx hb dX7_weigh_10 (by decide) (fun c_21 => ?_) (fun c_21 => ?_)
  · have hn_22 : 21 ≤ k_1 := (nI_leI (a := 21) (b := k_1) (by omega) (by omega)).mp c_21
    refine lv_iconst (v := 0) hx hb dX7_weigh_36 (by decide) ?_
    refine lv_istore (lv' := [(4, .int 0), (0, .ref sc), (1, .ref (ab 0)), (2, .int na), (3, .ref aw)]) hx hb dX7_weigh_37 hl (by decide) rfl (fun ls hl => ?_)
    refine tz_while (σ := Nat × (Nat → Int64) × (Nat → Int32) × Heap × List Loc × Array Slot) (fun x => W p l e _ s m _ below meth c x.2.2.2.1 x.2.2.2.2.1 _ _ _ (F0 m 39 x.2.2.2.2.2 [])) (fun x => x.1 ≤ (zb 2) ∧ va_P (dC, dI) vwCl [(sc, .inr (7, [.ref sw, .ref sh])), (sw, .inl (csw, 21, .inr (.inl x.2.1))), (sh, .inl (csh, 21, .inl x.2.2.1)), ((ab 0), .inr (0, [.ref (ab 1), .ref (ab 3), .ref (ab 5), .ref (ab 7), .ref (ab 9), .int (nI ub)])), ((ab 1), .inr (6, [.int 1, .int 5, .ref (ab 2), .int (nI (zb 0))])), ((ab 2), .inl ((cb 0), 5, .inl (fb 0))), ((ab 3), .inr (6, [.int 4, .int 5, .ref (ab 4), .int (nI (zb 1))])), ((ab 4), .inl ((cb 1), 20, .inl (fb 1))), ((ab 5), .inr (6, [.int 4, .int 8, .ref (ab 6), .int (nI (zb 2))])), ((ab 6), .inl ((cb 2), 32, .inl (fb 2))), (aw, .inl (cw, 6, .inr (.inr (.inr (.inr (tz_w w0 w1 w2 w3 w4 w5)))))), (w0, .inr (4, [])), (w1, .inr (1, [])), (w2, .inr (10, [])), (w3, .inr (3, [])), (w4, .inr (9, [])), (w5, .inr (8, []))] x.2.2.2.1 ∧ va_D A [(sc, .inr (7, [.ref sw, .ref sh])), (sw, .inl (csw, 21, .inr (.inl x.2.1))), (sh, .inl (csh, 21, .inl x.2.2.1)), ((ab 0), .inr (0, [.ref (ab 1), .ref (ab 3), .ref (ab 5), .ref (ab 7), .ref (ab 9), .int (nI ub)])), ((ab 1), .inr (6, [.int 1, .int 5, .ref (ab 2), .int (nI (zb 0))])), ((ab 2), .inl ((cb 0), 5, .inl (fb 0))), ((ab 3), .inr (6, [.int 4, .int 5, .ref (ab 4), .int (nI (zb 1))])), ((ab 4), .inl ((cb 1), 20, .inl (fb 1))), ((ab 5), .inr (6, [.int 4, .int 8, .ref (ab 6), .int (nI (zb 2))])), ((ab 6), .inl ((cb 2), 32, .inl (fb 2))), (aw, .inl (cw, 6, .inr (.inr (.inr (.inr (tz_w w0 w1 w2 w3 w4 w5)))))), (w0, .inr (4, [])), (w1, .inr (1, [])), (w2, .inr (10, [])), (w3, .inr (3, [])), (w4, .inr (9, [])), (w5, .inr (8, []))] ∧ va_S A s.heap x.2.2.2.1 x.2.2.2.2.1 ∧ lv_has x.2.2.2.2.2 6 [(4, .int (nI x.1)), (0, .ref sc), (1, .ref (ab 0)), (2, .int na), (3, .ref aw)]) (fun x => (zb 2) - x.1) ?_ (0, f_10, fh, H, locs, ls) ⟨by omega, hP, hD, hS, hl⟩
    rintro ⟨k_23, f_90, f_91, H, locs, ls⟩ ⟨hi_158_0, hP, hD, hS, hl⟩ ih_159
    dsimp only at hi_158_0 hP hD hS hl ih_159 ⊢
    refine lv_iload hx hb dX7_weigh_39 (lv_at hl 0 rfl) ?_
    refine lv_aload_n hx hb dX7_weigh_41 rfl (lv_at hl 2 rfl) ?_
    refine va_get (D := (dC, dI)) (ci := 0) (v := .ref (ab 5)) (C := RX0) (T := TX0) (N := 6) hx hb hts iw_s_weigh_X0 hown hK hP 3 rfl rfl 2 (by decide) (hts (.fieldLink RX7 23 "ThriceCounted$Bank" "counts" "LThriceCounted$Rows;") (by decide +kernel)) (fun _ h9 => h9) rfl dX7_weigh_42 ?_
    have hPc_160 := hP.sub (ws' := [((ab 5), .inr (6, [.int 4, .int 8, .ref (ab 6), .int (nI (zb 2))]))]) [8] rfl
    have hKc_161 := hK.sub (tys' := []) [] rfl
    refine vp_callSi (va_Run.run (va_runV (As := []) (rest := [.int (nI k_23)]) ⟨hx, hb, hml, hown, hts⟩ (r_size_32 l dC dI (ab 5) (ab 6) (zb 2)) (cwV 0 hts gX7_weigh_X6_size rfl rfl rfl (by decide +kernel) ⟨Nat.le_of_ble_eq_true rfl, Nat.le_of_ble_eq_true rfl⟩) ⟨fun a U g mk q => by obtain ⟨q0, qP, qK⟩ := q; exact ⟨q0, qP, va_K.moved (u := U) (U := U.calling g mk a) (Vm.Alike.refl U.vm) qK⟩, va_recv hK hP (ci := 6) (q0 := 8) rfl rfl, fun U hU hW => ⟨rfl, by rw [hU]; exact hPc_160, va_K.moved hW.alike hKc_161⟩⟩ rfl rfl hl.1 rfl (lv_room (Nat.le_of_ble_eq_true rfl)) dX7_weigh_45 ⟨Nat.le_of_ble_eq_true rfl, Nat.le_of_ble_eq_true rfl⟩)) (fun r_162 hw_163 => ?_)
    obtain rfl : (nI (zb 2)) = r_162 := hw_163.symm
    refine lv_icmp_ge (tgt := 114) hx hb dX7_weigh_48 (by decide) (fun c_164 => ?_) (fun c_164 => ?_)
    · have hn_165 : (zb 2) ≤ k_23 := (nI_leI (a := (zb 2)) (b := k_23) (by omega) (by omega)).mp c_164
      have hP9 := hP.sub (ws' := [(sc, .inr (7, [.ref sw, .ref sh])), (sw, .inl (csw, 21, .inr (.inl f_90))), (sh, .inl (csh, 21, .inl f_91)), ((ab 0), .inr (0, [.ref (ab 1), .ref (ab 3), .ref (ab 5), .ref (ab 7), .ref (ab 9), .int (nI ub)])), ((ab 1), .inr (6, [.int 1, .int 5, .ref (ab 2), .int (nI (zb 0))])), ((ab 2), .inl ((cb 0), 5, .inl (fb 0))), ((ab 3), .inr (6, [.int 4, .int 5, .ref (ab 4), .int (nI (zb 1))])), ((ab 4), .inl ((cb 1), 20, .inl (fb 1))), ((ab 5), .inr (6, [.int 4, .int 8, .ref (ab 6), .int (nI (zb 2))])), ((ab 6), .inl ((cb 2), 32, .inl (fb 2))), (aw, .inl (cw, 6, .inr (.inr (.inr (.inr (tz_w w0 w1 w2 w3 w4 w5)))))), (w0, .inr (4, [])), (w1, .inr (1, [])), (w2, .inr (10, [])), (w3, .inr (3, [])), (w4, .inr (9, [])), (w5, .inr (8, []))]) [0, 1, 2, 3, 4, 5, 6, 7, 8, 9, 10, 11, 12, 13, 14, 15, 16] rfl
      have hD9 := hD.sub (ws' := [(sc, .inr (7, [.ref sw, .ref sh])), (sw, .inl (csw, 21, .inr (.inl f_90))), (sh, .inl (csh, 21, .inl f_91)), ((ab 0), .inr (0, [.ref (ab 1), .ref (ab 3), .ref (ab 5), .ref (ab 7), .ref (ab 9), .int (nI ub)])), ((ab 1), .inr (6, [.int 1, .int 5, .ref (ab 2), .int (nI (zb 0))])), ((ab 2), .inl ((cb 0), 5, .inl (fb 0))), ((ab 3), .inr (6, [.int 4, .int 5, .ref (ab 4), .int (nI (zb 1))])), ((ab 4), .inl ((cb 1), 20, .inl (fb 1))), ((ab 5), .inr (6, [.int 4, .int 8, .ref (ab 6), .int (nI (zb 2))])), ((ab 6), .inl ((cb 2), 32, .inl (fb 2))), (aw, .inl (cw, 6, .inr (.inr (.inr (.inr (tz_w w0 w1 w2 w3 w4 w5)))))), (w0, .inr (4, [])), (w1, .inr (1, [])), (w2, .inr (10, [])), (w3, .inr (3, [])), (w4, .inr (9, [])), (w5, .inr (8, []))]) [0, 1, 2, 3, 4, 5, 6, 7, 8, 9, 10, 11, 12, 13, 14, 15, 16] (by decide) rfl
      have hK9 := hK.sub (tys' := [(csw, .long), (csh, .int), ((cb 0), .int), ((cb 1), .int), ((cb 2), .int), (cw, (.object "ThriceCounted$Ones"))]) [0, 1, 2, 3, 4, 5] rfl
      exact W.vret hx hb hr (fun t ht hW => ⟨⟨(), rfl, trivial, f_90, f_91, by rw [ht]; exact hP9, va_K.moved hW.alike hK9, hD9⟩, hS.F ht⟩) hS.2.2 dX7_weigh_114
    · have hn_166 : ¬ (zb 2) ≤ k_23 := fun q => c_164 ((nI_leI (a := (zb 2)) (b := k_23) (by omega) (by omega)).mpr q)
      refine lv_aload_n hx hb dX7_weigh_51 rfl (lv_at hl 2 rfl) ?_
      refine va_get (D := (dC, dI)) (ci := 0) (v := .ref (ab 5)) (C := RX0) (T := TX0) (N := 6) hx hb hts iw_s_weigh_X0 hown hK hP 3 rfl rfl 2 (by decide) (hts (.fieldLink RX7 23 "ThriceCounted$Bank" "counts" "LThriceCounted$Rows;") (by decide +kernel)) (fun _ h9 => h9) rfl dX7_weigh_52 ?_
      refine lv_iload hx hb dX7_weigh_55 (lv_at hl 0 rfl) ?_
      refine lv_iconst (v := 1) hx hb dX7_weigh_57 (by decide) ?_
      have hPc_167 := hP.sub (ws' := [((ab 5), .inr (6, [.int 4, .int 8, .ref (ab 6), .int (nI (zb 2))])), ((ab 6), .inl ((cb 2), 32, .inl (fb 2)))]) [8, 9] rfl
      have hKc_168 := hK.sub (tys' := [((cb 2), .int)]) [4] rfl
      refine vp_callSi (va_Run.run (va_runV (As := [.int (nI k_23), .int 1]) (rest := []) ⟨hx, hb, hml, hown, hts⟩ (r_get_32 l dC dI (ab 5) (ab 6) (zb 2) (cb 2) (fb 2) (nI k_23) 1 (by omega)) (cwV 2 hts gX7_weigh_X6_get rfl rfl rfl (by decide +kernel) ⟨Nat.le_of_ble_eq_true rfl, Nat.le_of_ble_eq_true rfl⟩) ⟨fun a U g mk q => by obtain ⟨q0, qP, qK⟩ := q; exact ⟨q0, qP, va_K.moved (u := U) (U := U.calling g mk a) (Vm.Alike.refl U.vm) qK⟩, va_recv hK hP (ci := 6) (q0 := 8) rfl rfl, fun U hU hW => ⟨rfl, by rw [hU]; exact hPc_167, va_K.moved hW.alike hKc_168⟩⟩ rfl rfl hl.1 rfl (lv_room (Nat.le_of_ble_eq_true rfl)) dX7_weigh_58 ⟨Nat.le_of_ble_eq_true rfl, Nat.le_of_ble_eq_true rfl⟩)) (fun r_169 hw_170 => ?_)
      refine lv_istore (lv' := [(5, .int r_169), (4, .int (nI k_23)), (0, .ref sc), (1, .ref (ab 0)), (2, .int na), (3, .ref aw)]) hx hb dX7_weigh_61 hl (by decide) rfl (fun ls hl => ?_)
      refine lv_aload_n hx hb dX7_weigh_63 rfl (lv_at hl 3 rfl) ?_
      refine va_get (D := (dC, dI)) (ci := 0) (v := .ref (ab 5)) (C := RX0) (T := TX0) (N := 6) hx hb hts iw_s_weigh_X0 hown hK hP 3 rfl rfl 2 (by decide) (hts (.fieldLink RX7 23 "ThriceCounted$Bank" "counts" "LThriceCounted$Rows;") (by decide +kernel)) (fun _ h9 => h9) rfl dX7_weigh_64 ?_
      refine lv_iload hx hb dX7_weigh_67 (lv_at hl 1 rfl) ?_
      refine lv_iconst (v := 0) hx hb dX7_weigh_69 (by decide) ?_
      have hPc_171 := hP.sub (ws' := [((ab 5), .inr (6, [.int 4, .int 8, .ref (ab 6), .int (nI (zb 2))])), ((ab 6), .inl ((cb 2), 32, .inl (fb 2)))]) [8, 9] rfl
      have hKc_172 := hK.sub (tys' := [((cb 2), .int)]) [4] rfl
      refine vp_callSi (va_Run.run (va_runV (As := [.int (nI k_23), .int 0]) (rest := []) ⟨hx, hb, hml, hown, hts⟩ (r_get_32 l dC dI (ab 5) (ab 6) (zb 2) (cb 2) (fb 2) (nI k_23) 0 (by omega)) (cwV 2 hts gX7_weigh_X6_get rfl rfl rfl (by decide +kernel) ⟨Nat.le_of_ble_eq_true rfl, Nat.le_of_ble_eq_true rfl⟩) ⟨fun a U g mk q => by obtain ⟨q0, qP, qK⟩ := q; exact ⟨q0, qP, va_K.moved (u := U) (U := U.calling g mk a) (Vm.Alike.refl U.vm) qK⟩, va_recv hK hP (ci := 6) (q0 := 8) rfl rfl, fun U hU hW => ⟨rfl, by rw [hU]; exact hPc_171, va_K.moved hW.alike hKc_172⟩⟩ rfl rfl hl.1 rfl (lv_room (Nat.le_of_ble_eq_true rfl)) dX7_weigh_70 ⟨Nat.le_of_ble_eq_true rfl, Nat.le_of_ble_eq_true rfl⟩)) (fun r_173 hw_174 => ?_)
      refine lv_iload_n hx hb dX7_weigh_73 rfl (lv_at hl 4 rfl) ?_
      refine lv_icmp_ne (tgt := 108) hx hb dX7_weigh_74 (by decide) (fun c_175 => ?_) (fun c_175 => ?_)
      · refine lv_iinc (v := (nI (k_23 + 1))) (lv' := [(4, .int (nI (k_23 + 1))), (5, .int r_169), (0, .ref sc), (1, .ref (ab 0)), (2, .int na), (3, .ref aw)]) hx hb dX7_weigh_108 hl (k := 1) rfl (nI_add k_23 1) (by decide) rfl (fun ls hl => ?_)
        refine lv_goto (tgt := 39) hx hb dX7_weigh_111 (by decide) ?_
        exact ih_159 ((k_23 + 1), f_90, f_91, H, locs, ls) ⟨by dsimp only; omega, hP, hD, hS, lv_sub hl [0, 2, 3, 4, 5] rfl⟩ (by dsimp only; omega)
      · refine lv_iload hx hb dX7_weigh_77 (lv_at hl 0 rfl) ?_
        refine lv_if_lt (tgt := 108) hx hb dX7_weigh_79 (by decide) (fun c_176 => ?_) (fun c_176 => ?_)
        · refine lv_iinc (v := (nI (k_23 + 1))) (lv' := [(4, .int (nI (k_23 + 1))), (5, .int r_169), (0, .ref sc), (1, .ref (ab 0)), (2, .int na), (3, .ref aw)]) hx hb dX7_weigh_108 hl (k := 1) rfl (nI_add k_23 1) (by decide) rfl (fun ls hl => ?_)
          refine lv_goto (tgt := 39) hx hb dX7_weigh_111 (by decide) ?_
          exact ih_159 ((k_23 + 1), f_90, f_91, H, locs, ls) ⟨by dsimp only; omega, hP, hD, hS, lv_sub hl [0, 2, 3, 4, 5] rfl⟩ (by dsimp only; omega)
        · refine lv_iload hx hb dX7_weigh_82 (lv_at hl 0 rfl) ?_
          refine lv_aload_n hx hb dX7_weigh_84 rfl (lv_at hl 5 rfl) ?_
          refine va_alen (v := 6) hx hb hK hP 10 5 rfl rfl rfl dX7_weigh_85 ?_
          refine lv_icmp_ge (tgt := 108) hx hb dX7_weigh_86 (by decide) (fun c_177 => ?_) (fun c_177 => ?_)
          · refine lv_iinc (v := (nI (k_23 + 1))) (lv' := [(4, .int (nI (k_23 + 1))), (5, .int r_169), (0, .ref sc), (1, .ref (ab 0)), (2, .int na), (3, .ref aw)]) hx hb dX7_weigh_108 hl (k := 1) rfl (nI_add k_23 1) (by decide) rfl (fun ls hl => ?_)
            refine lv_goto (tgt := 39) hx hb dX7_weigh_111 (by decide) ?_
            exact ih_159 ((k_23 + 1), f_90, f_91, H, locs, ls) ⟨by dsimp only; omega, hP, hD, hS, lv_sub hl [0, 2, 3, 4, 5] rfl⟩ (by dsimp only; omega)
          · refine lv_aload_n hx hb dX7_weigh_89 rfl (lv_at hl 2 rfl) ?_
            refine lv_aload_n hx hb dX7_weigh_90 rfl (lv_at hl 5 rfl) ?_
            refine lv_iload hx hb dX7_weigh_91 (lv_at hl 0 rfl) ?_
            rcases (tz_six ⟨tz_nlt c_176, tz_ltle c_177 (by decide)⟩) with rfl | rfl | rfl | rfl | rfl | rfl
            · refine va_aldq hx hb hK hP 10 5 rfl rfl (show ¬ ((0 : Int32) < 0 ∨ 6 ≤ (0 : Int32).toNatClampNeg) by decide) dX7_weigh_93 ?_
              refine tz_v (.ref w0) rfl ?_
              refine lv_aload_n hx hb dX7_weigh_94 rfl (lv_at hl 3 rfl) ?_
              refine va_get (D := (dC, dI)) (ci := 0) (v := .ref (ab 5)) (C := RX0) (T := TX0) (N := 6) hx hb hts iw_s_weigh_X0 hown hK hP 3 rfl rfl 2 (by decide) (hts (.fieldLink RX7 23 "ThriceCounted$Bank" "counts" "LThriceCounted$Rows;") (by decide +kernel)) (fun _ h9 => h9) rfl dX7_weigh_95 ?_
              refine lv_iload hx hb dX7_weigh_98 (lv_at hl 1 rfl) ?_
              refine lv_iconst (v := 3) hx hb dX7_weigh_100 (by decide) ?_
              have hPc_178 := hP.sub (ws' := [((ab 5), .inr (6, [.int 4, .int 8, .ref (ab 6), .int (nI (zb 2))])), ((ab 6), .inl ((cb 2), 32, .inl (fb 2)))]) [8, 9] rfl
              have hKc_179 := hK.sub (tys' := [((cb 2), .int)]) [4] rfl
              refine vp_callSi (va_Run.run (va_runV (As := [.int (nI k_23), .int 3]) (rest := [.ref w0, .ref sc]) ⟨hx, hb, hml, hown, hts⟩ (r_get_32 l dC dI (ab 5) (ab 6) (zb 2) (cb 2) (fb 2) (nI k_23) 3 (by omega)) (cwV 2 hts gX7_weigh_X6_get rfl rfl rfl (by decide +kernel) ⟨Nat.le_of_ble_eq_true rfl, Nat.le_of_ble_eq_true rfl⟩) ⟨fun a U g mk q => by obtain ⟨q0, qP, qK⟩ := q; exact ⟨q0, qP, va_K.moved (u := U) (U := U.calling g mk a) (Vm.Alike.refl U.vm) qK⟩, va_recv hK hP (ci := 6) (q0 := 8) rfl rfl, fun U hU hW => ⟨rfl, by rw [hU]; exact hPc_178, va_K.moved hW.alike hKc_179⟩⟩ rfl rfl hl.1 rfl (lv_room (Nat.le_of_ble_eq_true rfl)) dX7_weigh_101 ⟨Nat.le_of_ble_eq_true rfl, Nat.le_of_ble_eq_true rfl⟩)) (fun r_180 hw_181 => ?_)
              refine lv_iconst (v := 1) hx hb dX7_weigh_104 (by decide) ?_
              have hPc := hP.sub (ws' := [(sc, .inr (7, [.ref sw, .ref sh])), (sw, .inl (csw, 21, .inr (.inl f_90))), (sh, .inl (csh, 21, .inl f_91)), (w0, .inr (4, []))]) [0, 1, 2, 11] rfl
              have hDc := hD.sub (ws' := [(sc, .inr (7, [.ref sw, .ref sh])), (sw, .inl (csw, 21, .inr (.inl f_90))), (sh, .inl (csh, 21, .inl f_91)), (w0, .inr (4, []))]) [0, 1, 2, 11] (by decide) rfl
              have hKc := hK.sub (tys' := [(csw, .long), (csh, .int)]) [0, 1] rfl
              have hFc := va_free (wc := [(sc, .inr (7, [.ref sw, .ref sh])), (sw, .inl (csw, 21, .inr (.inl f_90))), (sh, .inl (csh, 21, .inl f_91)), (w0, .inr (4, []))]) hD hS hA [0, 1, 2, 11] rfl
              refine va_callv (va_runV (As := [.ref w0, .int r_180, .int 1]) (rest := []) ⟨hx, hb, hml, hown, hts⟩ (s_add_X4 l dC dI sc sw sh csw f_90 csh f_91 w0 r_180 1 H.size) (cwV 3 hts gX7_weigh_X7_addCounts rfl rfl rfl (by decide +kernel) ⟨Nat.le_of_ble_eq_true rfl, Nat.le_of_ble_eq_true rfl⟩) ⟨fun a U g mk q => by obtain ⟨q0, q1, qP, qK, qD⟩ := q; exact ⟨q0, q1, qP, va_K.moved (u := U) (U := U.calling g mk a) (Vm.Alike.refl U.vm) qK, qD⟩, va_recv hK hP (ci := 7) (q0 := 0) rfl rfl, fun U hU hW => ⟨rfl, by rw [hU], by rw [hU]; exact hPc, va_K.moved hW.alike hKc, hDc.weaken (fun _ _ _ _ => trivial)⟩⟩ rfl rfl hl.1 rfl (lv_room (Nat.le_of_ble_eq_true rfl)) dX7_weigh_105 ⟨Nat.le_of_ble_eq_true rfl, Nat.le_of_ble_eq_true rfl⟩) hS (fun q _ h => hFc q h) hFc (fun u_ t H1 locs ht hvm hw_183 hB hz1 hk1 hS => ?_)
              obtain ⟨gw_184, gh_185, hP1, hK1, hD1⟩ := hB
              rw [ht] at hP1
              have hK1 := va_K.moved hvm.symm hK1
              obtain ⟨hP, hD⟩ := va_join (wr := [((ab 0), .inr (0, [.ref (ab 1), .ref (ab 3), .ref (ab 5), .ref (ab 7), .ref (ab 9), .int (nI ub)])), ((ab 1), .inr (6, [.int 1, .int 5, .ref (ab 2), .int (nI (zb 0))])), ((ab 2), .inl ((cb 0), 5, .inl (fb 0))), ((ab 3), .inr (6, [.int 4, .int 5, .ref (ab 4), .int (nI (zb 1))])), ((ab 4), .inl ((cb 1), 20, .inl (fb 1))), ((ab 5), .inr (6, [.int 4, .int 8, .ref (ab 6), .int (nI (zb 2))])), ((ab 6), .inl ((cb 2), 32, .inl (fb 2))), (aw, .inl (cw, 6, .inr (.inr (.inr (.inr (tz_w w0 w1 w2 w3 w4 w5)))))), (w1, .inr (1, [])), (w2, .inr (10, [])), (w3, .inr (3, [])), (w4, .inr (9, [])), (w5, .inr (8, []))]) (w1 := [(sc, .inr (7, [.ref sw, .ref sh])), (sw, .inl (csw, 21, .inr (.inl gw_184))), (sh, .inl (csh, 21, .inl gh_185)), (w0, .inr (4, []))]) hP hD [0, 1, 2, 11] [3, 4, 5, 6, 7, 8, 9, 10, 12, 13, 14, 15, 16] rfl rfl (by decide) (by decide) hk1 hFc hP1 hD1
              generalize H1 = H at hP hS ⊢
              have hP : va_P (dC, dI) vwCl [((ab 0), .inr (0, [.ref (ab 1), .ref (ab 3), .ref (ab 5), .ref (ab 7), .ref (ab 9), .int (nI ub)])), ((ab 1), .inr (6, [.int 1, .int 5, .ref (ab 2), .int (nI (zb 0))])), ((ab 2), .inl ((cb 0), 5, .inl (fb 0))), ((ab 3), .inr (6, [.int 4, .int 5, .ref (ab 4), .int (nI (zb 1))])), ((ab 4), .inl ((cb 1), 20, .inl (fb 1))), ((ab 5), .inr (6, [.int 4, .int 8, .ref (ab 6), .int (nI (zb 2))])), ((ab 6), .inl ((cb 2), 32, .inl (fb 2))), (aw, .inl (cw, 6, .inr (.inr (.inr (.inr (tz_w w0 w1 w2 w3 w4 w5)))))), (w1, .inr (1, [])), (w2, .inr (10, [])), (w3, .inr (3, [])), (w4, .inr (9, [])), (w5, .inr (8, [])), (sc, .inr (7, [.ref sw, .ref sh])), (sw, .inl (csw, 21, .inr (.inl gw_184))), (sh, .inl (csh, 21, .inl gh_185)), (w0, .inr (4, []))] H := hP
              have hD : va_D A [((ab 0), .inr (0, [.ref (ab 1), .ref (ab 3), .ref (ab 5), .ref (ab 7), .ref (ab 9), .int (nI ub)])), ((ab 1), .inr (6, [.int 1, .int 5, .ref (ab 2), .int (nI (zb 0))])), ((ab 2), .inl ((cb 0), 5, .inl (fb 0))), ((ab 3), .inr (6, [.int 4, .int 5, .ref (ab 4), .int (nI (zb 1))])), ((ab 4), .inl ((cb 1), 20, .inl (fb 1))), ((ab 5), .inr (6, [.int 4, .int 8, .ref (ab 6), .int (nI (zb 2))])), ((ab 6), .inl ((cb 2), 32, .inl (fb 2))), (aw, .inl (cw, 6, .inr (.inr (.inr (.inr (tz_w w0 w1 w2 w3 w4 w5)))))), (w1, .inr (1, [])), (w2, .inr (10, [])), (w3, .inr (3, [])), (w4, .inr (9, [])), (w5, .inr (8, [])), (sc, .inr (7, [.ref sw, .ref sh])), (sw, .inl (csw, 21, .inr (.inl gw_184))), (sh, .inl (csh, 21, .inl gh_185)), (w0, .inr (4, []))] := hD
              refine lv_iinc (v := (nI (k_23 + 1))) (lv' := [(4, .int (nI (k_23 + 1))), (5, .int 0), (0, .ref sc), (1, .ref (ab 0)), (2, .int na), (3, .ref aw)]) hx hb dX7_weigh_108 hl (k := 1) rfl (nI_add k_23 1) (by decide) rfl (fun ls hl => ?_)
              refine lv_goto (tgt := 39) hx hb dX7_weigh_111 (by decide) ?_
              have hP := hP.sub (ws' := [(sc, .inr (7, [.ref sw, .ref sh])), (sw, .inl (csw, 21, .inr (.inl gw_184))), (sh, .inl (csh, 21, .inl gh_185)), ((ab 0), .inr (0, [.ref (ab 1), .ref (ab 3), .ref (ab 5), .ref (ab 7), .ref (ab 9), .int (nI ub)])), ((ab 1), .inr (6, [.int 1, .int 5, .ref (ab 2), .int (nI (zb 0))])), ((ab 2), .inl ((cb 0), 5, .inl (fb 0))), ((ab 3), .inr (6, [.int 4, .int 5, .ref (ab 4), .int (nI (zb 1))])), ((ab 4), .inl ((cb 1), 20, .inl (fb 1))), ((ab 5), .inr (6, [.int 4, .int 8, .ref (ab 6), .int (nI (zb 2))])), ((ab 6), .inl ((cb 2), 32, .inl (fb 2))), (aw, .inl (cw, 6, .inr (.inr (.inr (.inr (tz_w w0 w1 w2 w3 w4 w5)))))), (w0, .inr (4, [])), (w1, .inr (1, [])), (w2, .inr (10, [])), (w3, .inr (3, [])), (w4, .inr (9, [])), (w5, .inr (8, []))]) [13, 14, 15, 0, 1, 2, 3, 4, 5, 6, 7, 16, 8, 9, 10, 11, 12] rfl
              have hD := hD.sub (ws' := [(sc, .inr (7, [.ref sw, .ref sh])), (sw, .inl (csw, 21, .inr (.inl gw_184))), (sh, .inl (csh, 21, .inl gh_185)), ((ab 0), .inr (0, [.ref (ab 1), .ref (ab 3), .ref (ab 5), .ref (ab 7), .ref (ab 9), .int (nI ub)])), ((ab 1), .inr (6, [.int 1, .int 5, .ref (ab 2), .int (nI (zb 0))])), ((ab 2), .inl ((cb 0), 5, .inl (fb 0))), ((ab 3), .inr (6, [.int 4, .int 5, .ref (ab 4), .int (nI (zb 1))])), ((ab 4), .inl ((cb 1), 20, .inl (fb 1))), ((ab 5), .inr (6, [.int 4, .int 8, .ref (ab 6), .int (nI (zb 2))])), ((ab 6), .inl ((cb 2), 32, .inl (fb 2))), (aw, .inl (cw, 6, .inr (.inr (.inr (.inr (tz_w w0 w1 w2 w3 w4 w5)))))), (w0, .inr (4, [])), (w1, .inr (1, [])), (w2, .inr (10, [])), (w3, .inr (3, [])), (w4, .inr (9, [])), (w5, .inr (8, []))]) [13, 14, 15, 0, 1, 2, 3, 4, 5, 6, 7, 16, 8, 9, 10, 11, 12] (by decide) rfl
              exact ih_159 ((k_23 + 1), gw_184, gh_185, H, locs, ls) ⟨by dsimp only; omega, hP, hD, hS, lv_sub hl [0, 2, 3, 4, 5] rfl⟩ (by dsimp only; omega)
            · refine va_aldq hx hb hK hP 10 5 rfl rfl (show ¬ ((1 : Int32) < 0 ∨ 6 ≤ (1 : Int32).toNatClampNeg) by decide) dX7_weigh_93 ?_
              refine tz_v (.ref w1) rfl ?_
              refine lv_aload_n hx hb dX7_weigh_94 rfl (lv_at hl 3 rfl) ?_
              refine va_get (D := (dC, dI)) (ci := 0) (v := .ref (ab 5)) (C := RX0) (T := TX0) (N := 6) hx hb hts iw_s_weigh_X0 hown hK hP 3 rfl rfl 2 (by decide) (hts (.fieldLink RX7 23 "ThriceCounted$Bank" "counts" "LThriceCounted$Rows;") (by decide +kernel)) (fun _ h9 => h9) rfl dX7_weigh_95 ?_
              refine lv_iload hx hb dX7_weigh_98 (lv_at hl 1 rfl) ?_
              refine lv_iconst (v := 3) hx hb dX7_weigh_100 (by decide) ?_
              have hPc_186 := hP.sub (ws' := [((ab 5), .inr (6, [.int 4, .int 8, .ref (ab 6), .int (nI (zb 2))])), ((ab 6), .inl ((cb 2), 32, .inl (fb 2)))]) [8, 9] rfl
              have hKc_187 := hK.sub (tys' := [((cb 2), .int)]) [4] rfl
              refine vp_callSi (va_Run.run (va_runV (As := [.int (nI k_23), .int 3]) (rest := [.ref w1, .ref sc]) ⟨hx, hb, hml, hown, hts⟩ (r_get_32 l dC dI (ab 5) (ab 6) (zb 2) (cb 2) (fb 2) (nI k_23) 3 (by omega)) (cwV 2 hts gX7_weigh_X6_get rfl rfl rfl (by decide +kernel) ⟨Nat.le_of_ble_eq_true rfl, Nat.le_of_ble_eq_true rfl⟩) ⟨fun a U g mk q => by obtain ⟨q0, qP, qK⟩ := q; exact ⟨q0, qP, va_K.moved (u := U) (U := U.calling g mk a) (Vm.Alike.refl U.vm) qK⟩, va_recv hK hP (ci := 6) (q0 := 8) rfl rfl, fun U hU hW => ⟨rfl, by rw [hU]; exact hPc_186, va_K.moved hW.alike hKc_187⟩⟩ rfl rfl hl.1 rfl (lv_room (Nat.le_of_ble_eq_true rfl)) dX7_weigh_101 ⟨Nat.le_of_ble_eq_true rfl, Nat.le_of_ble_eq_true rfl⟩)) (fun r_188 hw_189 => ?_)
              refine lv_iconst (v := 1) hx hb dX7_weigh_104 (by decide) ?_
              have hPc := hP.sub (ws' := [(sc, .inr (7, [.ref sw, .ref sh])), (sw, .inl (csw, 21, .inr (.inl f_90))), (sh, .inl (csh, 21, .inl f_91)), (w1, .inr (1, []))]) [0, 1, 2, 12] rfl
              have hDc := hD.sub (ws' := [(sc, .inr (7, [.ref sw, .ref sh])), (sw, .inl (csw, 21, .inr (.inl f_90))), (sh, .inl (csh, 21, .inl f_91)), (w1, .inr (1, []))]) [0, 1, 2, 12] (by decide) rfl
              have hKc := hK.sub (tys' := [(csw, .long), (csh, .int)]) [0, 1] rfl
              have hFc := va_free (wc := [(sc, .inr (7, [.ref sw, .ref sh])), (sw, .inl (csw, 21, .inr (.inl f_90))), (sh, .inl (csh, 21, .inl f_91)), (w1, .inr (1, []))]) hD hS hA [0, 1, 2, 12] rfl
              refine va_callv (va_runV (As := [.ref w1, .int r_188, .int 1]) (rest := []) ⟨hx, hb, hml, hown, hts⟩ (s_add_X1 l dC dI sc sw sh csw f_90 csh f_91 w1 r_188 1 H.size) (cwV 3 hts gX7_weigh_X7_addCounts rfl rfl rfl (by decide +kernel) ⟨Nat.le_of_ble_eq_true rfl, Nat.le_of_ble_eq_true rfl⟩) ⟨fun a U g mk q => by obtain ⟨q0, q1, qP, qK, qD⟩ := q; exact ⟨q0, q1, qP, va_K.moved (u := U) (U := U.calling g mk a) (Vm.Alike.refl U.vm) qK, qD⟩, va_recv hK hP (ci := 7) (q0 := 0) rfl rfl, fun U hU hW => ⟨rfl, by rw [hU], by rw [hU]; exact hPc, va_K.moved hW.alike hKc, hDc.weaken (fun _ _ _ _ => trivial)⟩⟩ rfl rfl hl.1 rfl (lv_room (Nat.le_of_ble_eq_true rfl)) dX7_weigh_105 ⟨Nat.le_of_ble_eq_true rfl, Nat.le_of_ble_eq_true rfl⟩) hS (fun q _ h => hFc q h) hFc (fun u_ t H1 locs ht hvm hw_191 hB hz1 hk1 hS => ?_)
              obtain ⟨gw_192, gh_193, hP1, hK1, hD1⟩ := hB
              rw [ht] at hP1
              have hK1 := va_K.moved hvm.symm hK1
              obtain ⟨hP, hD⟩ := va_join (wr := [((ab 0), .inr (0, [.ref (ab 1), .ref (ab 3), .ref (ab 5), .ref (ab 7), .ref (ab 9), .int (nI ub)])), ((ab 1), .inr (6, [.int 1, .int 5, .ref (ab 2), .int (nI (zb 0))])), ((ab 2), .inl ((cb 0), 5, .inl (fb 0))), ((ab 3), .inr (6, [.int 4, .int 5, .ref (ab 4), .int (nI (zb 1))])), ((ab 4), .inl ((cb 1), 20, .inl (fb 1))), ((ab 5), .inr (6, [.int 4, .int 8, .ref (ab 6), .int (nI (zb 2))])), ((ab 6), .inl ((cb 2), 32, .inl (fb 2))), (aw, .inl (cw, 6, .inr (.inr (.inr (.inr (tz_w w0 w1 w2 w3 w4 w5)))))), (w0, .inr (4, [])), (w2, .inr (10, [])), (w3, .inr (3, [])), (w4, .inr (9, [])), (w5, .inr (8, []))]) (w1 := [(sc, .inr (7, [.ref sw, .ref sh])), (sw, .inl (csw, 21, .inr (.inl gw_192))), (sh, .inl (csh, 21, .inl gh_193)), (w1, .inr (1, []))]) hP hD [0, 1, 2, 12] [3, 4, 5, 6, 7, 8, 9, 10, 11, 13, 14, 15, 16] rfl rfl (by decide) (by decide) hk1 hFc hP1 hD1
              generalize H1 = H at hP hS ⊢
              have hP : va_P (dC, dI) vwCl [((ab 0), .inr (0, [.ref (ab 1), .ref (ab 3), .ref (ab 5), .ref (ab 7), .ref (ab 9), .int (nI ub)])), ((ab 1), .inr (6, [.int 1, .int 5, .ref (ab 2), .int (nI (zb 0))])), ((ab 2), .inl ((cb 0), 5, .inl (fb 0))), ((ab 3), .inr (6, [.int 4, .int 5, .ref (ab 4), .int (nI (zb 1))])), ((ab 4), .inl ((cb 1), 20, .inl (fb 1))), ((ab 5), .inr (6, [.int 4, .int 8, .ref (ab 6), .int (nI (zb 2))])), ((ab 6), .inl ((cb 2), 32, .inl (fb 2))), (aw, .inl (cw, 6, .inr (.inr (.inr (.inr (tz_w w0 w1 w2 w3 w4 w5)))))), (w0, .inr (4, [])), (w2, .inr (10, [])), (w3, .inr (3, [])), (w4, .inr (9, [])), (w5, .inr (8, [])), (sc, .inr (7, [.ref sw, .ref sh])), (sw, .inl (csw, 21, .inr (.inl gw_192))), (sh, .inl (csh, 21, .inl gh_193)), (w1, .inr (1, []))] H := hP
              have hD : va_D A [((ab 0), .inr (0, [.ref (ab 1), .ref (ab 3), .ref (ab 5), .ref (ab 7), .ref (ab 9), .int (nI ub)])), ((ab 1), .inr (6, [.int 1, .int 5, .ref (ab 2), .int (nI (zb 0))])), ((ab 2), .inl ((cb 0), 5, .inl (fb 0))), ((ab 3), .inr (6, [.int 4, .int 5, .ref (ab 4), .int (nI (zb 1))])), ((ab 4), .inl ((cb 1), 20, .inl (fb 1))), ((ab 5), .inr (6, [.int 4, .int 8, .ref (ab 6), .int (nI (zb 2))])), ((ab 6), .inl ((cb 2), 32, .inl (fb 2))), (aw, .inl (cw, 6, .inr (.inr (.inr (.inr (tz_w w0 w1 w2 w3 w4 w5)))))), (w0, .inr (4, [])), (w2, .inr (10, [])), (w3, .inr (3, [])), (w4, .inr (9, [])), (w5, .inr (8, [])), (sc, .inr (7, [.ref sw, .ref sh])), (sw, .inl (csw, 21, .inr (.inl gw_192))), (sh, .inl (csh, 21, .inl gh_193)), (w1, .inr (1, []))] := hD
              refine lv_iinc (v := (nI (k_23 + 1))) (lv' := [(4, .int (nI (k_23 + 1))), (5, .int 1), (0, .ref sc), (1, .ref (ab 0)), (2, .int na), (3, .ref aw)]) hx hb dX7_weigh_108 hl (k := 1) rfl (nI_add k_23 1) (by decide) rfl (fun ls hl => ?_)
              refine lv_goto (tgt := 39) hx hb dX7_weigh_111 (by decide) ?_
              have hP := hP.sub (ws' := [(sc, .inr (7, [.ref sw, .ref sh])), (sw, .inl (csw, 21, .inr (.inl gw_192))), (sh, .inl (csh, 21, .inl gh_193)), ((ab 0), .inr (0, [.ref (ab 1), .ref (ab 3), .ref (ab 5), .ref (ab 7), .ref (ab 9), .int (nI ub)])), ((ab 1), .inr (6, [.int 1, .int 5, .ref (ab 2), .int (nI (zb 0))])), ((ab 2), .inl ((cb 0), 5, .inl (fb 0))), ((ab 3), .inr (6, [.int 4, .int 5, .ref (ab 4), .int (nI (zb 1))])), ((ab 4), .inl ((cb 1), 20, .inl (fb 1))), ((ab 5), .inr (6, [.int 4, .int 8, .ref (ab 6), .int (nI (zb 2))])), ((ab 6), .inl ((cb 2), 32, .inl (fb 2))), (aw, .inl (cw, 6, .inr (.inr (.inr (.inr (tz_w w0 w1 w2 w3 w4 w5)))))), (w0, .inr (4, [])), (w1, .inr (1, [])), (w2, .inr (10, [])), (w3, .inr (3, [])), (w4, .inr (9, [])), (w5, .inr (8, []))]) [13, 14, 15, 0, 1, 2, 3, 4, 5, 6, 7, 8, 16, 9, 10, 11, 12] rfl
              have hD := hD.sub (ws' := [(sc, .inr (7, [.ref sw, .ref sh])), (sw, .inl (csw, 21, .inr (.inl gw_192))), (sh, .inl (csh, 21, .inl gh_193)), ((ab 0), .inr (0, [.ref (ab 1), .ref (ab 3), .ref (ab 5), .ref (ab 7), .ref (ab 9), .int (nI ub)])), ((ab 1), .inr (6, [.int 1, .int 5, .ref (ab 2), .int (nI (zb 0))])), ((ab 2), .inl ((cb 0), 5, .inl (fb 0))), ((ab 3), .inr (6, [.int 4, .int 5, .ref (ab 4), .int (nI (zb 1))])), ((ab 4), .inl ((cb 1), 20, .inl (fb 1))), ((ab 5), .inr (6, [.int 4, .int 8, .ref (ab 6), .int (nI (zb 2))])), ((ab 6), .inl ((cb 2), 32, .inl (fb 2))), (aw, .inl (cw, 6, .inr (.inr (.inr (.inr (tz_w w0 w1 w2 w3 w4 w5)))))), (w0, .inr (4, [])), (w1, .inr (1, [])), (w2, .inr (10, [])), (w3, .inr (3, [])), (w4, .inr (9, [])), (w5, .inr (8, []))]) [13, 14, 15, 0, 1, 2, 3, 4, 5, 6, 7, 8, 16, 9, 10, 11, 12] (by decide) rfl
              exact ih_159 ((k_23 + 1), gw_192, gh_193, H, locs, ls) ⟨by dsimp only; omega, hP, hD, hS, lv_sub hl [0, 2, 3, 4, 5] rfl⟩ (by dsimp only; omega)
            · refine va_aldq hx hb hK hP 10 5 rfl rfl (show ¬ ((2 : Int32) < 0 ∨ 6 ≤ (2 : Int32).toNatClampNeg) by decide) dX7_weigh_93 ?_
              refine tz_v (.ref w2) rfl ?_
              refine lv_aload_n hx hb dX7_weigh_94 rfl (lv_at hl 3 rfl) ?_
              refine va_get (D := (dC, dI)) (ci := 0) (v := .ref (ab 5)) (C := RX0) (T := TX0) (N := 6) hx hb hts iw_s_weigh_X0 hown hK hP 3 rfl rfl 2 (by decide) (hts (.fieldLink RX7 23 "ThriceCounted$Bank" "counts" "LThriceCounted$Rows;") (by decide +kernel)) (fun _ h9 => h9) rfl dX7_weigh_95 ?_
              refine lv_iload hx hb dX7_weigh_98 (lv_at hl 1 rfl) ?_
              refine lv_iconst (v := 3) hx hb dX7_weigh_100 (by decide) ?_
              have hPc_194 := hP.sub (ws' := [((ab 5), .inr (6, [.int 4, .int 8, .ref (ab 6), .int (nI (zb 2))])), ((ab 6), .inl ((cb 2), 32, .inl (fb 2)))]) [8, 9] rfl
              have hKc_195 := hK.sub (tys' := [((cb 2), .int)]) [4] rfl
              refine vp_callSi (va_Run.run (va_runV (As := [.int (nI k_23), .int 3]) (rest := [.ref w2, .ref sc]) ⟨hx, hb, hml, hown, hts⟩ (r_get_32 l dC dI (ab 5) (ab 6) (zb 2) (cb 2) (fb 2) (nI k_23) 3 (by omega)) (cwV 2 hts gX7_weigh_X6_get rfl rfl rfl (by decide +kernel) ⟨Nat.le_of_ble_eq_true rfl, Nat.le_of_ble_eq_true rfl⟩) ⟨fun a U g mk q => by obtain ⟨q0, qP, qK⟩ := q; exact ⟨q0, qP, va_K.moved (u := U) (U := U.calling g mk a) (Vm.Alike.refl U.vm) qK⟩, va_recv hK hP (ci := 6) (q0 := 8) rfl rfl, fun U hU hW => ⟨rfl, by rw [hU]; exact hPc_194, va_K.moved hW.alike hKc_195⟩⟩ rfl rfl hl.1 rfl (lv_room (Nat.le_of_ble_eq_true rfl)) dX7_weigh_101 ⟨Nat.le_of_ble_eq_true rfl, Nat.le_of_ble_eq_true rfl⟩)) (fun r_196 hw_197 => ?_)
              refine lv_iconst (v := 1) hx hb dX7_weigh_104 (by decide) ?_
              have hPc := hP.sub (ws' := [(sc, .inr (7, [.ref sw, .ref sh])), (sw, .inl (csw, 21, .inr (.inl f_90))), (sh, .inl (csh, 21, .inl f_91)), (w2, .inr (10, []))]) [0, 1, 2, 13] rfl
              have hDc := hD.sub (ws' := [(sc, .inr (7, [.ref sw, .ref sh])), (sw, .inl (csw, 21, .inr (.inl f_90))), (sh, .inl (csh, 21, .inl f_91)), (w2, .inr (10, []))]) [0, 1, 2, 13] (by decide) rfl
              have hKc := hK.sub (tys' := [(csw, .long), (csh, .int)]) [0, 1] rfl
              have hFc := va_free (wc := [(sc, .inr (7, [.ref sw, .ref sh])), (sw, .inl (csw, 21, .inr (.inl f_90))), (sh, .inl (csh, 21, .inl f_91)), (w2, .inr (10, []))]) hD hS hA [0, 1, 2, 13] rfl
              refine va_callv (va_runV (As := [.ref w2, .int r_196, .int 1]) (rest := []) ⟨hx, hb, hml, hown, hts⟩ (s_add_X10 l dC dI sc sw sh csw f_90 csh f_91 w2 r_196 1 H.size) (cwV 3 hts gX7_weigh_X7_addCounts rfl rfl rfl (by decide +kernel) ⟨Nat.le_of_ble_eq_true rfl, Nat.le_of_ble_eq_true rfl⟩) ⟨fun a U g mk q => by obtain ⟨q0, q1, qP, qK, qD⟩ := q; exact ⟨q0, q1, qP, va_K.moved (u := U) (U := U.calling g mk a) (Vm.Alike.refl U.vm) qK, qD⟩, va_recv hK hP (ci := 7) (q0 := 0) rfl rfl, fun U hU hW => ⟨rfl, by rw [hU], by rw [hU]; exact hPc, va_K.moved hW.alike hKc, hDc.weaken (fun _ _ _ _ => trivial)⟩⟩ rfl rfl hl.1 rfl (lv_room (Nat.le_of_ble_eq_true rfl)) dX7_weigh_105 ⟨Nat.le_of_ble_eq_true rfl, Nat.le_of_ble_eq_true rfl⟩) hS (fun q _ h => hFc q h) hFc (fun u_ t H1 locs ht hvm hw_199 hB hz1 hk1 hS => ?_)
              obtain ⟨gw_200, gh_201, hP1, hK1, hD1⟩ := hB
              rw [ht] at hP1
              have hK1 := va_K.moved hvm.symm hK1
              obtain ⟨hP, hD⟩ := va_join (wr := [((ab 0), .inr (0, [.ref (ab 1), .ref (ab 3), .ref (ab 5), .ref (ab 7), .ref (ab 9), .int (nI ub)])), ((ab 1), .inr (6, [.int 1, .int 5, .ref (ab 2), .int (nI (zb 0))])), ((ab 2), .inl ((cb 0), 5, .inl (fb 0))), ((ab 3), .inr (6, [.int 4, .int 5, .ref (ab 4), .int (nI (zb 1))])), ((ab 4), .inl ((cb 1), 20, .inl (fb 1))), ((ab 5), .inr (6, [.int 4, .int 8, .ref (ab 6), .int (nI (zb 2))])), ((ab 6), .inl ((cb 2), 32, .inl (fb 2))), (aw, .inl (cw, 6, .inr (.inr (.inr (.inr (tz_w w0 w1 w2 w3 w4 w5)))))), (w0, .inr (4, [])), (w1, .inr (1, [])), (w3, .inr (3, [])), (w4, .inr (9, [])), (w5, .inr (8, []))]) (w1 := [(sc, .inr (7, [.ref sw, .ref sh])), (sw, .inl (csw, 21, .inr (.inl gw_200))), (sh, .inl (csh, 21, .inl gh_201)), (w2, .inr (10, []))]) hP hD [0, 1, 2, 13] [3, 4, 5, 6, 7, 8, 9, 10, 11, 12, 14, 15, 16] rfl rfl (by decide) (by decide) hk1 hFc hP1 hD1
              generalize H1 = H at hP hS ⊢
              have hP : va_P (dC, dI) vwCl [((ab 0), .inr (0, [.ref (ab 1), .ref (ab 3), .ref (ab 5), .ref (ab 7), .ref (ab 9), .int (nI ub)])), ((ab 1), .inr (6, [.int 1, .int 5, .ref (ab 2), .int (nI (zb 0))])), ((ab 2), .inl ((cb 0), 5, .inl (fb 0))), ((ab 3), .inr (6, [.int 4, .int 5, .ref (ab 4), .int (nI (zb 1))])), ((ab 4), .inl ((cb 1), 20, .inl (fb 1))), ((ab 5), .inr (6, [.int 4, .int 8, .ref (ab 6), .int (nI (zb 2))])), ((ab 6), .inl ((cb 2), 32, .inl (fb 2))), (aw, .inl (cw, 6, .inr (.inr (.inr (.inr (tz_w w0 w1 w2 w3 w4 w5)))))), (w0, .inr (4, [])), (w1, .inr (1, [])), (w3, .inr (3, [])), (w4, .inr (9, [])), (w5, .inr (8, [])), (sc, .inr (7, [.ref sw, .ref sh])), (sw, .inl (csw, 21, .inr (.inl gw_200))), (sh, .inl (csh, 21, .inl gh_201)), (w2, .inr (10, []))] H := hP
              have hD : va_D A [((ab 0), .inr (0, [.ref (ab 1), .ref (ab 3), .ref (ab 5), .ref (ab 7), .ref (ab 9), .int (nI ub)])), ((ab 1), .inr (6, [.int 1, .int 5, .ref (ab 2), .int (nI (zb 0))])), ((ab 2), .inl ((cb 0), 5, .inl (fb 0))), ((ab 3), .inr (6, [.int 4, .int 5, .ref (ab 4), .int (nI (zb 1))])), ((ab 4), .inl ((cb 1), 20, .inl (fb 1))), ((ab 5), .inr (6, [.int 4, .int 8, .ref (ab 6), .int (nI (zb 2))])), ((ab 6), .inl ((cb 2), 32, .inl (fb 2))), (aw, .inl (cw, 6, .inr (.inr (.inr (.inr (tz_w w0 w1 w2 w3 w4 w5)))))), (w0, .inr (4, [])), (w1, .inr (1, [])), (w3, .inr (3, [])), (w4, .inr (9, [])), (w5, .inr (8, [])), (sc, .inr (7, [.ref sw, .ref sh])), (sw, .inl (csw, 21, .inr (.inl gw_200))), (sh, .inl (csh, 21, .inl gh_201)), (w2, .inr (10, []))] := hD
              refine lv_iinc (v := (nI (k_23 + 1))) (lv' := [(4, .int (nI (k_23 + 1))), (5, .int 2), (0, .ref sc), (1, .ref (ab 0)), (2, .int na), (3, .ref aw)]) hx hb dX7_weigh_108 hl (k := 1) rfl (nI_add k_23 1) (by decide) rfl (fun ls hl => ?_)
              refine lv_goto (tgt := 39) hx hb dX7_weigh_111 (by decide) ?_
              have hP := hP.sub (ws' := [(sc, .inr (7, [.ref sw, .ref sh])), (sw, .inl (csw, 21, .inr (.inl gw_200))), (sh, .inl (csh, 21, .inl gh_201)), ((ab 0), .inr (0, [.ref (ab 1), .ref (ab 3), .ref (ab 5), .ref (ab 7), .ref (ab 9), .int (nI ub)])), ((ab 1), .inr (6, [.int 1, .int 5, .ref (ab 2), .int (nI (zb 0))])), ((ab 2), .inl ((cb 0), 5, .inl (fb 0))), ((ab 3), .inr (6, [.int 4, .int 5, .ref (ab 4), .int (nI (zb 1))])), ((ab 4), .inl ((cb 1), 20, .inl (fb 1))), ((ab 5), .inr (6, [.int 4, .int 8, .ref (ab 6), .int (nI (zb 2))])), ((ab 6), .inl ((cb 2), 32, .inl (fb 2))), (aw, .inl (cw, 6, .inr (.inr (.inr (.inr (tz_w w0 w1 w2 w3 w4 w5)))))), (w0, .inr (4, [])), (w1, .inr (1, [])), (w2, .inr (10, [])), (w3, .inr (3, [])), (w4, .inr (9, [])), (w5, .inr (8, []))]) [13, 14, 15, 0, 1, 2, 3, 4, 5, 6, 7, 8, 9, 16, 10, 11, 12] rfl
              have hD := hD.sub (ws' := [(sc, .inr (7, [.ref sw, .ref sh])), (sw, .inl (csw, 21, .inr (.inl gw_200))), (sh, .inl (csh, 21, .inl gh_201)), ((ab 0), .inr (0, [.ref (ab 1), .ref (ab 3), .ref (ab 5), .ref (ab 7), .ref (ab 9), .int (nI ub)])), ((ab 1), .inr (6, [.int 1, .int 5, .ref (ab 2), .int (nI (zb 0))])), ((ab 2), .inl ((cb 0), 5, .inl (fb 0))), ((ab 3), .inr (6, [.int 4, .int 5, .ref (ab 4), .int (nI (zb 1))])), ((ab 4), .inl ((cb 1), 20, .inl (fb 1))), ((ab 5), .inr (6, [.int 4, .int 8, .ref (ab 6), .int (nI (zb 2))])), ((ab 6), .inl ((cb 2), 32, .inl (fb 2))), (aw, .inl (cw, 6, .inr (.inr (.inr (.inr (tz_w w0 w1 w2 w3 w4 w5)))))), (w0, .inr (4, [])), (w1, .inr (1, [])), (w2, .inr (10, [])), (w3, .inr (3, [])), (w4, .inr (9, [])), (w5, .inr (8, []))]) [13, 14, 15, 0, 1, 2, 3, 4, 5, 6, 7, 8, 9, 16, 10, 11, 12] (by decide) rfl
              exact ih_159 ((k_23 + 1), gw_200, gh_201, H, locs, ls) ⟨by dsimp only; omega, hP, hD, hS, lv_sub hl [0, 2, 3, 4, 5] rfl⟩ (by dsimp only; omega)
            · refine va_aldq hx hb hK hP 10 5 rfl rfl (show ¬ ((3 : Int32) < 0 ∨ 6 ≤ (3 : Int32).toNatClampNeg) by decide) dX7_weigh_93 ?_
              refine tz_v (.ref w3) rfl ?_
              refine lv_aload_n hx hb dX7_weigh_94 rfl (lv_at hl 3 rfl) ?_
              refine va_get (D := (dC, dI)) (ci := 0) (v := .ref (ab 5)) (C := RX0) (T := TX0) (N := 6) hx hb hts iw_s_weigh_X0 hown hK hP 3 rfl rfl 2 (by decide) (hts (.fieldLink RX7 23 "ThriceCounted$Bank" "counts" "LThriceCounted$Rows;") (by decide +kernel)) (fun _ h9 => h9) rfl dX7_weigh_95 ?_
              refine lv_iload hx hb dX7_weigh_98 (lv_at hl 1 rfl) ?_
              refine lv_iconst (v := 3) hx hb dX7_weigh_100 (by decide) ?_
              have hPc_202 := hP.sub (ws' := [((ab 5), .inr (6, [.int 4, .int 8, .ref (ab 6), .int (nI (zb 2))])), ((ab 6), .inl ((cb 2), 32, .inl (fb 2)))]) [8, 9] rfl
              have hKc_203 := hK.sub (tys' := [((cb 2), .int)]) [4] rfl
              refine vp_callSi (va_Run.run (va_runV (As := [.int (nI k_23), .int 3]) (rest := [.ref w3, .ref sc]) ⟨hx, hb, hml, hown, hts⟩ (r_get_32 l dC dI (ab 5) (ab 6) (zb 2) (cb 2) (fb 2) (nI k_23) 3 (by omega)) (cwV 2 hts gX7_weigh_X6_get rfl rfl rfl (by decide +kernel) ⟨Nat.le_of_ble_eq_true rfl, Nat.le_of_ble_eq_true rfl⟩) ⟨fun a U g mk q => by obtain ⟨q0, qP, qK⟩ := q; exact ⟨q0, qP, va_K.moved (u := U) (U := U.calling g mk a) (Vm.Alike.refl U.vm) qK⟩, va_recv hK hP (ci := 6) (q0 := 8) rfl rfl, fun U hU hW => ⟨rfl, by rw [hU]; exact hPc_202, va_K.moved hW.alike hKc_203⟩⟩ rfl rfl hl.1 rfl (lv_room (Nat.le_of_ble_eq_true rfl)) dX7_weigh_101 ⟨Nat.le_of_ble_eq_true rfl, Nat.le_of_ble_eq_true rfl⟩)) (fun r_204 hw_205 => ?_)
              refine lv_iconst (v := 1) hx hb dX7_weigh_104 (by decide) ?_
              have hPc := hP.sub (ws' := [(sc, .inr (7, [.ref sw, .ref sh])), (sw, .inl (csw, 21, .inr (.inl f_90))), (sh, .inl (csh, 21, .inl f_91)), (w3, .inr (3, []))]) [0, 1, 2, 14] rfl
              have hDc := hD.sub (ws' := [(sc, .inr (7, [.ref sw, .ref sh])), (sw, .inl (csw, 21, .inr (.inl f_90))), (sh, .inl (csh, 21, .inl f_91)), (w3, .inr (3, []))]) [0, 1, 2, 14] (by decide) rfl
              have hKc := hK.sub (tys' := [(csw, .long), (csh, .int)]) [0, 1] rfl
              have hFc := va_free (wc := [(sc, .inr (7, [.ref sw, .ref sh])), (sw, .inl (csw, 21, .inr (.inl f_90))), (sh, .inl (csh, 21, .inl f_91)), (w3, .inr (3, []))]) hD hS hA [0, 1, 2, 14] rfl
              refine va_callv (va_runV (As := [.ref w3, .int r_204, .int 1]) (rest := []) ⟨hx, hb, hml, hown, hts⟩ (s_add_X3 l dC dI sc sw sh csw f_90 csh f_91 w3 r_204 1 H.size) (cwV 3 hts gX7_weigh_X7_addCounts rfl rfl rfl (by decide +kernel) ⟨Nat.le_of_ble_eq_true rfl, Nat.le_of_ble_eq_true rfl⟩) ⟨fun a U g mk q => by obtain ⟨q0, q1, qP, qK, qD⟩ := q; exact ⟨q0, q1, qP, va_K.moved (u := U) (U := U.calling g mk a) (Vm.Alike.refl U.vm) qK, qD⟩, va_recv hK hP (ci := 7) (q0 := 0) rfl rfl, fun U hU hW => ⟨rfl, by rw [hU], by rw [hU]; exact hPc, va_K.moved hW.alike hKc, hDc.weaken (fun _ _ _ _ => trivial)⟩⟩ rfl rfl hl.1 rfl (lv_room (Nat.le_of_ble_eq_true rfl)) dX7_weigh_105 ⟨Nat.le_of_ble_eq_true rfl, Nat.le_of_ble_eq_true rfl⟩) hS (fun q _ h => hFc q h) hFc (fun u_ t H1 locs ht hvm hw_207 hB hz1 hk1 hS => ?_)
              obtain ⟨gw_208, gh_209, hP1, hK1, hD1⟩ := hB
              rw [ht] at hP1
              have hK1 := va_K.moved hvm.symm hK1
              obtain ⟨hP, hD⟩ := va_join (wr := [((ab 0), .inr (0, [.ref (ab 1), .ref (ab 3), .ref (ab 5), .ref (ab 7), .ref (ab 9), .int (nI ub)])), ((ab 1), .inr (6, [.int 1, .int 5, .ref (ab 2), .int (nI (zb 0))])), ((ab 2), .inl ((cb 0), 5, .inl (fb 0))), ((ab 3), .inr (6, [.int 4, .int 5, .ref (ab 4), .int (nI (zb 1))])), ((ab 4), .inl ((cb 1), 20, .inl (fb 1))), ((ab 5), .inr (6, [.int 4, .int 8, .ref (ab 6), .int (nI (zb 2))])), ((ab 6), .inl ((cb 2), 32, .inl (fb 2))), (aw, .inl (cw, 6, .inr (.inr (.inr (.inr (tz_w w0 w1 w2 w3 w4 w5)))))), (w0, .inr (4, [])), (w1, .inr (1, [])), (w2, .inr (10, [])), (w4, .inr (9, [])), (w5, .inr (8, []))]) (w1 := [(sc, .inr (7, [.ref sw, .ref sh])), (sw, .inl (csw, 21, .inr (.inl gw_208))), (sh, .inl (csh, 21, .inl gh_209)), (w3, .inr (3, []))]) hP hD [0, 1, 2, 14] [3, 4, 5, 6, 7, 8, 9, 10, 11, 12, 13, 15, 16] rfl rfl (by decide) (by decide) hk1 hFc hP1 hD1
              generalize H1 = H at hP hS ⊢
              have hP : va_P (dC, dI) vwCl [((ab 0), .inr (0, [.ref (ab 1), .ref (ab 3), .ref (ab 5), .ref (ab 7), .ref (ab 9), .int (nI ub)])), ((ab 1), .inr (6, [.int 1, .int 5, .ref (ab 2), .int (nI (zb 0))])), ((ab 2), .inl ((cb 0), 5, .inl (fb 0))), ((ab 3), .inr (6, [.int 4, .int 5, .ref (ab 4), .int (nI (zb 1))])), ((ab 4), .inl ((cb 1), 20, .inl (fb 1))), ((ab 5), .inr (6, [.int 4, .int 8, .ref (ab 6), .int (nI (zb 2))])), ((ab 6), .inl ((cb 2), 32, .inl (fb 2))), (aw, .inl (cw, 6, .inr (.inr (.inr (.inr (tz_w w0 w1 w2 w3 w4 w5)))))), (w0, .inr (4, [])), (w1, .inr (1, [])), (w2, .inr (10, [])), (w4, .inr (9, [])), (w5, .inr (8, [])), (sc, .inr (7, [.ref sw, .ref sh])), (sw, .inl (csw, 21, .inr (.inl gw_208))), (sh, .inl (csh, 21, .inl gh_209)), (w3, .inr (3, []))] H := hP
              have hD : va_D A [((ab 0), .inr (0, [.ref (ab 1), .ref (ab 3), .ref (ab 5), .ref (ab 7), .ref (ab 9), .int (nI ub)])), ((ab 1), .inr (6, [.int 1, .int 5, .ref (ab 2), .int (nI (zb 0))])), ((ab 2), .inl ((cb 0), 5, .inl (fb 0))), ((ab 3), .inr (6, [.int 4, .int 5, .ref (ab 4), .int (nI (zb 1))])), ((ab 4), .inl ((cb 1), 20, .inl (fb 1))), ((ab 5), .inr (6, [.int 4, .int 8, .ref (ab 6), .int (nI (zb 2))])), ((ab 6), .inl ((cb 2), 32, .inl (fb 2))), (aw, .inl (cw, 6, .inr (.inr (.inr (.inr (tz_w w0 w1 w2 w3 w4 w5)))))), (w0, .inr (4, [])), (w1, .inr (1, [])), (w2, .inr (10, [])), (w4, .inr (9, [])), (w5, .inr (8, [])), (sc, .inr (7, [.ref sw, .ref sh])), (sw, .inl (csw, 21, .inr (.inl gw_208))), (sh, .inl (csh, 21, .inl gh_209)), (w3, .inr (3, []))] := hD
              refine lv_iinc (v := (nI (k_23 + 1))) (lv' := [(4, .int (nI (k_23 + 1))), (5, .int 3), (0, .ref sc), (1, .ref (ab 0)), (2, .int na), (3, .ref aw)]) hx hb dX7_weigh_108 hl (k := 1) rfl (nI_add k_23 1) (by decide) rfl (fun ls hl => ?_)
              refine lv_goto (tgt := 39) hx hb dX7_weigh_111 (by decide) ?_
              have hP := hP.sub (ws' := [(sc, .inr (7, [.ref sw, .ref sh])), (sw, .inl (csw, 21, .inr (.inl gw_208))), (sh, .inl (csh, 21, .inl gh_209)), ((ab 0), .inr (0, [.ref (ab 1), .ref (ab 3), .ref (ab 5), .ref (ab 7), .ref (ab 9), .int (nI ub)])), ((ab 1), .inr (6, [.int 1, .int 5, .ref (ab 2), .int (nI (zb 0))])), ((ab 2), .inl ((cb 0), 5, .inl (fb 0))), ((ab 3), .inr (6, [.int 4, .int 5, .ref (ab 4), .int (nI (zb 1))])), ((ab 4), .inl ((cb 1), 20, .inl (fb 1))), ((ab 5), .inr (6, [.int 4, .int 8, .ref (ab 6), .int (nI (zb 2))])), ((ab 6), .inl ((cb 2), 32, .inl (fb 2))), (aw, .inl (cw, 6, .inr (.inr (.inr (.inr (tz_w w0 w1 w2 w3 w4 w5)))))), (w0, .inr (4, [])), (w1, .inr (1, [])), (w2, .inr (10, [])), (w3, .inr (3, [])), (w4, .inr (9, [])), (w5, .inr (8, []))]) [13, 14, 15, 0, 1, 2, 3, 4, 5, 6, 7, 8, 9, 10, 16, 11, 12] rfl
              have hD := hD.sub (ws' := [(sc, .inr (7, [.ref sw, .ref sh])), (sw, .inl (csw, 21, .inr (.inl gw_208))), (sh, .inl (csh, 21, .inl gh_209)), ((ab 0), .inr (0, [.ref (ab 1), .ref (ab 3), .ref (ab 5), .ref (ab 7), .ref (ab 9), .int (nI ub)])), ((ab 1), .inr (6, [.int 1, .int 5, .ref (ab 2), .int (nI (zb 0))])), ((ab 2), .inl ((cb 0), 5, .inl (fb 0))), ((ab 3), .inr (6, [.int 4, .int 5, .ref (ab 4), .int (nI (zb 1))])), ((ab 4), .inl ((cb 1), 20, .inl (fb 1))), ((ab 5), .inr (6, [.int 4, .int 8, .ref (ab 6), .int (nI (zb 2))])), ((ab 6), .inl ((cb 2), 32, .inl (fb 2))), (aw, .inl (cw, 6, .inr (.inr (.inr (.inr (tz_w w0 w1 w2 w3 w4 w5)))))), (w0, .inr (4, [])), (w1, .inr (1, [])), (w2, .inr (10, [])), (w3, .inr (3, [])), (w4, .inr (9, [])), (w5, .inr (8, []))]) [13, 14, 15, 0, 1, 2, 3, 4, 5, 6, 7, 8, 9, 10, 16, 11, 12] (by decide) rfl
              exact ih_159 ((k_23 + 1), gw_208, gh_209, H, locs, ls) ⟨by dsimp only; omega, hP, hD, hS, lv_sub hl [0, 2, 3, 4, 5] rfl⟩ (by dsimp only; omega)
            · refine va_aldq hx hb hK hP 10 5 rfl rfl (show ¬ ((4 : Int32) < 0 ∨ 6 ≤ (4 : Int32).toNatClampNeg) by decide) dX7_weigh_93 ?_
              refine tz_v (.ref w4) rfl ?_
              refine lv_aload_n hx hb dX7_weigh_94 rfl (lv_at hl 3 rfl) ?_
              refine va_get (D := (dC, dI)) (ci := 0) (v := .ref (ab 5)) (C := RX0) (T := TX0) (N := 6) hx hb hts iw_s_weigh_X0 hown hK hP 3 rfl rfl 2 (by decide) (hts (.fieldLink RX7 23 "ThriceCounted$Bank" "counts" "LThriceCounted$Rows;") (by decide +kernel)) (fun _ h9 => h9) rfl dX7_weigh_95 ?_
              refine lv_iload hx hb dX7_weigh_98 (lv_at hl 1 rfl) ?_
              refine lv_iconst (v := 3) hx hb dX7_weigh_100 (by decide) ?_
              have hPc_210 := hP.sub (ws' := [((ab 5), .inr (6, [.int 4, .int 8, .ref (ab 6), .int (nI (zb 2))])), ((ab 6), .inl ((cb 2), 32, .inl (fb 2)))]) [8, 9] rfl
              have hKc_211 := hK.sub (tys' := [((cb 2), .int)]) [4] rfl
              refine vp_callSi (va_Run.run (va_runV (As := [.int (nI k_23), .int 3]) (rest := [.ref w4, .ref sc]) ⟨hx, hb, hml, hown, hts⟩ (r_get_32 l dC dI (ab 5) (ab 6) (zb 2) (cb 2) (fb 2) (nI k_23) 3 (by omega)) (cwV 2 hts gX7_weigh_X6_get rfl rfl rfl (by decide +kernel) ⟨Nat.le_of_ble_eq_true rfl, Nat.le_of_ble_eq_true rfl⟩) ⟨fun a U g mk q => by obtain ⟨q0, qP, qK⟩ := q; exact ⟨q0, qP, va_K.moved (u := U) (U := U.calling g mk a) (Vm.Alike.refl U.vm) qK⟩, va_recv hK hP (ci := 6) (q0 := 8) rfl rfl, fun U hU hW => ⟨rfl, by rw [hU]; exact hPc_210, va_K.moved hW.alike hKc_211⟩⟩ rfl rfl hl.1 rfl (lv_room (Nat.le_of_ble_eq_true rfl)) dX7_weigh_101 ⟨Nat.le_of_ble_eq_true rfl, Nat.le_of_ble_eq_true rfl⟩)) (fun r_212 hw_213 => ?_)
              refine lv_iconst (v := 1) hx hb dX7_weigh_104 (by decide) ?_
              have hPc := hP.sub (ws' := [(sc, .inr (7, [.ref sw, .ref sh])), (sw, .inl (csw, 21, .inr (.inl f_90))), (sh, .inl (csh, 21, .inl f_91)), (w4, .inr (9, []))]) [0, 1, 2, 15] rfl
              have hDc := hD.sub (ws' := [(sc, .inr (7, [.ref sw, .ref sh])), (sw, .inl (csw, 21, .inr (.inl f_90))), (sh, .inl (csh, 21, .inl f_91)), (w4, .inr (9, []))]) [0, 1, 2, 15] (by decide) rfl
              have hKc := hK.sub (tys' := [(csw, .long), (csh, .int)]) [0, 1] rfl
              have hFc := va_free (wc := [(sc, .inr (7, [.ref sw, .ref sh])), (sw, .inl (csw, 21, .inr (.inl f_90))), (sh, .inl (csh, 21, .inl f_91)), (w4, .inr (9, []))]) hD hS hA [0, 1, 2, 15] rfl
              refine va_callv (va_runV (As := [.ref w4, .int r_212, .int 1]) (rest := []) ⟨hx, hb, hml, hown, hts⟩ (s_add_X9 l dC dI sc sw sh csw f_90 csh f_91 w4 r_212 1 H.size) (cwV 3 hts gX7_weigh_X7_addCounts rfl rfl rfl (by decide +kernel) ⟨Nat.le_of_ble_eq_true rfl, Nat.le_of_ble_eq_true rfl⟩) ⟨fun a U g mk q => by obtain ⟨q0, q1, qP, qK, qD⟩ := q; exact ⟨q0, q1, qP, va_K.moved (u := U) (U := U.calling g mk a) (Vm.Alike.refl U.vm) qK, qD⟩, va_recv hK hP (ci := 7) (q0 := 0) rfl rfl, fun U hU hW => ⟨rfl, by rw [hU], by rw [hU]; exact hPc, va_K.moved hW.alike hKc, hDc.weaken (fun _ _ _ _ => trivial)⟩⟩ rfl rfl hl.1 rfl (lv_room (Nat.le_of_ble_eq_true rfl)) dX7_weigh_105 ⟨Nat.le_of_ble_eq_true rfl, Nat.le_of_ble_eq_true rfl⟩) hS (fun q _ h => hFc q h) hFc (fun u_ t H1 locs ht hvm hw_215 hB hz1 hk1 hS => ?_)
              obtain ⟨gw_216, gh_217, hP1, hK1, hD1⟩ := hB
              rw [ht] at hP1
              have hK1 := va_K.moved hvm.symm hK1
              obtain ⟨hP, hD⟩ := va_join (wr := [((ab 0), .inr (0, [.ref (ab 1), .ref (ab 3), .ref (ab 5), .ref (ab 7), .ref (ab 9), .int (nI ub)])), ((ab 1), .inr (6, [.int 1, .int 5, .ref (ab 2), .int (nI (zb 0))])), ((ab 2), .inl ((cb 0), 5, .inl (fb 0))), ((ab 3), .inr (6, [.int 4, .int 5, .ref (ab 4), .int (nI (zb 1))])), ((ab 4), .inl ((cb 1), 20, .inl (fb 1))), ((ab 5), .inr (6, [.int 4, .int 8, .ref (ab 6), .int (nI (zb 2))])), ((ab 6), .inl ((cb 2), 32, .inl (fb 2))), (aw, .inl (cw, 6, .inr (.inr (.inr (.inr (tz_w w0 w1 w2 w3 w4 w5)))))), (w0, .inr (4, [])), (w1, .inr (1, [])), (w2, .inr (10, [])), (w3, .inr (3, [])), (w5, .inr (8, []))]) (w1 := [(sc, .inr (7, [.ref sw, .ref sh])), (sw, .inl (csw, 21, .inr (.inl gw_216))), (sh, .inl (csh, 21, .inl gh_217)), (w4, .inr (9, []))]) hP hD [0, 1, 2, 15] [3, 4, 5, 6, 7, 8, 9, 10, 11, 12, 13, 14, 16] rfl rfl (by decide) (by decide) hk1 hFc hP1 hD1
              generalize H1 = H at hP hS ⊢
              have hP : va_P (dC, dI) vwCl [((ab 0), .inr (0, [.ref (ab 1), .ref (ab 3), .ref (ab 5), .ref (ab 7), .ref (ab 9), .int (nI ub)])), ((ab 1), .inr (6, [.int 1, .int 5, .ref (ab 2), .int (nI (zb 0))])), ((ab 2), .inl ((cb 0), 5, .inl (fb 0))), ((ab 3), .inr (6, [.int 4, .int 5, .ref (ab 4), .int (nI (zb 1))])), ((ab 4), .inl ((cb 1), 20, .inl (fb 1))), ((ab 5), .inr (6, [.int 4, .int 8, .ref (ab 6), .int (nI (zb 2))])), ((ab 6), .inl ((cb 2), 32, .inl (fb 2))), (aw, .inl (cw, 6, .inr (.inr (.inr (.inr (tz_w w0 w1 w2 w3 w4 w5)))))), (w0, .inr (4, [])), (w1, .inr (1, [])), (w2, .inr (10, [])), (w3, .inr (3, [])), (w5, .inr (8, [])), (sc, .inr (7, [.ref sw, .ref sh])), (sw, .inl (csw, 21, .inr (.inl gw_216))), (sh, .inl (csh, 21, .inl gh_217)), (w4, .inr (9, []))] H := hP
              have hD : va_D A [((ab 0), .inr (0, [.ref (ab 1), .ref (ab 3), .ref (ab 5), .ref (ab 7), .ref (ab 9), .int (nI ub)])), ((ab 1), .inr (6, [.int 1, .int 5, .ref (ab 2), .int (nI (zb 0))])), ((ab 2), .inl ((cb 0), 5, .inl (fb 0))), ((ab 3), .inr (6, [.int 4, .int 5, .ref (ab 4), .int (nI (zb 1))])), ((ab 4), .inl ((cb 1), 20, .inl (fb 1))), ((ab 5), .inr (6, [.int 4, .int 8, .ref (ab 6), .int (nI (zb 2))])), ((ab 6), .inl ((cb 2), 32, .inl (fb 2))), (aw, .inl (cw, 6, .inr (.inr (.inr (.inr (tz_w w0 w1 w2 w3 w4 w5)))))), (w0, .inr (4, [])), (w1, .inr (1, [])), (w2, .inr (10, [])), (w3, .inr (3, [])), (w5, .inr (8, [])), (sc, .inr (7, [.ref sw, .ref sh])), (sw, .inl (csw, 21, .inr (.inl gw_216))), (sh, .inl (csh, 21, .inl gh_217)), (w4, .inr (9, []))] := hD
              refine lv_iinc (v := (nI (k_23 + 1))) (lv' := [(4, .int (nI (k_23 + 1))), (5, .int 4), (0, .ref sc), (1, .ref (ab 0)), (2, .int na), (3, .ref aw)]) hx hb dX7_weigh_108 hl (k := 1) rfl (nI_add k_23 1) (by decide) rfl (fun ls hl => ?_)
              refine lv_goto (tgt := 39) hx hb dX7_weigh_111 (by decide) ?_
              have hP := hP.sub (ws' := [(sc, .inr (7, [.ref sw, .ref sh])), (sw, .inl (csw, 21, .inr (.inl gw_216))), (sh, .inl (csh, 21, .inl gh_217)), ((ab 0), .inr (0, [.ref (ab 1), .ref (ab 3), .ref (ab 5), .ref (ab 7), .ref (ab 9), .int (nI ub)])), ((ab 1), .inr (6, [.int 1, .int 5, .ref (ab 2), .int (nI (zb 0))])), ((ab 2), .inl ((cb 0), 5, .inl (fb 0))), ((ab 3), .inr (6, [.int 4, .int 5, .ref (ab 4), .int (nI (zb 1))])), ((ab 4), .inl ((cb 1), 20, .inl (fb 1))), ((ab 5), .inr (6, [.int 4, .int 8, .ref (ab 6), .int (nI (zb 2))])), ((ab 6), .inl ((cb 2), 32, .inl (fb 2))), (aw, .inl (cw, 6, .inr (.inr (.inr (.inr (tz_w w0 w1 w2 w3 w4 w5)))))), (w0, .inr (4, [])), (w1, .inr (1, [])), (w2, .inr (10, [])), (w3, .inr (3, [])), (w4, .inr (9, [])), (w5, .inr (8, []))]) [13, 14, 15, 0, 1, 2, 3, 4, 5, 6, 7, 8, 9, 10, 11, 16, 12] rfl
              have hD := hD.sub (ws' := [(sc, .inr (7, [.ref sw, .ref sh])), (sw, .inl (csw, 21, .inr (.inl gw_216))), (sh, .inl (csh, 21, .inl gh_217)), ((ab 0), .inr (0, [.ref (ab 1), .ref (ab 3), .ref (ab 5), .ref (ab 7), .ref (ab 9), .int (nI ub)])), ((ab 1), .inr (6, [.int 1, .int 5, .ref (ab 2), .int (nI (zb 0))])), ((ab 2), .inl ((cb 0), 5, .inl (fb 0))), ((ab 3), .inr (6, [.int 4, .int 5, .ref (ab 4), .int (nI (zb 1))])), ((ab 4), .inl ((cb 1), 20, .inl (fb 1))), ((ab 5), .inr (6, [.int 4, .int 8, .ref (ab 6), .int (nI (zb 2))])), ((ab 6), .inl ((cb 2), 32, .inl (fb 2))), (aw, .inl (cw, 6, .inr (.inr (.inr (.inr (tz_w w0 w1 w2 w3 w4 w5)))))), (w0, .inr (4, [])), (w1, .inr (1, [])), (w2, .inr (10, [])), (w3, .inr (3, [])), (w4, .inr (9, [])), (w5, .inr (8, []))]) [13, 14, 15, 0, 1, 2, 3, 4, 5, 6, 7, 8, 9, 10, 11, 16, 12] (by decide) rfl
              exact ih_159 ((k_23 + 1), gw_216, gh_217, H, locs, ls) ⟨by dsimp only; omega, hP, hD, hS, lv_sub hl [0, 2, 3, 4, 5] rfl⟩ (by dsimp only; omega)
            · refine va_aldq hx hb hK hP 10 5 rfl rfl (show ¬ ((5 : Int32) < 0 ∨ 6 ≤ (5 : Int32).toNatClampNeg) by decide) dX7_weigh_93 ?_
              refine tz_v (.ref w5) rfl ?_
              refine lv_aload_n hx hb dX7_weigh_94 rfl (lv_at hl 3 rfl) ?_
              refine va_get (D := (dC, dI)) (ci := 0) (v := .ref (ab 5)) (C := RX0) (T := TX0) (N := 6) hx hb hts iw_s_weigh_X0 hown hK hP 3 rfl rfl 2 (by decide) (hts (.fieldLink RX7 23 "ThriceCounted$Bank" "counts" "LThriceCounted$Rows;") (by decide +kernel)) (fun _ h9 => h9) rfl dX7_weigh_95 ?_
              refine lv_iload hx hb dX7_weigh_98 (lv_at hl 1 rfl) ?_
              refine lv_iconst (v := 3) hx hb dX7_weigh_100 (by decide) ?_
              have hPc_218 := hP.sub (ws' := [((ab 5), .inr (6, [.int 4, .int 8, .ref (ab 6), .int (nI (zb 2))])), ((ab 6), .inl ((cb 2), 32, .inl (fb 2)))]) [8, 9] rfl
              have hKc_219 := hK.sub (tys' := [((cb 2), .int)]) [4] rfl
              refine vp_callSi (va_Run.run (va_runV (As := [.int (nI k_23), .int 3]) (rest := [.ref w5, .ref sc]) ⟨hx, hb, hml, hown, hts⟩ (r_get_32 l dC dI (ab 5) (ab 6) (zb 2) (cb 2) (fb 2) (nI k_23) 3 (by omega)) (cwV 2 hts gX7_weigh_X6_get rfl rfl rfl (by decide +kernel) ⟨Nat.le_of_ble_eq_true rfl, Nat.le_of_ble_eq_true rfl⟩) ⟨fun a U g mk q => by obtain ⟨q0, qP, qK⟩ := q; exact ⟨q0, qP, va_K.moved (u := U) (U := U.calling g mk a) (Vm.Alike.refl U.vm) qK⟩, va_recv hK hP (ci := 6) (q0 := 8) rfl rfl, fun U hU hW => ⟨rfl, by rw [hU]; exact hPc_218, va_K.moved hW.alike hKc_219⟩⟩ rfl rfl hl.1 rfl (lv_room (Nat.le_of_ble_eq_true rfl)) dX7_weigh_101 ⟨Nat.le_of_ble_eq_true rfl, Nat.le_of_ble_eq_true rfl⟩)) (fun r_220 hw_221 => ?_)
              refine lv_iconst (v := 1) hx hb dX7_weigh_104 (by decide) ?_
              have hPc := hP.sub (ws' := [(sc, .inr (7, [.ref sw, .ref sh])), (sw, .inl (csw, 21, .inr (.inl f_90))), (sh, .inl (csh, 21, .inl f_91)), (w5, .inr (8, []))]) [0, 1, 2, 16] rfl
              have hDc := hD.sub (ws' := [(sc, .inr (7, [.ref sw, .ref sh])), (sw, .inl (csw, 21, .inr (.inl f_90))), (sh, .inl (csh, 21, .inl f_91)), (w5, .inr (8, []))]) [0, 1, 2, 16] (by decide) rfl
              have hKc := hK.sub (tys' := [(csw, .long), (csh, .int)]) [0, 1] rfl
              have hFc := va_free (wc := [(sc, .inr (7, [.ref sw, .ref sh])), (sw, .inl (csw, 21, .inr (.inl f_90))), (sh, .inl (csh, 21, .inl f_91)), (w5, .inr (8, []))]) hD hS hA [0, 1, 2, 16] rfl
              refine va_callv (va_runV (As := [.ref w5, .int r_220, .int 1]) (rest := []) ⟨hx, hb, hml, hown, hts⟩ (s_add_X8 l dC dI sc sw sh csw f_90 csh f_91 w5 r_220 1 H.size) (cwV 3 hts gX7_weigh_X7_addCounts rfl rfl rfl (by decide +kernel) ⟨Nat.le_of_ble_eq_true rfl, Nat.le_of_ble_eq_true rfl⟩) ⟨fun a U g mk q => by obtain ⟨q0, q1, qP, qK, qD⟩ := q; exact ⟨q0, q1, qP, va_K.moved (u := U) (U := U.calling g mk a) (Vm.Alike.refl U.vm) qK, qD⟩, va_recv hK hP (ci := 7) (q0 := 0) rfl rfl, fun U hU hW => ⟨rfl, by rw [hU], by rw [hU]; exact hPc, va_K.moved hW.alike hKc, hDc.weaken (fun _ _ _ _ => trivial)⟩⟩ rfl rfl hl.1 rfl (lv_room (Nat.le_of_ble_eq_true rfl)) dX7_weigh_105 ⟨Nat.le_of_ble_eq_true rfl, Nat.le_of_ble_eq_true rfl⟩) hS (fun q _ h => hFc q h) hFc (fun u_ t H1 locs ht hvm hw_223 hB hz1 hk1 hS => ?_)
              obtain ⟨gw_224, gh_225, hP1, hK1, hD1⟩ := hB
              rw [ht] at hP1
              have hK1 := va_K.moved hvm.symm hK1
              obtain ⟨hP, hD⟩ := va_join (wr := [((ab 0), .inr (0, [.ref (ab 1), .ref (ab 3), .ref (ab 5), .ref (ab 7), .ref (ab 9), .int (nI ub)])), ((ab 1), .inr (6, [.int 1, .int 5, .ref (ab 2), .int (nI (zb 0))])), ((ab 2), .inl ((cb 0), 5, .inl (fb 0))), ((ab 3), .inr (6, [.int 4, .int 5, .ref (ab 4), .int (nI (zb 1))])), ((ab 4), .inl ((cb 1), 20, .inl (fb 1))), ((ab 5), .inr (6, [.int 4, .int 8, .ref (ab 6), .int (nI (zb 2))])), ((ab 6), .inl ((cb 2), 32, .inl (fb 2))), (aw, .inl (cw, 6, .inr (.inr (.inr (.inr (tz_w w0 w1 w2 w3 w4 w5)))))), (w0, .inr (4, [])), (w1, .inr (1, [])), (w2, .inr (10, [])), (w3, .inr (3, [])), (w4, .inr (9, []))]) (w1 := [(sc, .inr (7, [.ref sw, .ref sh])), (sw, .inl (csw, 21, .inr (.inl gw_224))), (sh, .inl (csh, 21, .inl gh_225)), (w5, .inr (8, []))]) hP hD [0, 1, 2, 16] [3, 4, 5, 6, 7, 8, 9, 10, 11, 12, 13, 14, 15] rfl rfl (by decide) (by decide) hk1 hFc hP1 hD1
              generalize H1 = H at hP hS ⊢
              have hP : va_P (dC, dI) vwCl [((ab 0), .inr (0, [.ref (ab 1), .ref (ab 3), .ref (ab 5), .ref (ab 7), .ref (ab 9), .int (nI ub)])), ((ab 1), .inr (6, [.int 1, .int 5, .ref (ab 2), .int (nI (zb 0))])), ((ab 2), .inl ((cb 0), 5, .inl (fb 0))), ((ab 3), .inr (6, [.int 4, .int 5, .ref (ab 4), .int (nI (zb 1))])), ((ab 4), .inl ((cb 1), 20, .inl (fb 1))), ((ab 5), .inr (6, [.int 4, .int 8, .ref (ab 6), .int (nI (zb 2))])), ((ab 6), .inl ((cb 2), 32, .inl (fb 2))), (aw, .inl (cw, 6, .inr (.inr (.inr (.inr (tz_w w0 w1 w2 w3 w4 w5)))))), (w0, .inr (4, [])), (w1, .inr (1, [])), (w2, .inr (10, [])), (w3, .inr (3, [])), (w4, .inr (9, [])), (sc, .inr (7, [.ref sw, .ref sh])), (sw, .inl (csw, 21, .inr (.inl gw_224))), (sh, .inl (csh, 21, .inl gh_225)), (w5, .inr (8, []))] H := hP
              have hD : va_D A [((ab 0), .inr (0, [.ref (ab 1), .ref (ab 3), .ref (ab 5), .ref (ab 7), .ref (ab 9), .int (nI ub)])), ((ab 1), .inr (6, [.int 1, .int 5, .ref (ab 2), .int (nI (zb 0))])), ((ab 2), .inl ((cb 0), 5, .inl (fb 0))), ((ab 3), .inr (6, [.int 4, .int 5, .ref (ab 4), .int (nI (zb 1))])), ((ab 4), .inl ((cb 1), 20, .inl (fb 1))), ((ab 5), .inr (6, [.int 4, .int 8, .ref (ab 6), .int (nI (zb 2))])), ((ab 6), .inl ((cb 2), 32, .inl (fb 2))), (aw, .inl (cw, 6, .inr (.inr (.inr (.inr (tz_w w0 w1 w2 w3 w4 w5)))))), (w0, .inr (4, [])), (w1, .inr (1, [])), (w2, .inr (10, [])), (w3, .inr (3, [])), (w4, .inr (9, [])), (sc, .inr (7, [.ref sw, .ref sh])), (sw, .inl (csw, 21, .inr (.inl gw_224))), (sh, .inl (csh, 21, .inl gh_225)), (w5, .inr (8, []))] := hD
              refine lv_iinc (v := (nI (k_23 + 1))) (lv' := [(4, .int (nI (k_23 + 1))), (5, .int 5), (0, .ref sc), (1, .ref (ab 0)), (2, .int na), (3, .ref aw)]) hx hb dX7_weigh_108 hl (k := 1) rfl (nI_add k_23 1) (by decide) rfl (fun ls hl => ?_)
              refine lv_goto (tgt := 39) hx hb dX7_weigh_111 (by decide) ?_
              have hP := hP.sub (ws' := [(sc, .inr (7, [.ref sw, .ref sh])), (sw, .inl (csw, 21, .inr (.inl gw_224))), (sh, .inl (csh, 21, .inl gh_225)), ((ab 0), .inr (0, [.ref (ab 1), .ref (ab 3), .ref (ab 5), .ref (ab 7), .ref (ab 9), .int (nI ub)])), ((ab 1), .inr (6, [.int 1, .int 5, .ref (ab 2), .int (nI (zb 0))])), ((ab 2), .inl ((cb 0), 5, .inl (fb 0))), ((ab 3), .inr (6, [.int 4, .int 5, .ref (ab 4), .int (nI (zb 1))])), ((ab 4), .inl ((cb 1), 20, .inl (fb 1))), ((ab 5), .inr (6, [.int 4, .int 8, .ref (ab 6), .int (nI (zb 2))])), ((ab 6), .inl ((cb 2), 32, .inl (fb 2))), (aw, .inl (cw, 6, .inr (.inr (.inr (.inr (tz_w w0 w1 w2 w3 w4 w5)))))), (w0, .inr (4, [])), (w1, .inr (1, [])), (w2, .inr (10, [])), (w3, .inr (3, [])), (w4, .inr (9, [])), (w5, .inr (8, []))]) [13, 14, 15, 0, 1, 2, 3, 4, 5, 6, 7, 8, 9, 10, 11, 12, 16] rfl
              have hD := hD.sub (ws' := [(sc, .inr (7, [.ref sw, .ref sh])), (sw, .inl (csw, 21, .inr (.inl gw_224))), (sh, .inl (csh, 21, .inl gh_225)), ((ab 0), .inr (0, [.ref (ab 1), .ref (ab 3), .ref (ab 5), .ref (ab 7), .ref (ab 9), .int (nI ub)])), ((ab 1), .inr (6, [.int 1, .int 5, .ref (ab 2), .int (nI (zb 0))])), ((ab 2), .inl ((cb 0), 5, .inl (fb 0))), ((ab 3), .inr (6, [.int 4, .int 5, .ref (ab 4), .int (nI (zb 1))])), ((ab 4), .inl ((cb 1), 20, .inl (fb 1))), ((ab 5), .inr (6, [.int 4, .int 8, .ref (ab 6), .int (nI (zb 2))])), ((ab 6), .inl ((cb 2), 32, .inl (fb 2))), (aw, .inl (cw, 6, .inr (.inr (.inr (.inr (tz_w w0 w1 w2 w3 w4 w5)))))), (w0, .inr (4, [])), (w1, .inr (1, [])), (w2, .inr (10, [])), (w3, .inr (3, [])), (w4, .inr (9, [])), (w5, .inr (8, []))]) [13, 14, 15, 0, 1, 2, 3, 4, 5, 6, 7, 8, 9, 10, 11, 12, 16] (by decide) rfl
              exact ih_159 ((k_23 + 1), gw_224, gh_225, H, locs, ls) ⟨by dsimp only; omega, hP, hD, hS, lv_sub hl [0, 2, 3, 4, 5] rfl⟩ (by dsimp only; omega)
  · have hn_226 : ¬ 21 ≤ k_1 := fun q => c_21 ((nI_leI (a := 21) (b := k_1) (by omega) (by omega)).mpr q)
    refine lv_aload_n hx hb dX7_weigh_13 rfl (lv_at hl 1 rfl) ?_
    refine va_get (D := (dC, dI)) (ci := 7) (v := .ref sw) (C := RX7) (T := TX7) (N := 2) hx hb hts iw_s_weigh_X7 hown hK hP 0 rfl rfl 0 (by decide) (hts (.fieldLink RX7 9 "ThriceCounted$Scale" "weights" "[J") (by decide +kernel)) (fun _ h9 => h9) rfl dX7_weigh_14 ?_
    refine lv_iload hx hb dX7_weigh_17 (lv_at hl 0 rfl) ?_
    refine lv_aload_n hx hb dX7_weigh_19 rfl (lv_at hl 2 rfl) ?_
    refine lv_iload_n hx hb dX7_weigh_20 rfl (lv_at hl 3 rfl) ?_
    refine lv_bipush (v := 90) hx hb dX7_weigh_21 (by decide) ?_
    refine lv_iload hx hb dX7_weigh_23 (lv_at hl 0 rfl) ?_
    refine lv_iadd hx hb dX7_weigh_25 ?_
    refine tz_i (nI (90 + k_1)) (nI_add 90 k_1) ?_
    have hPc_227 := hP.sub (ws' := [((ab 0), .inr (0, [.ref (ab 1), .ref (ab 3), .ref (ab 5), .ref (ab 7), .ref (ab 9), .int (nI ub)])), ((ab 1), .inr (6, [.int 1, .int 5, .ref (ab 2), .int (nI (zb 0))])), ((ab 2), .inl ((cb 0), 5, .inl (fb 0))), ((ab 3), .inr (6, [.int 4, .int 5, .ref (ab 4), .int (nI (zb 1))])), ((ab 4), .inl ((cb 1), 20, .inl (fb 1)))]) [3, 4, 5, 6, 7] rfl
    have hKc_228 := hK.sub (tys' := [((cb 0), .int), ((cb 1), .int)]) [2, 3] rfl
    refine vp_callSl (va_Run.run (va_runS (As := [.ref (ab 0), .int na, .int (nI (90 + k_1))]) (rest := [.int (nI k_1), .ref sw]) ⟨hx, hb, hml, hown, hts⟩ (s_first l dC dI ab ub zb cb fb na (nI (90 + k_1)) ⟨hB.1, show ub ≤ 8 by omega⟩) (va_cwS 3 hts gX7_weigh_X7_firstWeight rfl rfl rfl (by decide +kernel) ⟨Nat.le_of_ble_eq_true rfl, Nat.le_of_ble_eq_true rfl⟩) ⟨fun a U g mk q => by obtain ⟨q0, qP, qK⟩ := q; exact ⟨q0, qP, va_K.moved (u := U) (U := U.calling g mk a) (Vm.Alike.refl U.vm) qK⟩, fun U hU hW => ⟨rfl, by rw [hU]; exact hPc_227, va_K.moved hW.alike hKc_228⟩⟩ rfl rfl hl.1 rfl (lv_room (Nat.le_of_ble_eq_true rfl)) dX7_weigh_26 ⟨Nat.le_of_ble_eq_true rfl, Nat.le_of_ble_eq_true rfl⟩)) (fun r_229 hw_230 => ?_)
    refine va_last hx hb hK hP hD hS 1 0 rfl rfl (vp_in_nI (n := k_1) (N := 21) (by omega) (by decide)) dX7_weigh_29 (fun H locs hP hD hS => ?_)
    generalize (vp_updL f_10 (Int32.toNatClampNeg (nI k_1)) r_229) = f_231 at hP hD
    have hP : va_P (dC, dI) vwCl [(sc, .inr (7, [.ref sw, .ref sh])), (sw, .inl (csw, 21, .inr (.inl f_231))), (sh, .inl (csh, 21, .inl fh)), ((ab 0), .inr (0, [.ref (ab 1), .ref (ab 3), .ref (ab 5), .ref (ab 7), .ref (ab 9), .int (nI ub)])), ((ab 1), .inr (6, [.int 1, .int 5, .ref (ab 2), .int (nI (zb 0))])), ((ab 2), .inl ((cb 0), 5, .inl (fb 0))), ((ab 3), .inr (6, [.int 4, .int 5, .ref (ab 4), .int (nI (zb 1))])), ((ab 4), .inl ((cb 1), 20, .inl (fb 1))), ((ab 5), .inr (6, [.int 4, .int 8, .ref (ab 6), .int (nI (zb 2))])), ((ab 6), .inl ((cb 2), 32, .inl (fb 2))), (aw, .inl (cw, 6, .inr (.inr (.inr (.inr (tz_w w0 w1 w2 w3 w4 w5)))))), (w0, .inr (4, [])), (w1, .inr (1, [])), (w2, .inr (10, [])), (w3, .inr (3, [])), (w4, .inr (9, [])), (w5, .inr (8, []))] H := hP
    have hD : va_D A [(sc, .inr (7, [.ref sw, .ref sh])), (sw, .inl (csw, 21, .inr (.inl f_231))), (sh, .inl (csh, 21, .inl fh)), ((ab 0), .inr (0, [.ref (ab 1), .ref (ab 3), .ref (ab 5), .ref (ab 7), .ref (ab 9), .int (nI ub)])), ((ab 1), .inr (6, [.int 1, .int 5, .ref (ab 2), .int (nI (zb 0))])), ((ab 2), .inl ((cb 0), 5, .inl (fb 0))), ((ab 3), .inr (6, [.int 4, .int 5, .ref (ab 4), .int (nI (zb 1))])), ((ab 4), .inl ((cb 1), 20, .inl (fb 1))), ((ab 5), .inr (6, [.int 4, .int 8, .ref (ab 6), .int (nI (zb 2))])), ((ab 6), .inl ((cb 2), 32, .inl (fb 2))), (aw, .inl (cw, 6, .inr (.inr (.inr (.inr (tz_w w0 w1 w2 w3 w4 w5)))))), (w0, .inr (4, [])), (w1, .inr (1, [])), (w2, .inr (10, [])), (w3, .inr (3, [])), (w4, .inr (9, [])), (w5, .inr (8, []))] := hD
    refine lv_iinc (v := (nI (k_1 + 1))) (lv' := [(4, .int (nI (k_1 + 1))), (0, .ref sc), (1, .ref (ab 0)), (2, .int na), (3, .ref aw)]) hx hb dX7_weigh_30 hl (k := 0) rfl (nI_add k_1 1) (by decide) rfl (fun ls hl => ?_)
    refine lv_goto (tgt := 3) hx hb dX7_weigh_33 (by decide) ?_
    exact ih_20 ((k_1 + 1), f_231, H, locs, ls) ⟨by dsimp only; omega, hP, hD, hS, lv_sub hl [0, 1, 2, 3, 4] rfl⟩ (by dsimp only; omega)
