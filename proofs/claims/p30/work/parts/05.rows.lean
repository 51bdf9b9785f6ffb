theorem dX6_size_0 : decode cX6_size 0 = .ok (.aload_n 0, 1) := by decide +kernel
theorem dX6_size_1 : decode cX6_size 1 = .ok (.getfield 9, 3) := by decide +kernel
theorem dX6_size_4 : decode cX6_size 4 = .ok (.ireturn, 1) := by decide +kernel
set_option maxRecDepth 20000 in
theorem iw_r_size_5_X6 : ∀ w ∈ wsX60, w ∈ wsX6_size := by decide +kernel
set_option maxHeartbeats 4000000 in
set_option maxRecDepth 100000 in
theorem r_size_5 (l : Launch) (dC : Nat → ClassId) (dI : Nat → Nat → Nat) (ro : Nat) (ca : Nat) (nz : Nat) : Met l yX6_size wsX6_size ({ frames := 0, cells := 0, slots := 0, locals := 0 }) (va_Pc [.ref ro] (fun U => va_P (dC, dI) vwCl [(ro, .inr (6, [.int 1, .int 5, .ref ca, .int (nI nz)]))] U.heap ∧ va_K (dC, dI) vwCl [] U)) (vp_Si (fun r => r = (nI nz))) 0 0 (fun _ => False) := by
  refine Met.ofW (cc := cX6_size) (maxL := 1) (ret := (some .int)) (by decide) rfl ?_
  intro p e s m args below meth c s₁ B hml hv
  obtain ⟨rfl, hP, hK⟩ := hv
  have hx := B.exec
  have hb := B.bytes
  have hr := B.returns
  have hts := atoms_spec (ws := wsX6_size) B.pre
  have hown : s.vm.findClass RX6 = some m.cls := findClass_of_methodNamed B.named
  have hlocks := B.notSynchronized
  have hl := lv_entry ([.ref ro]) (n := 1) (Nat.le_of_ble_eq_true rfl)
  rw [lg_entry_eq]
  generalize (lg_sl ([.ref ro]) ++ List.replicate (1 - (lg_sl ([.ref ro])).length) Slot.unset).toArray = ls at hl ⊢
  have hl : lv_has ls 1 [(0, .ref ro)] := hl
  refine lv_aload_n hx hb dX6_size_0 rfl (lv_at hl 0 rfl) ?_
  refine va_get (D := (dC, dI)) (ci := 6) (v := .int (nI nz)) (C := RX6) (T := TX6) (N := 4) hx hb hts iw_r_size_5_X6 hown hK hP 0 rfl rfl 3 (by decide) (hts (.fieldLink RX6 9 "ThriceCounted$Rows" "size" "I") (by decide +kernel)) (fun _ h9 => h9) rfl dX6_size_1 ?_
  exact W.iret (v := (nI nz)) hx hb hr (fun t ht hW => ⟨(nI nz), rfl, rfl, ht⟩) (fun _ h => absurd h List.not_mem_nil) dX6_size_4
theorem dX6_isFull_0 : decode cX6_isFull 0 = .ok (.aload_n 0, 1) := by decide +kernel
theorem dX6_isFull_1 : decode cX6_isFull 1 = .ok (.getfield 9, 3) := by decide +kernel
theorem dX6_isFull_4 : decode cX6_isFull 4 = .ok (.aload_n 0, 1) := by decide +kernel
theorem dX6_isFull_5 : decode cX6_isFull 5 = .ok (.getfield 21, 3) := by decide +kernel
theorem dX6_isFull_8 : decode cX6_isFull 8 = .ok (.if_icmp .lt 7, 3) := by decide +kernel
theorem dX6_isFull_15 : decode cX6_isFull 15 = .ok (.iconst 0, 1) := by decide +kernel
theorem dX6_isFull_16 : decode cX6_isFull 16 = .ok (.ireturn, 1) := by decide +kernel
theorem dX6_isFull_11 : decode cX6_isFull 11 = .ok (.iconst 1, 1) := by decide +kernel
theorem dX6_isFull_12 : decode cX6_isFull 12 = .ok (.goto 4, 3) := by decide +kernel
set_option maxRecDepth 20000 in
theorem iw_r_isFull_5_X6 : ∀ w ∈ wsX60, w ∈ wsX6_isFull := by decide +kernel
set_option maxHeartbeats 4000000 in
set_option maxRecDepth 100000 in
theorem r_isFull_5 (l : Launch) (dC : Nat → ClassId) (dI : Nat → Nat → Nat) (ro : Nat) (ca : Nat) (nz : Nat) (hz : nz ≤ 5) : Met l yX6_isFull wsX6_isFull ({ frames := 0, cells := 0, slots := 0, locals := 0 }) (va_Pc [.ref ro] (fun U => va_P (dC, dI) vwCl [(ro, .inr (6, [.int 1, .int 5, .ref ca, .int (nI nz)]))] U.heap ∧ va_K (dC, dI) vwCl [] U)) (vp_Si (fun r => r = if 5 ≤ nz then 1 else 0)) 0 0 (fun _ => False) := by
  refine Met.ofW (cc := cX6_isFull) (maxL := 1) (ret := (some .boolean)) (by decide) rfl ?_
  intro p e s m args below meth c s₁ B hml hv
  obtain ⟨rfl, hP, hK⟩ := hv
  have hx := B.exec
  have hb := B.bytes
  have hr := B.returns
  have hts := atoms_spec (ws := wsX6_isFull) B.pre
  have hown : s.vm.findClass RX6 = some m.cls := findClass_of_methodNamed B.named
  have hlocks := B.notSynchronized
  have hl := lv_entry ([.ref ro]) (n := 1) (Nat.le_of_ble_eq_true rfl)
  rw [lg_entry_eq]
  generalize (lg_sl ([.ref ro]) ++ List.replicate (1 - (lg_sl ([.ref ro])).length) Slot.unset).toArray = ls at hl ⊢
  have hl : lv_has ls 1 [(0, .ref ro)] := hl
  refine lv_aload_n hx hb dX6_isFull_0 rfl (lv_at hl 0 rfl) ?_
  refine va_get (D := (dC, dI)) (ci := 6) (v := .int (nI nz)) (C := RX6) (T := TX6) (N := 4) hx hb hts iw_r_isFull_5_X6 hown hK hP 0 rfl rfl 3 (by decide) (hts (.fieldLink RX6 9 "ThriceCounted$Rows" "size" "I") (by decide +kernel)) (fun _ h9 => h9) rfl dX6_isFull_1 ?_
  refine lv_aload_n hx hb dX6_isFull_4 rfl (lv_at hl 0 rfl) ?_
  refine va_get (D := (dC, dI)) (ci := 6) (v := .int 5) (C := RX6) (T := TX6) (N := 4) hx hb hts iw_r_isFull_5_X6 hown hK hP 0 rfl rfl 1 (by decide) (hts (.fieldLink RX6 21 "ThriceCounted$Rows" "limit" "I") (by decide +kernel)) (fun _ h9 => h9) rfl dX6_isFull_5 ?_
  refine lv_icmp_lt (tgt := 15) hx hb dX6_isFull_8 (by decide) (fun c_1 => ?_) (fun c_1 => ?_)
  · have hn_2 : nz < 5 := (nI_ltI (a := nz) (b := 5) (by omega) (by omega)).mp c_1
    refine lv_iconst (v := 0) hx hb dX6_isFull_15 (by decide) ?_
    exact W.zret (v := 0) hx hb hr (by decide) (fun t ht hW => ⟨0, rfl, (if_neg (by omega)).symm, ht⟩) (fun _ h => absurd h List.not_mem_nil) dX6_isFull_16
  · have hn_3 : ¬ nz < 5 := fun q => c_1 ((nI_ltI (a := nz) (b := 5) (by omega) (by omega)).mpr q)
    refine lv_iconst (v := 1) hx hb dX6_isFull_11 (by decide) ?_
    refine lv_goto (tgt := 16) hx hb dX6_isFull_12 (by decide) ?_
    exact W.zret (v := 1) hx hb hr (by decide) (fun t ht hW => ⟨1, rfl, (if_pos (by omega)).symm, ht⟩) (fun _ h => absurd h List.not_mem_nil) dX6_isFull_16
theorem dX6_has_0 : decode cX6_has 0 = .ok (.iload_n 1, 1) := by decide +kernel
theorem dX6_has_1 : decode cX6_has 1 = .ok (.ifCond .lt 15, 3) := by decide +kernel
theorem dX6_has_16 : decode cX6_has 16 = .ok (.iconst 0, 1) := by decide +kernel
theorem dX6_has_17 : decode cX6_has 17 = .ok (.ireturn, 1) := by decide +kernel
theorem dX6_has_4 : decode cX6_has 4 = .ok (.iload_n 1, 1) := by decide +kernel
theorem dX6_has_5 : decode cX6_has 5 = .ok (.aload_n 0, 1) := by decide +kernel
theorem dX6_has_6 : decode cX6_has 6 = .ok (.getfield 9, 3) := by decide +kernel
theorem dX6_has_9 : decode cX6_has 9 = .ok (.if_icmp .ge 7, 3) := by decide +kernel
theorem dX6_has_12 : decode cX6_has 12 = .ok (.iconst 1, 1) := by decide +kernel
theorem dX6_has_13 : decode cX6_has 13 = .ok (.goto 4, 3) := by decide +kernel
set_option maxRecDepth 20000 in
theorem iw_r_has_5_X6 : ∀ w ∈ wsX60, w ∈ wsX6_has := by decide +kernel
set_option maxHeartbeats 4000000 in
set_option maxRecDepth 100000 in
theorem r_has_5 (l : Launch) (dC : Nat → ClassId) (dI : Nat → Nat → Nat) (ro : Nat) (ca : Nat) (nz : Nat) (na : Int32) : Met l yX6_has wsX6_has ({ frames := 0, cells := 0, slots := 0, locals := 0 }) (va_Pc [.ref ro, .int na] (fun U => va_P (dC, dI) vwCl [(ro, .inr (6, [.int 1, .int 5, .ref ca, .int (nI nz)]))] U.heap ∧ va_K (dC, dI) vwCl [] U)) (vp_Si (fun r => r = if 0 ≤ na ∧ na < nI nz then 1 else 0)) 0 0 (fun _ => False) := by
  refine Met.ofW (cc := cX6_has) (maxL := 2) (ret := (some .boolean)) (by decide) rfl ?_
  intro p e s m args below meth c s₁ B hml hv
  obtain ⟨rfl, hP, hK⟩ := hv
  have hx := B.exec
  have hb := B.bytes
  have hr := B.returns
  have hts := atoms_spec (ws := wsX6_has) B.pre
  have hown : s.vm.findClass RX6 = some m.cls := findClass_of_methodNamed B.named
  have hlocks := B.notSynchronized
  have hl := lv_entry ([.ref ro, .int na]) (n := 2) (Nat.le_of_ble_eq_true rfl)
  rw [lg_entry_eq]
  generalize (lg_sl ([.ref ro, .int na]) ++ List.replicate (2 - (lg_sl ([.ref ro, .int na])).length) Slot.unset).toArray = ls at hl ⊢
  have hl : lv_has ls 2 [(0, .ref ro), (1, .int na)] := hl
  refine lv_iload_n hx hb dX6_has_0 rfl (lv_at hl 1 rfl) ?_
  refine lv_if_lt (tgt := 16) hx hb dX6_has_1 (by decide) (fun c_1 => ?_) (fun c_1 => ?_)
  · refine lv_iconst (v := 0) hx hb dX6_has_16 (by decide) ?_
    exact W.zret (v := 0) hx hb hr (by decide) (fun t ht hW => ⟨0, rfl, (if_neg (fun z => tz_ltn c_1 z.1)).symm, ht⟩) (fun _ h => absurd h List.not_mem_nil) dX6_has_17
  · refine lv_iload_n hx hb dX6_has_4 rfl (lv_at hl 1 rfl) ?_
    refine lv_aload_n hx hb dX6_has_5 rfl (lv_at hl 0 rfl) ?_
    refine va_get (D := (dC, dI)) (ci := 6) (v := .int (nI nz)) (C := RX6) (T := TX6) (N := 4) hx hb hts iw_r_has_5_X6 hown hK hP 0 rfl rfl 3 (by decide) (hts (.fieldLink RX6 9 "ThriceCounted$Rows" "size" "I") (by decide +kernel)) (fun _ h9 => h9) rfl dX6_has_6 ?_
    refine lv_icmp_ge (tgt := 16) hx hb dX6_has_9 (by decide) (fun c_2 => ?_) (fun c_2 => ?_)
    · refine lv_iconst (v := 0) hx hb dX6_has_16 (by decide) ?_
      exact W.zret (v := 0) hx hb hr (by decide) (fun t ht hW => ⟨0, rfl, (if_neg (fun z => tz_ltn z.2 c_2)).symm, ht⟩) (fun _ h => absurd h List.not_mem_nil) dX6_has_17
    · refine lv_iconst (v := 1) hx hb dX6_has_12 (by decide) ?_
      refine lv_goto (tgt := 17) hx hb dX6_has_13 (by decide) ?_
      exact W.zret (v := 1) hx hb hr (by decide) (fun t ht hW => ⟨1, rfl, (if_pos ⟨tz_nlt c_1, tz_nle c_2⟩).symm, ht⟩) (fun _ h => absurd h List.not_mem_nil) dX6_has_17
theorem dX6_hasCell_0 : decode cX6_hasCell 0 = .ok (.iload_n 1, 1) := by decide +kernel
theorem dX6_hasCell_1 : decode cX6_hasCell 1 = .ok (.ifCond .lt 43, 3) := by decide +kernel
theorem dX6_hasCell_44 : decode cX6_hasCell 44 = .ok (.iconst 0, 1) := by decide +kernel
theorem dX6_hasCell_45 : decode cX6_hasCell 45 = .ok (.ireturn, 1) := by decide +kernel
theorem dX6_hasCell_4 : decode cX6_hasCell 4 = .ok (.iload_n 1, 1) := by decide +kernel
theorem dX6_hasCell_5 : decode cX6_hasCell 5 = .ok (.aload_n 0, 1) := by decide +kernel
theorem dX6_hasCell_6 : decode cX6_hasCell 6 = .ok (.getfield 9, 3) := by decide +kernel
theorem dX6_hasCell_9 : decode cX6_hasCell 9 = .ok (.if_icmp .ge 35, 3) := by decide +kernel
theorem dX6_hasCell_12 : decode cX6_hasCell 12 = .ok (.iload_n 2, 1) := by decide +kernel
theorem dX6_hasCell_13 : decode cX6_hasCell 13 = .ok (.ifCond .lt 31, 3) := by decide +kernel
theorem dX6_hasCell_16 : decode cX6_hasCell 16 = .ok (.iload_n 2, 1) := by decide +kernel
theorem dX6_hasCell_17 : decode cX6_hasCell 17 = .ok (.aload_n 0, 1) := by decide +kernel
theorem dX6_hasCell_18 : decode cX6_hasCell 18 = .ok (.getfield 24, 3) := by decide +kernel
theorem dX6_hasCell_21 : decode cX6_hasCell 21 = .ok (.if_icmp .ge 23, 3) := by decide +kernel
theorem dX6_hasCell_24 : decode cX6_hasCell 24 = .ok (.iload_n 1, 1) := by decide +kernel
theorem dX6_hasCell_25 : decode cX6_hasCell 25 = .ok (.aload_n 0, 1) := by decide +kernel
theorem dX6_hasCell_26 : decode cX6_hasCell 26 = .ok (.getfield 24, 3) := by decide +kernel
theorem dX6_hasCell_29 : decode cX6_hasCell 29 = .ok (.imul, 1) := by decide +kernel
theorem dX6_hasCell_30 : decode cX6_hasCell 30 = .ok (.iload_n 2, 1) := by decide +kernel
theorem dX6_hasCell_31 : decode cX6_hasCell 31 = .ok (.iadd, 1) := by decide +kernel
theorem dX6_hasCell_32 : decode cX6_hasCell 32 = .ok (.aload_n 0, 1) := by decide +kernel
theorem dX6_hasCell_33 : decode cX6_hasCell 33 = .ok (.getfield 27, 3) := by decide +kernel
theorem dX6_hasCell_36 : decode cX6_hasCell 36 = .ok (.arraylength, 1) := by decide +kernel
theorem dX6_hasCell_37 : decode cX6_hasCell 37 = .ok (.if_icmp .ge 7, 3) := by decide +kernel
theorem dX6_hasCell_40 : decode cX6_hasCell 40 = .ok (.iconst 1, 1) := by decide +kernel
theorem dX6_hasCell_41 : decode cX6_hasCell 41 = .ok (.goto 4, 3) := by decide +kernel
set_option maxRecDepth 20000 in
theorem iw_r_hasCell_5_X6 : ∀ w ∈ wsX60, w ∈ wsX6_hasCell := by decide +kernel
set_option maxHeartbeats 4000000 in
set_option maxRecDepth 100000 in
theorem r_hasCell_5 (l : Launch) (dC : Nat → ClassId) (dI : Nat → Nat → Nat) (ro : Nat) (ca : Nat) (nz : Nat) (cc0 : ClassId) (ff : Nat → Int32) (na : Int32) (nb : Int32) (hz : nz ≤ 5) : Met l yX6_hasCell wsX6_hasCell ({ frames := 0, cells := 0, slots := 0, locals := 0 }) (va_Pc [.ref ro, .int na, .int nb] (fun U => va_P (dC, dI) vwCl [(ro, .inr (6, [.int 1, .int 5, .ref ca, .int (nI nz)])), (ca, .inl (cc0, 5, .inl ff))] U.heap ∧ va_K (dC, dI) vwCl [(cc0, .int)] U)) (vp_Si (fun r => r = if (0 ≤ na ∧ na < nI nz) ∧ (0 ≤ nb ∧ nb < 1) then 1 else 0)) 0 0 (fun _ => False) := by
  refine Met.ofW (cc := cX6_hasCell) (maxL := 3) (ret := (some .boolean)) (by decide) rfl ?_
  intro p e s m args below meth c s₁ B hml hv
  obtain ⟨rfl, hP, hK⟩ := hv
  have hx := B.exec
  have hb := B.bytes
  have hr := B.returns
  have hts := atoms_spec (ws := wsX6_hasCell) B.pre
  have hown : s.vm.findClass RX6 = some m.cls := findClass_of_methodNamed B.named
  have hlocks := B.notSynchronized
  have hl := lv_entry ([.ref ro, .int na, .int nb]) (n := 3) (Nat.le_of_ble_eq_true rfl)
  rw [lg_entry_eq]
  generalize (lg_sl ([.ref ro, .int na, .int nb]) ++ List.replicate (3 - (lg_sl ([.ref ro, .int na, .int nb])).length) Slot.unset).toArray = ls at hl ⊢
  have hl : lv_has ls 3 [(0, .ref ro), (1, .int na), (2, .int nb)] := hl
  refine lv_iload_n hx hb dX6_hasCell_0 rfl (lv_at hl 1 rfl) ?_
  refine lv_if_lt (tgt := 44) hx hb dX6_hasCell_1 (by decide) (fun c_1 => ?_) (fun c_1 => ?_)
  · refine lv_iconst (v := 0) hx hb dX6_hasCell_44 (by decide) ?_
    exact W.zret (v := 0) hx hb hr (by decide) (fun t ht hW => ⟨0, rfl, (if_neg (fun z => tz_ltn c_1 z.1.1)).symm, ht⟩) (fun _ h => absurd h List.not_mem_nil) dX6_hasCell_45
  · refine lv_iload_n hx hb dX6_hasCell_4 rfl (lv_at hl 1 rfl) ?_
    refine lv_aload_n hx hb dX6_hasCell_5 rfl (lv_at hl 0 rfl) ?_
    refine va_get (D := (dC, dI)) (ci := 6) (v := .int (nI nz)) (C := RX6) (T := TX6) (N := 4) hx hb hts iw_r_hasCell_5_X6 hown hK hP 0 rfl rfl 3 (by decide) (hts (.fieldLink RX6 9 "ThriceCounted$Rows" "size" "I") (by decide +kernel)) (fun _ h9 => h9) rfl dX6_hasCell_6 ?_
    refine lv_icmp_ge (tgt := 44) hx hb dX6_hasCell_9 (by decide) (fun c_2 => ?_) (fun c_2 => ?_)
    · refine lv_iconst (v := 0) hx hb dX6_hasCell_44 (by decide) ?_
      exact W.zret (v := 0) hx hb hr (by decide) (fun t ht hW => ⟨0, rfl, (if_neg (fun z => tz_ltn z.1.2 c_2)).symm, ht⟩) (fun _ h => absurd h List.not_mem_nil) dX6_hasCell_45
    · refine lv_iload_n hx hb dX6_hasCell_12 rfl (lv_at hl 2 rfl) ?_
      refine lv_if_lt (tgt := 44) hx hb dX6_hasCell_13 (by decide) (fun c_3 => ?_) (fun c_3 => ?_)
      · refine lv_iconst (v := 0) hx hb dX6_hasCell_44 (by decide) ?_
        exact W.zret (v := 0) hx hb hr (by decide) (fun t ht hW => ⟨0, rfl, (if_neg (fun z => tz_ltn c_3 z.2.1)).symm, ht⟩) (fun _ h => absurd h List.not_mem_nil) dX6_hasCell_45
      · refine lv_iload_n hx hb dX6_hasCell_16 rfl (lv_at hl 2 rfl) ?_
        refine lv_aload_n hx hb dX6_hasCell_17 rfl (lv_at hl 0 rfl) ?_
        refine va_get (D := (dC, dI)) (ci := 6) (v := .int 1) (C := RX6) (T := TX6) (N := 4) hx hb hts iw_r_hasCell_5_X6 hown hK hP 0 rfl rfl 0 (by decide) (hts (.fieldLink RX6 24 "ThriceCounted$Rows" "width" "I") (by decide +kernel)) (fun _ h9 => h9) rfl dX6_hasCell_18 ?_
        refine lv_icmp_ge (tgt := 44) hx hb dX6_hasCell_21 (by decide) (fun c_4 => ?_) (fun c_4 => ?_)
        · refine lv_iconst (v := 0) hx hb dX6_hasCell_44 (by decide) ?_
          exact W.zret (v := 0) hx hb hr (by decide) (fun t ht hW => ⟨0, rfl, (if_neg (fun z => tz_ltn z.2.2 c_4)).symm, ht⟩) (fun _ h => absurd h List.not_mem_nil) dX6_hasCell_45
        · obtain ⟨j1, hj1, e1⟩ := tz_below c_1 c_2 (by omega)
          obtain ⟨j2, hj2, e2⟩ := tz_below (n := 1) c_3 c_4 (by omega)
          refine lv_iload_n hx hb dX6_hasCell_24 rfl (lv_at hl 1 rfl) ?_
          refine lv_aload_n hx hb dX6_hasCell_25 rfl (lv_at hl 0 rfl) ?_
          refine va_get (D := (dC, dI)) (ci := 6) (v := .int 1) (C := RX6) (T := TX6) (N := 4) hx hb hts iw_r_hasCell_5_X6 hown hK hP 0 rfl rfl 0 (by decide) (hts (.fieldLink RX6 24 "ThriceCounted$Rows" "width" "I") (by decide +kernel)) (fun _ h9 => h9) rfl dX6_hasCell_26 ?_
          refine lv_imul hx hb dX6_hasCell_29 ?_
          refine lv_iload_n hx hb dX6_hasCell_30 rfl (lv_at hl 2 rfl) ?_
          refine lv_iadd hx hb dX6_hasCell_31 ?_
          refine lv_aload_n hx hb dX6_hasCell_32 rfl (lv_at hl 0 rfl) ?_
          refine va_get (D := (dC, dI)) (ci := 6) (v := .ref ca) (C := RX6) (T := TX6) (N := 4) hx hb hts iw_r_hasCell_5_X6 hown hK hP 0 rfl rfl 2 (by decide) (hts (.fieldLink RX6 27 "ThriceCounted$Rows" "cells" "[I") (by decide +kernel)) (fun _ h9 => h9) rfl dX6_hasCell_33 ?_
          refine va_alen (v := 5) hx hb hK hP 1 0 rfl rfl rfl dX6_hasCell_36 ?_
          refine lv_icmp_ge (tgt := 44) hx hb dX6_hasCell_37 (by decide) (fun c_5 => ?_) (fun c_5 => ?_)
          · exact absurd c_5 (by rw [e1, e2]; exact (by rw [show (1 : Int32) = nI 1 from rfl, pk_mul, nI_add]; exact nI_ge (b := 5) (by omega) (by decide)))
          · refine lv_iconst (v := 1) hx hb dX6_hasCell_40 (by decide) ?_
            refine lv_goto (tgt := 45) hx hb dX6_hasCell_41 (by decide) ?_
            exact W.zret (v := 1) hx hb hr (by decide) (fun t ht hW => ⟨1, rfl, (if_pos ⟨⟨tz_nlt c_1, tz_nle c_2⟩, tz_nlt c_3, tz_nle c_4⟩).symm, ht⟩) (fun _ h => absurd h List.not_mem_nil) dX6_hasCell_45
set_option maxRecDepth 20000 in
theorem ggX6_get_X6_hasCell : GoodIn wsX6_get wsX6_hasCell := goodIn_r _ [7, 8, 2, 1, 9, 10, 11, 12] (by decide +kernel) (by decide +kernel)
set_option maxRecDepth 20000 in
theorem gX6_get_X6_hasCell : GoodIn wsX6_get (wsV RX6 31 RX6 yX6_hasCell wsX6_hasCell) := goodIn_app (goodIn_of _ (by decide +kernel)) ggX6_get_X6_hasCell
theorem dX6_get_0 : decode cX6_get 0 = .ok (.aload_n 0, 1) := by decide +kernel
theorem dX6_get_1 : decode cX6_get 1 = .ok (.iload_n 1, 1) := by decide +kernel
theorem dX6_get_2 : decode cX6_get 2 = .ok (.iload_n 2, 1) := by decide +kernel
theorem dX6_get_3 : decode cX6_get 3 = .ok (.invokevirtual 31, 3) := by decide +kernel
theorem dX6_get_6 : decode cX6_get 6 = .ok (.ifCond .eq 19, 3) := by decide +kernel
theorem dX6_get_9 : decode cX6_get 9 = .ok (.aload_n 0, 1) := by decide +kernel
theorem dX6_get_10 : decode cX6_get 10 = .ok (.getfield 27, 3) := by decide +kernel
theorem dX6_get_13 : decode cX6_get 13 = .ok (.iload_n 1, 1) := by decide +kernel
theorem dX6_get_14 : decode cX6_get 14 = .ok (.aload_n 0, 1) := by decide +kernel
theorem dX6_get_15 : decode cX6_get 15 = .ok (.getfield 24, 3) := by decide +kernel
theorem dX6_get_18 : decode cX6_get 18 = .ok (.imul, 1) := by decide +kernel
theorem dX6_get_19 : decode cX6_get 19 = .ok (.iload_n 2, 1) := by decide +kernel
theorem dX6_get_20 : decode cX6_get 20 = .ok (.iadd, 1) := by decide +kernel
theorem dX6_get_21 : decode cX6_get 21 = .ok (.iaload, 1) := by decide +kernel
theorem dX6_get_22 : decode cX6_get 22 = .ok (.goto 4, 3) := by decide +kernel
theorem dX6_get_26 : decode cX6_get 26 = .ok (.ireturn, 1) := by decide +kernel
theorem dX6_get_25 : decode cX6_get 25 = .ok (.iconst (-1), 1) := by decide +kernel
set_option maxRecDepth 20000 in
theorem iw_r_get_5_X6 : ∀ w ∈ wsX60, w ∈ wsX6_get := by decide +kernel
set_option maxHeartbeats 4000000 in
set_option maxRecDepth 100000 in
theorem r_get_5 (l : Launch) (dC : Nat → ClassId) (dI : Nat → Nat → Nat) (ro : Nat) (ca : Nat) (nz : Nat) (cc0 : ClassId) (ff : Nat → Int32) (na : Int32) (nb : Int32) (hz : nz ≤ 5) : Met l yX6_get wsX6_get ({ frames := 1, cells := 0, slots := 0, locals := 22 }) (va_Pc [.ref ro, .int na, .int nb] (fun U => va_P (dC, dI) vwCl [(ro, .inr (6, [.int 1, .int 5, .ref ca, .int (nI nz)])), (ca, .inl (cc0, 5, .inl ff))] U.heap ∧ va_K (dC, dI) vwCl [(cc0, .int)] U)) (vp_Si (fun r => True)) 0 0 (fun _ => False) := by
  refine Met.ofW (cc := cX6_get) (maxL := 3) (ret := (some .int)) (by decide) rfl ?_
  intro p e s m args below meth c s₁ B hml hv
  obtain ⟨rfl, hP, hK⟩ := hv
  have hx := B.exec
  have hb := B.bytes
  have hr := B.returns
  have hts := atoms_spec (ws := wsX6_get) B.pre
  have hown : s.vm.findClass RX6 = some m.cls := findClass_of_methodNamed B.named
  have hlocks := B.notSynchronized
  have hl := lv_entry ([.ref ro, .int na, .int nb]) (n := 3) (Nat.le_of_ble_eq_true rfl)
  rw [lg_entry_eq]
  generalize (lg_sl ([.ref ro, .int na, .int nb]) ++ List.replicate (3 - (lg_sl ([.ref ro, .int na, .int nb])).length) Slot.unset).toArray = ls at hl ⊢
  have hl : lv_has ls 3 [(0, .ref ro), (1, .int na), (2, .int nb)] := hl
  refine lv_aload_n hx hb dX6_get_0 rfl (lv_at hl 0 rfl) ?_
  refine lv_iload_n hx hb dX6_get_1 rfl (lv_at hl 1 rfl) ?_
  refine lv_iload_n hx hb dX6_get_2 rfl (lv_at hl 2 rfl) ?_
  have hPc_1 := hP.sub (ws' := [(ro, .inr (6, [.int 1, .int 5, .ref ca, .int (nI nz)])), (ca, .inl (cc0, 5, .inl ff))]) [0, 1] rfl
  have hKc_2 := hK.sub (tys' := [(cc0, .int)]) [0] rfl
  refine vp_callSi (va_Run.run (va_runV (As := [.int na, .int nb]) (rest := []) ⟨hx, hb, hml, hown, hts⟩ (r_hasCell_5 l dC dI ro ca nz cc0 ff na nb hz) (cwV 2 hts gX6_get_X6_hasCell rfl rfl rfl (by decide +kernel) ⟨Nat.le_of_ble_eq_true rfl, Nat.le_of_ble_eq_true rfl⟩) ⟨fun a U g mk q => by obtain ⟨q0, qP, qK⟩ := q; exact ⟨q0, qP, va_K.moved (u := U) (U := U.calling g mk a) (Vm.Alike.refl U.vm) qK⟩, va_recv hK hP (ci := 6) (q0 := 0) rfl rfl, fun U hU hW => ⟨rfl, by rw [hU]; exact hPc_1, va_K.moved hW.alike hKc_2⟩⟩ rfl rfl hl.1 rfl (lv_room (Nat.le_of_ble_eq_true rfl)) dX6_get_3 ⟨Nat.le_of_ble_eq_true rfl, Nat.le_of_ble_eq_true rfl⟩)) (fun r_3 hw_4 => ?_)
  by_cases hc_5 : (0 ≤ na ∧ na < nI nz) ∧ (0 ≤ nb ∧ nb < 1)
  · obtain rfl : 1 = r_3 := (hw_4.trans (if_pos hc_5)).symm
    obtain ⟨j1, hj1, e1⟩ := tz_belowI hc_5.1 (by omega)
    obtain ⟨j2, hj2, e2⟩ := tz_belowI (n := 1) hc_5.2 (by omega)
    refine lv_if_eq (tgt := 25) hx hb dX6_get_6 (by decide) (fun c_6 => ?_) (fun c_6 => ?_)
    · exact absurd c_6 (by decide)
    · refine lv_aload_n hx hb dX6_get_9 rfl (lv_at hl 0 rfl) ?_
      refine va_get (D := (dC, dI)) (ci := 6) (v := .ref ca) (C := RX6) (T := TX6) (N := 4) hx hb hts iw_r_get_5_X6 hown hK hP 0 rfl rfl 2 (by decide) (hts (.fieldLink RX6 27 "ThriceCounted$Rows" "cells" "[I") (by decide +kernel)) (fun _ h9 => h9) rfl dX6_get_10 ?_
      refine lv_iload_n hx hb dX6_get_13 rfl (lv_at hl 1 rfl) ?_
      refine lv_aload_n hx hb dX6_get_14 rfl (lv_at hl 0 rfl) ?_
      refine va_get (D := (dC, dI)) (ci := 6) (v := .int 1) (C := RX6) (T := TX6) (N := 4) hx hb hts iw_r_get_5_X6 hown hK hP 0 rfl rfl 0 (by decide) (hts (.fieldLink RX6 24 "ThriceCounted$Rows" "width" "I") (by decide +kernel)) (fun _ h9 => h9) rfl dX6_get_15 ?_
      refine lv_imul hx hb dX6_get_18 ?_
      refine lv_iload_n hx hb dX6_get_19 rfl (lv_at hl 2 rfl) ?_
      refine lv_iadd hx hb dX6_get_20 ?_
      refine va_iald hx hb hK hP 1 0 rfl rfl (by rw [e1, e2, show (1 : Int32) = nI 1 from rfl, pk_mul, nI_add]; exact vp_in_nI (by omega) (by decide)) dX6_get_21 ?_
      refine lv_topi (fun x_7 _ => ?_)
      refine lv_goto (tgt := 26) hx hb dX6_get_22 (by decide) ?_
      exact W.iret (v := x_7) hx hb hr (fun t ht hW => ⟨x_7, rfl, trivial, ht⟩) (fun _ h => absurd h List.not_mem_nil) dX6_get_26
  · obtain rfl : 0 = r_3 := (hw_4.trans (if_neg hc_5)).symm
    refine lv_if_eq (tgt := 25) hx hb dX6_get_6 (by decide) (fun c_8 => ?_) (fun c_8 => ?_)
    · refine lv_iconst (v := (-1)) hx hb dX6_get_25 (by decide) ?_
      exact W.iret (v := (-1)) hx hb hr (fun t ht hW => ⟨(-1), rfl, trivial, ht⟩) (fun _ h => absurd h List.not_mem_nil) dX6_get_26
    · exact absurd c_8 (by decide)
set_option maxRecDepth 20000 in
theorem ggX6_put_X6_hasCell : GoodIn wsX6_put wsX6_hasCell := goodIn_r _ [7, 8, 2, 1, 9, 10, 11, 12] (by decide +kernel) (by decide +kernel)
set_option maxRecDepth 20000 in
theorem gX6_put_X6_hasCell : GoodIn wsX6_put (wsV RX6 31 RX6 yX6_hasCell wsX6_hasCell) := goodIn_app (goodIn_of _ (by decide +kernel)) ggX6_put_X6_hasCell
theorem dX6_put_0 : decode cX6_put 0 = .ok (.aload_n 0, 1) := by decide +kernel
theorem dX6_put_1 : decode cX6_put 1 = .ok (.iload_n 1, 1) := by decide +kernel
theorem dX6_put_2 : decode cX6_put 2 = .ok (.iload_n 2, 1) := by decide +kernel
theorem dX6_put_3 : decode cX6_put 3 = .ok (.invokevirtual 31, 3) := by decide +kernel
theorem dX6_put_6 : decode cX6_put 6 = .ok (.ifCond .eq 17, 3) := by decide +kernel
theorem dX6_put_9 : decode cX6_put 9 = .ok (.aload_n 0, 1) := by decide +kernel
theorem dX6_put_10 : decode cX6_put 10 = .ok (.getfield 27, 3) := by decide +kernel
theorem dX6_put_13 : decode cX6_put 13 = .ok (.iload_n 1, 1) := by decide +kernel
theorem dX6_put_14 : decode cX6_put 14 = .ok (.aload_n 0, 1) := by decide +kernel
theorem dX6_put_15 : decode cX6_put 15 = .ok (.getfield 24, 3) := by decide +kernel
theorem dX6_put_18 : decode cX6_put 18 = .ok (.imul, 1) := by decide +kernel
theorem dX6_put_19 : decode cX6_put 19 = .ok (.iload_n 2, 1) := by decide +kernel
theorem dX6_put_20 : decode cX6_put 20 = .ok (.iadd, 1) := by decide +kernel
theorem dX6_put_21 : decode cX6_put 21 = .ok (.iload_n 3, 1) := by decide +kernel
theorem dX6_put_22 : decode cX6_put 22 = .ok (.iastore, 1) := by decide +kernel
theorem dX6_put_23 : decode cX6_put 23 = .ok (.return_, 1) := by decide +kernel
set_option maxRecDepth 20000 in
theorem iw_r_put_5_X6 : ∀ w ∈ wsX60, w ∈ wsX6_put := by decide +kernel
set_option maxHeartbeats 4000000 in
set_option maxRecDepth 100000 in
theorem r_put_5 (l : Launch) (dC : Nat → ClassId) (dI : Nat → Nat → Nat) (ro : Nat) (ca : Nat) (nz : Nat) (cc0 : ClassId) (ff : Nat → Int32) (na : Int32) (nb : Int32) (nv : Int32) (sz : Nat) (hz : nz ≤ 5) : Met l yX6_put wsX6_put ({ frames := 1, cells := 0, slots := 0, locals := 22 }) (va_Pc [.ref ro, .int na, .int nb, .int nv] (fun U => U.heap.size = sz ∧ va_P (dC, dI) vwCl [(ro, .inr (6, [.int 1, .int 5, .ref ca, .int (nI nz)])), (ca, .inl (cc0, 5, .inl ff))] U.heap ∧ va_K (dC, dI) vwCl [(cc0, .int)] U ∧ va_D (fun _ => True) [(ro, .inr (6, [.int 1, .int 5, .ref ca, .int (nI nz)])), (ca, .inl (cc0, 5, .inl ff))])) (va_Qv (fun (_ : Unit) => True) (fun _ t => ∃ (fg : Nat → Int32), va_P (dC, dI) vwCl [(ro, .inr (6, [.int 1, .int 5, .ref ca, .int (nI nz)])), (ca, .inl (cc0, 5, .inl fg))] t.heap ∧ va_K (dC, dI) vwCl [(cc0, .int)] t ∧ va_D (va_A [(ro, .inr (6, [.int 1, .int 5, .ref ca, .int (nI nz)])), (ca, .inl (cc0, 5, .inl ff))] sz) [(ro, .inr (6, [.int 1, .int 5, .ref ca, .int (nI nz)])), (ca, .inl (cc0, 5, .inl fg))]) (va_A [(ro, .inr (6, [.int 1, .int 5, .ref ca, .int (nI nz)])), (ca, .inl (cc0, 5, .inl ff))] sz)) 0 0 (va_A [(ro, .inr (6, [.int 1, .int 5, .ref ca, .int (nI nz)])), (ca, .inl (cc0, 5, .inl ff))] sz) := by
  refine Met.ofW (cc := cX6_put) (maxL := 4) (ret := none) (by decide) rfl ?_
  intro p e s m args below meth c s₁ B hml hv
  obtain ⟨rfl, hsz, hP, hK, hD0⟩ := hv
  have hx := B.exec
  have hb := B.bytes
  have hr := B.returns
  have hts := atoms_spec (ws := wsX6_put) B.pre
  have hown : s.vm.findClass RX6 = some m.cls := findClass_of_methodNamed B.named
  have hlocks := B.notSynchronized
  subst hsz
  have hD := hD0.self (sz := s.heap.size)
  generalize hAe : va_A [(ro, .inr (6, [.int 1, .int 5, .ref ca, .int (nI nz)])), (ca, .inl (cc0, 5, .inl ff))] s.heap.size = A at hD ⊢
  have hA : ∀ q : Nat, s.heap.size ≤ q → A q := fun q h => by rw [← hAe]; exact Or.inr h
  have hS : va_S A s.heap s.heap [] := va_S.rf
  have hP : va_P (dC, dI) vwCl [(ro, .inr (6, [.int 1, .int 5, .ref ca, .int (nI nz)])), (ca, .inl (cc0, 5, .inl ff))] s.heap := hP
  have hl := lv_entry ([.ref ro, .int na, .int nb, .int nv]) (n := 4) (Nat.le_of_ble_eq_true rfl)
  rw [lg_entry_eq]
  generalize (lg_sl ([.ref ro, .int na, .int nb, .int nv]) ++ List.replicate (4 - (lg_sl ([.ref ro, .int na, .int nb, .int nv])).length) Slot.unset).toArray = ls at hl ⊢
  have hl : lv_has ls 4 [(0, .ref ro), (1, .int na), (2, .int nb), (3, .int nv)] := hl
  refine lv_aload_n hx hb dX6_put_0 rfl (lv_at hl 0 rfl) ?_
  refine lv_iload_n hx hb dX6_put_1 rfl (lv_at hl 1 rfl) ?_
  refine lv_iload_n hx hb dX6_put_2 rfl (lv_at hl 2 rfl) ?_
  have hPc_1 := hP.sub (ws' := [(ro, .inr (6, [.int 1, .int 5, .ref ca, .int (nI nz)])), (ca, .inl (cc0, 5, .inl ff))]) [0, 1] rfl
  have hKc_2 := hK.sub (tys' := [(cc0, .int)]) [0] rfl
  refine vp_callSi (va_Run.run (va_runV (As := [.int na, .int nb]) (rest := []) ⟨hx, hb, hml, hown, hts⟩ (r_hasCell_5 l dC dI ro ca nz cc0 ff na nb hz) (cwV 2 hts gX6_put_X6_hasCell rfl rfl rfl (by decide +kernel) ⟨Nat.le_of_ble_eq_true rfl, Nat.le_of_ble_eq_true rfl⟩) ⟨fun a U g mk q => by obtain ⟨q0, qP, qK⟩ := q; exact ⟨q0, qP, va_K.moved (u := U) (U := U.calling g mk a) (Vm.Alike.refl U.vm) qK⟩, va_recv hK hP (ci := 6) (q0 := 0) rfl rfl, fun U hU hW => ⟨rfl, by rw [hU]; exact hPc_1, va_K.moved hW.alike hKc_2⟩⟩ rfl rfl hl.1 rfl (lv_room (Nat.le_of_ble_eq_true rfl)) dX6_put_3 ⟨Nat.le_of_ble_eq_true rfl, Nat.le_of_ble_eq_true rfl⟩)) (fun r_3 hw_4 => ?_)
  by_cases hc_5 : (0 ≤ na ∧ na < nI nz) ∧ (0 ≤ nb ∧ nb < 1)
  · obtain rfl : 1 = r_3 := (hw_4.trans (if_pos hc_5)).symm
    obtain ⟨j1, hj1, e1⟩ := tz_belowI hc_5.1 (by omega)
    obtain ⟨j2, hj2, e2⟩ := tz_belowI (n := 1) hc_5.2 (by omega)
    refine lv_if_eq (tgt := 23) hx hb dX6_put_6 (by decide) (fun c_6 => ?_) (fun c_6 => ?_)
    · exact absurd c_6 (by decide)
    · refine lv_aload_n hx hb dX6_put_9 rfl (lv_at hl 0 rfl) ?_
      refine va_get (D := (dC, dI)) (ci := 6) (v := .ref ca) (C := RX6) (T := TX6) (N := 4) hx hb hts iw_r_put_5_X6 hown hK hP 0 rfl rfl 2 (by decide) (hts (.fieldLink RX6 27 "ThriceCounted$Rows" "cells" "[I") (by decide +kernel)) (fun _ h9 => h9) rfl dX6_put_10 ?_
      refine lv_iload_n hx hb dX6_put_13 rfl (lv_at hl 1 rfl) ?_
      refine lv_aload_n hx hb dX6_put_14 rfl (lv_at hl 0 rfl) ?_
      refine va_get (D := (dC, dI)) (ci := 6) (v := .int 1) (C := RX6) (T := TX6) (N := 4) hx hb hts iw_r_put_5_X6 hown hK hP 0 rfl rfl 0 (by decide) (hts (.fieldLink RX6 24 "ThriceCounted$Rows" "width" "I") (by decide +kernel)) (fun _ h9 => h9) rfl dX6_put_15 ?_
      refine lv_imul hx hb dX6_put_18 ?_
      refine lv_iload_n hx hb dX6_put_19 rfl (lv_at hl 2 rfl) ?_
      refine lv_iadd hx hb dX6_put_20 ?_
      refine lv_iload_n hx hb dX6_put_21 rfl (lv_at hl 3 rfl) ?_
      refine va_iast hx hb hK hP hD hS 1 0 rfl rfl (by rw [e1, e2, show (1 : Int32) = nI 1 from rfl, pk_mul, nI_add]; exact vp_in_nI (by omega) (by decide)) dX6_put_22 (fun H locs hP hD hS => ?_)
      generalize (upd ff (Int32.toNatClampNeg ((na * 1) + nb)) nv) = f_7 at hP hD
      have hP : va_P (dC, dI) vwCl [(ro, .inr (6, [.int 1, .int 5, .ref ca, .int (nI nz)])), (ca, .inl (cc0, 5, .inl f_7))] H := hP
      have hD : va_D A [(ro, .inr (6, [.int 1, .int 5, .ref ca, .int (nI nz)])), (ca, .inl (cc0, 5, .inl f_7))] := hD
      have hP9 := hP.sub (ws' := [(ro, .inr (6, [.int 1, .int 5, .ref ca, .int (nI nz)])), (ca, .inl (cc0, 5, .inl f_7))]) [0, 1] rfl
      have hD9 := hD.sub (ws' := [(ro, .inr (6, [.int 1, .int 5, .ref ca, .int (nI nz)])), (ca, .inl (cc0, 5, .inl f_7))]) [0, 1] (by decide) rfl
      have hK9 := hK.sub (tys' := [(cc0, .int)]) [0] rfl
      exact W.vret hx hb hr (fun t ht hW => ⟨⟨(), rfl, trivial, f_7, by rw [ht]; exact hP9, va_K.moved hW.alike hK9, hD9⟩, hS.F ht⟩) hS.2.2 dX6_put_23
  · obtain rfl : 0 = r_3 := (hw_4.trans (if_neg hc_5)).symm
    refine lv_if_eq (tgt := 23) hx hb dX6_put_6 (by decide) (fun c_8 => ?_) (fun c_8 => ?_)
    · have hP9 := hP.sub (ws' := [(ro, .inr (6, [.int 1, .int 5, .ref ca, .int (nI nz)])), (ca, .inl (cc0, 5, .inl ff))]) [0, 1] rfl
      have hD9 := hD.sub (ws' := [(ro, .inr (6, [.int 1, .int 5, .ref ca, .int (nI nz)])), (ca, .inl (cc0, 5, .inl ff))]) [0, 1] (by decide) rfl
      have hK9 := hK.sub (tys' := [(cc0, .int)]) [0] rfl
      exact W.vret hx hb hr (fun t ht hW => ⟨⟨(), rfl, trivial, ff, by rw [ht]; exact hP9, va_K.moved hW.alike hK9, hD9⟩, hS.F ht⟩) hS.2.2 dX6_put_23
    · exact absurd c_8 (by decide)
theorem dX6_empty_0 : decode cX6_empty 0 = .ok (.aload_n 0, 1) := by decide +kernel
theorem dX6_empty_1 : decode cX6_empty 1 = .ok (.iconst 0, 1) := by decide +kernel
theorem dX6_empty_2 : decode cX6_empty 2 = .ok (.putfield 9, 3) := by decide +kernel
theorem dX6_empty_5 : decode cX6_empty 5 = .ok (.return_, 1) := by decide +kernel
set_option maxRecDepth 20000 in
theorem iw_r_empty_5_X6 : ∀ w ∈ wsX60, w ∈ wsX6_empty := by decide +kernel
set_option maxHeartbeats 4000000 in
set_option maxRecDepth 100000 in
theorem r_empty_5 (l : Launch) (dC : Nat → ClassId) (dI : Nat → Nat → Nat) (ro : Nat) (ca : Nat) (nz : Nat) (sz : Nat) : Met l yX6_empty wsX6_empty ({ frames := 0, cells := 0, slots := 0, locals := 0 }) (va_Pc [.ref ro] (fun U => U.heap.size = sz ∧ va_P (dC, dI) vwCl [(ro, .inr (6, [.int 1, .int 5, .ref ca, .int (nI nz)]))] U.heap ∧ va_K (dC, dI) vwCl [] U ∧ va_D (fun _ => True) [(ro, .inr (6, [.int 1, .int 5, .ref ca, .int (nI nz)]))])) (va_Qv (fun (_ : Unit) => True) (fun _ t => va_P (dC, dI) vwCl [(ro, .inr (6, [.int 1, .int 5, .ref ca, .int 0]))] t.heap ∧ va_K (dC, dI) vwCl [] t ∧ va_D (va_A [(ro, .inr (6, [.int 1, .int 5, .ref ca, .int (nI nz)]))] sz) [(ro, .inr (6, [.int 1, .int 5, .ref ca, .int 0]))]) (va_A [(ro, .inr (6, [.int 1, .int 5, .ref ca, .int (nI nz)]))] sz)) 0 0 (va_A [(ro, .inr (6, [.int 1, .int 5, .ref ca, .int (nI nz)]))] sz) := by
  refine Met.ofW (cc := cX6_empty) (maxL := 1) (ret := none) (by decide) rfl ?_
  intro p e s m args below meth c s₁ B hml hv
  obtain ⟨rfl, hsz, hP, hK, hD0⟩ := hv
  have hx := B.exec
  have hb := B.bytes
  have hr := B.returns
  have hts := atoms_spec (ws := wsX6_empty) B.pre
  have hown : s.vm.findClass RX6 = some m.cls := findClass_of_methodNamed B.named
  have hlocks := B.notSynchronized
  subst hsz
  have hD := hD0.self (sz := s.heap.size)
  generalize hAe : va_A [(ro, .inr (6, [.int 1, .int 5, .ref ca, .int (nI nz)]))] s.heap.size = A at hD ⊢
  have hA : ∀ q : Nat, s.heap.size ≤ q → A q := fun q h => by rw [← hAe]; exact Or.inr h
  have hS : va_S A s.heap s.heap [] := va_S.rf
  have hP : va_P (dC, dI) vwCl [(ro, .inr (6, [.int 1, .int 5, .ref ca, .int (nI nz)]))] s.heap := hP
  have hl := lv_entry ([.ref ro]) (n := 1) (Nat.le_of_ble_eq_true rfl)
  rw [lg_entry_eq]
  generalize (lg_sl ([.ref ro]) ++ List.replicate (1 - (lg_sl ([.ref ro])).length) Slot.unset).toArray = ls at hl ⊢
  have hl : lv_has ls 1 [(0, .ref ro)] := hl
  refine lv_aload_n hx hb dX6_empty_0 rfl (lv_at hl 0 rfl) ?_
  refine lv_iconst (v := 0) hx hb dX6_empty_1 (by decide) ?_
  refine va_put (D := (dC, dI)) (ci := 6) (v := .int 0) (ty := .int) (C := RX6) (T := TX6) (N := 4) hx hb hts iw_r_empty_5_X6 tyX6 tyX6_ok nmX6 hown hK hP hD hS 0 rfl rfl 3 (by decide) (hts (.fieldLink RX6 9 "ThriceCounted$Rows" "size" "I") (by decide +kernel)) (fun _ h9 => h9) rfl (by decide +kernel) rfl rfl (Nat.le_of_ble_eq_true rfl) dX6_empty_2 (fun H locs hP hD hS => ?_)
  have hP : va_P (dC, dI) vwCl [(ro, .inr (6, [.int 1, .int 5, .ref ca, .int 0]))] H := hP
  have hD : va_D A [(ro, .inr (6, [.int 1, .int 5, .ref ca, .int 0]))] := hD
  have hP9 := hP.sub (ws' := [(ro, .inr (6, [.int 1, .int 5, .ref ca, .int 0]))]) [0] rfl
  have hD9 := hD.sub (ws' := [(ro, .inr (6, [.int 1, .int 5, .ref ca, .int 0]))]) [0] (by decide) rfl
  have hK9 := hK.sub (tys' := []) [] rfl
  exact W.vret hx hb hr (fun t ht hW => ⟨⟨(), rfl, trivial, by rw [ht]; exact hP9, va_K.moved hW.alike hK9, hD9⟩, hS.F ht⟩) hS.2.2 dX6_empty_5
set_option maxRecDepth 20000 in
theorem iw_r_size_20_X6 : ∀ w ∈ wsX60, w ∈ wsX6_size := by decide +kernel
set_option maxHeartbeats 4000000 in
set_option maxRecDepth 100000 in
theorem r_size_20 (l : Launch) (dC : Nat → ClassId) (dI : Nat → Nat → Nat) (ro : Nat) (ca : Nat) (nz : Nat) : Met l yX6_size wsX6_size ({ frames := 0, cells := 0, slots := 0, locals := 0 }) (va_Pc [.ref ro] (fun U => va_P (dC, dI) vwCl [(ro, .inr (6, [.int 4, .int 5, .ref ca, .int (nI nz)]))] U.heap ∧ va_K (dC, dI) vwCl [] U)) (vp_Si (fun r => r = (nI nz))) 0 0 (fun _ => False) := by
  refine Met.ofW (cc := cX6_size) (maxL := 1) (ret := (some .int)) (by decide) rfl ?_
  intro p e s m args below meth c s₁ B hml hv
  obtain ⟨rfl, hP, hK⟩ := hv
  have hx := B.exec
  have hb := B.bytes
  have hr := B.returns
  have hts := atoms_spec (ws := wsX6_size) B.pre
  have hown : s.vm.findClass RX6 = some m.cls := findClass_of_methodNamed B.named
  have hlocks := B.notSynchronized
  have hl := lv_entry ([.ref ro]) (n := 1) (Nat.le_of_ble_eq_true rfl)
  rw [lg_entry_eq]
  generalize (lg_sl ([.ref ro]) ++ List.replicate (1 - (lg_sl ([.ref ro])).length) Slot.unset).toArray = ls at hl ⊢
  have hl : lv_has ls 1 [(0, .ref ro)] := hl
  refine lv_aload_n hx hb dX6_size_0 rfl (lv_at hl 0 rfl) ?_
  refine va_get (D := (dC, dI)) (ci := 6) (v := .int (nI nz)) (C := RX6) (T := TX6) (N := 4) hx hb hts iw_r_size_20_X6 hown hK hP 0 rfl rfl 3 (by decide) (hts (.fieldLink RX6 9 "ThriceCounted$Rows" "size" "I") (by decide +kernel)) (fun _ h9 => h9) rfl dX6_size_1 ?_
  exact W.iret (v := (nI nz)) hx hb hr (fun t ht hW => ⟨(nI nz), rfl, rfl, ht⟩) (fun _ h => absurd h List.not_mem_nil) dX6_size_4
set_option maxRecDepth 20000 in
theorem iw_r_isFull_20_X6 : ∀ w ∈ wsX60, w ∈ wsX6_isFull := by decide +kernel
set_option maxHeartbeats 4000000 in
set_option maxRecDepth 100000 in
theorem r_isFull_20 (l : Launch) (dC : Nat → ClassId) (dI : Nat → Nat → Nat) (ro : Nat) (ca : Nat) (nz : Nat) (hz : nz ≤ 5) : Met l yX6_isFull wsX6_isFull ({ frames := 0, cells := 0, slots := 0, locals := 0 }) (va_Pc [.ref ro] (fun U => va_P (dC, dI) vwCl [(ro, .inr (6, [.int 4, .int 5, .ref ca, .int (nI nz)]))] U.heap ∧ va_K (dC, dI) vwCl [] U)) (vp_Si (fun r => r = if 5 ≤ nz then 1 else 0)) 0 0 (fun _ => False) := by
  refine Met.ofW (cc := cX6_isFull) (maxL := 1) (ret := (some .boolean)) (by decide) rfl ?_
  intro p e s m args below meth c s₁ B hml hv
  obtain ⟨rfl, hP, hK⟩ := hv
  have hx := B.exec
  have hb := B.bytes
  have hr := B.returns
  have hts := atoms_spec (ws := wsX6_isFull) B.pre
  have hown : s.vm.findClass RX6 = some m.cls := findClass_of_methodNamed B.named
  have hlocks := B.notSynchronized
  have hl := lv_entry ([.ref ro]) (n := 1) (Nat.le_of_ble_eq_true rfl)
  rw [lg_entry_eq]
  generalize (lg_sl ([.ref ro]) ++ List.replicate (1 - (lg_sl ([.ref ro])).length) Slot.unset).toArray = ls at hl ⊢
  have hl : lv_has ls 1 [(0, .ref ro)] := hl
  refine lv_aload_n hx hb dX6_isFull_0 rfl (lv_at hl 0 rfl) ?_
  refine va_get (D := (dC, dI)) (ci := 6) (v := .int (nI nz)) (C := RX6) (T := TX6) (N := 4) hx hb hts iw_r_isFull_20_X6 hown hK hP 0 rfl rfl 3 (by decide) (hts (.fieldLink RX6 9 "ThriceCounted$Rows" "size" "I") (by decide +kernel)) (fun _ h9 => h9) rfl dX6_isFull_1 ?_
  refine lv_aload_n hx hb dX6_isFull_4 rfl (lv_at hl 0 rfl) ?_
  refine va_get (D := (dC, dI)) (ci := 6) (v := .int 5) (C := RX6) (T := TX6) (N := 4) hx hb hts iw_r_isFull_20_X6 hown hK hP 0 rfl rfl 1 (by decide) (hts (.fieldLink RX6 21 "ThriceCounted$Rows" "limit" "I") (by decide +kernel)) (fun _ h9 => h9) rfl dX6_isFull_5 ?_
  refine lv_icmp_lt (tgt := 15) hx hb dX6_isFull_8 (by decide) (fun c_1 => ?_) (fun c_1 => ?_)
  · have hn_2 : nz < 5 := (nI_ltI (a := nz) (b := 5) (by omega) (by omega)).mp c_1
    refine lv_iconst (v := 0) hx hb dX6_isFull_15 (by decide) ?_
    exact W.zret (v := 0) hx hb hr (by decide) (fun t ht hW => ⟨0, rfl, (if_neg (by omega)).symm, ht⟩) (fun _ h => absurd h List.not_mem_nil) dX6_isFull_16
  · have hn_3 : ¬ nz < 5 := fun q => c_1 ((nI_ltI (a := nz) (b := 5) (by omega) (by omega)).mpr q)
    refine lv_iconst (v := 1) hx hb dX6_isFull_11 (by decide) ?_
    refine lv_goto (tgt := 16) hx hb dX6_isFull_12 (by decide) ?_
    exact W.zret (v := 1) hx hb hr (by decide) (fun t ht hW => ⟨1, rfl, (if_pos (by omega)).symm, ht⟩) (fun _ h => absurd h List.not_mem_nil) dX6_isFull_16
set_option maxRecDepth 20000 in
theorem iw_r_has_20_X6 : ∀ w ∈ wsX60, w ∈ wsX6_has := by decide +kernel
set_option maxHeartbeats 4000000 in
set_option maxRecDepth 100000 in
theorem r_has_20 (l : Launch) (dC : Nat → ClassId) (dI : Nat → Nat → Nat) (ro : Nat) (ca : Nat) (nz : Nat) (na : Int32) : Met l yX6_has wsX6_has ({ frames := 0, cells := 0, slots := 0, locals := 0 }) (va_Pc [.ref ro, .int na] (fun U => va_P (dC, dI) vwCl [(ro, .inr (6, [.int 4, .int 5, .ref ca, .int (nI nz)]))] U.heap ∧ va_K (dC, dI) vwCl [] U)) (vp_Si (fun r => r = if 0 ≤ na ∧ na < nI nz then 1 else 0)) 0 0 (fun _ => False) := by
  refine Met.ofW (cc := cX6_has) (maxL := 2) (ret := (some .boolean)) (by decide) rfl ?_
  intro p e s m args below meth c s₁ B hml hv
  obtain ⟨rfl, hP, hK⟩ := hv
  have hx := B.exec
  have hb := B.bytes
  have hr := B.returns
  have hts := atoms_spec (ws := wsX6_has) B.pre
  have hown : s.vm.findClass RX6 = some m.cls := findClass_of_methodNamed B.named
  have hlocks := B.notSynchronized
  have hl := lv_entry ([.ref ro, .int na]) (n := 2) (Nat.le_of_ble_eq_true rfl)
  rw [lg_entry_eq]
  generalize (lg_sl ([.ref ro, .int na]) ++ List.replicate (2 - (lg_sl ([.ref ro, .int na])).length) Slot.unset).toArray = ls at hl ⊢
  have hl : lv_has ls 2 [(0, .ref ro), (1, .int na)] := hl
  refine lv_iload_n hx hb dX6_has_0 rfl (lv_at hl 1 rfl) ?_
  refine lv_if_lt (tgt := 16) hx hb dX6_has_1 (by decide) (fun c_1 => ?_) (fun c_1 => ?_)
  · refine lv_iconst (v := 0) hx hb dX6_has_16 (by decide) ?_
    exact W.zret (v := 0) hx hb hr (by decide) (fun t ht hW => ⟨0, rfl, (if_neg (fun z => tz_ltn c_1 z.1)).symm, ht⟩) (fun _ h => absurd h List.not_mem_nil) dX6_has_17
  · refine lv_iload_n hx hb dX6_has_4 rfl (lv_at hl 1 rfl) ?_
    refine lv_aload_n hx hb dX6_has_5 rfl (lv_at hl 0 rfl) ?_
    refine va_get (D := (dC, dI)) (ci := 6) (v := .int (nI nz)) (C := RX6) (T := TX6) (N := 4) hx hb hts iw_r_has_20_X6 hown hK hP 0 rfl rfl 3 (by decide) (hts (.fieldLink RX6 9 "ThriceCounted$Rows" "size" "I") (by decide +kernel)) (fun _ h9 => h9) rfl dX6_has_6 ?_
    refine lv_icmp_ge (tgt := 16) hx hb dX6_has_9 (by decide) (fun c_2 => ?_) (fun c_2 => ?_)
    · refine lv_iconst (v := 0) hx hb dX6_has_16 (by decide) ?_
      exact W.zret (v := 0) hx hb hr (by decide) (fun t ht hW => ⟨0, rfl, (if_neg (fun z => tz_ltn z.2 c_2)).symm, ht⟩) (fun _ h => absurd h List.not_mem_nil) dX6_has_17
    · refine lv_iconst (v := 1) hx hb dX6_has_12 (by decide) ?_
      refine lv_goto (tgt := 17) hx hb dX6_has_13 (by decide) ?_
      exact W.zret (v := 1) hx hb hr (by decide) (fun t ht hW => ⟨1, rfl, (if_pos ⟨tz_nlt c_1, tz_nle c_2⟩).symm, ht⟩) (fun _ h => absurd h List.not_mem_nil) dX6_has_17
set_option maxRecDepth 20000 in
theorem iw_r_hasCell_20_X6 : ∀ w ∈ wsX60, w ∈ wsX6_hasCell := by decide +kernel
set_option maxHeartbeats 4000000 in
set_option maxRecDepth 100000 in
theorem r_hasCell_20 (l : Launch) (dC : Nat → ClassId) (dI : Nat → Nat → Nat) (ro : Nat) (ca : Nat) (nz : Nat) (cc0 : ClassId) (ff : Nat → Int32) (na : Int32) (nb : Int32) (hz : nz ≤ 5) : Met l yX6_hasCell wsX6_hasCell ({ frames := 0, cells := 0, slots := 0, locals := 0 }) (va_Pc [.ref ro, .int na, .int nb] (fun U => va_P (dC, dI) vwCl [(ro, .inr (6, [.int 4, .int 5, .ref ca, .int (nI nz)])), (ca, .inl (cc0, 20, .inl ff))] U.heap ∧ va_K (dC, dI) vwCl [(cc0, .int)] U)) (vp_Si (fun r => r = if (0 ≤ na ∧ na < nI nz) ∧ (0 ≤ nb ∧ nb < 4) then 1 else 0)) 0 0 (fun _ => False) := by
  refine Met.ofW (cc := cX6_hasCell) (maxL := 3) (ret := (some .boolean)) (by decide) rfl ?_
  intro p e s m args below meth c s₁ B hml hv
  obtain ⟨rfl, hP, hK⟩ := hv
  have hx := B.exec
  have hb := B.bytes
  have hr := B.returns
  have hts := atoms_spec (ws := wsX6_hasCell) B.pre
  have hown : s.vm.findClass RX6 = some m.cls := findClass_of_methodNamed B.named
  have hlocks := B.notSynchronized
  have hl := lv_entry ([.ref ro, .int na, .int nb]) (n := 3) (Nat.le_of_ble_eq_true rfl)
  rw [lg_entry_eq]
  generalize (lg_sl ([.ref ro, .int na, .int nb]) ++ List.replicate (3 - (lg_sl ([.ref ro, .int na, .int nb])).length) Slot.unset).toArray = ls at hl ⊢
  have hl : lv_has ls 3 [(0, .ref ro), (1, .int na), (2, .int nb)] := hl
  refine lv_iload_n hx hb dX6_hasCell_0 rfl (lv_at hl 1 rfl) ?_
  refine lv_if_lt (tgt := 44) hx hb dX6_hasCell_1 (by decide) (fun c_1 => ?_) (fun c_1 => ?_)
  · refine lv_iconst (v := 0) hx hb dX6_hasCell_44 (by decide) ?_
    exact W.zret (v := 0) hx hb hr (by decide) (fun t ht hW => ⟨0, rfl, (if_neg (fun z => tz_ltn c_1 z.1.1)).symm, ht⟩) (fun _ h => absurd h List.not_mem_nil) dX6_hasCell_45
  · refine lv_iload_n hx hb dX6_hasCell_4 rfl (lv_at hl 1 rfl) ?_
    refine lv_aload_n hx hb dX6_hasCell_5 rfl (lv_at hl 0 rfl) ?_
    refine va_get (D := (dC, dI)) (ci := 6) (v := .int (nI nz)) (C := RX6) (T := TX6) (N := 4) hx hb hts iw_r_hasCell_20_X6 hown hK hP 0 rfl rfl 3 (by decide) (hts (.fieldLink RX6 9 "ThriceCounted$Rows" "size" "I") (by decide +kernel)) (fun _ h9 => h9) rfl dX6_hasCell_6 ?_
    refine lv_icmp_ge (tgt := 44) hx hb dX6_hasCell_9 (by decide) (fun c_2 => ?_) (fun c_2 => ?_)
    · refine lv_iconst (v := 0) hx hb dX6_hasCell_44 (by decide) ?_
      exact W.zret (v := 0) hx hb hr (by decide) (fun t ht hW => ⟨0, rfl, (if_neg (fun z => tz_ltn z.1.2 c_2)).symm, ht⟩) (fun _ h => absurd h List.not_mem_nil) dX6_hasCell_45
    · refine lv_iload_n hx hb dX6_hasCell_12 rfl (lv_at hl 2 rfl) ?_
      refine lv_if_lt (tgt := 44) hx hb dX6_hasCell_13 (by decide) (fun c_3 => ?_) (fun c_3 => ?_)
      · refine lv_iconst (v := 0) hx hb dX6_hasCell_44 (by decide) ?_
        exact W.zret (v := 0) hx hb hr (by decide) (fun t ht hW => ⟨0, rfl, (if_neg (fun z => tz_ltn c_3 z.2.1)).symm, ht⟩) (fun _ h => absurd h List.not_mem_nil) dX6_hasCell_45
      · refine lv_iload_n hx hb dX6_hasCell_16 rfl (lv_at hl 2 rfl) ?_
        refine lv_aload_n hx hb dX6_hasCell_17 rfl (lv_at hl 0 rfl) ?_
        refine va_get (D := (dC, dI)) (ci := 6) (v := .int 4) (C := RX6) (T := TX6) (N := 4) hx hb hts iw_r_hasCell_20_X6 hown hK hP 0 rfl rfl 0 (by decide) (hts (.fieldLink RX6 24 "ThriceCounted$Rows" "width" "I") (by decide +kernel)) (fun _ h9 => h9) rfl dX6_hasCell_18 ?_
        refine lv_icmp_ge (tgt := 44) hx hb dX6_hasCell_21 (by decide) (fun c_4 => ?_) (fun c_4 => ?_)
        · refine lv_iconst (v := 0) hx hb dX6_hasCell_44 (by decide) ?_
          exact W.zret (v := 0) hx hb hr (by decide) (fun t ht hW => ⟨0, rfl, (if_neg (fun z => tz_ltn z.2.2 c_4)).symm, ht⟩) (fun _ h => absurd h List.not_mem_nil) dX6_hasCell_45
        · obtain ⟨j1, hj1, e1⟩ := tz_below c_1 c_2 (by omega)
          obtain ⟨j2, hj2, e2⟩ := tz_below (n := 4) c_3 c_4 (by omega)
          refine lv_iload_n hx hb dX6_hasCell_24 rfl (lv_at hl 1 rfl) ?_
          refine lv_aload_n hx hb dX6_hasCell_25 rfl (lv_at hl 0 rfl) ?_
          refine va_get (D := (dC, dI)) (ci := 6) (v := .int 4) (C := RX6) (T := TX6) (N := 4) hx hb hts iw_r_hasCell_20_X6 hown hK hP 0 rfl rfl 0 (by decide) (hts (.fieldLink RX6 24 "ThriceCounted$Rows" "width" "I") (by decide +kernel)) (fun _ h9 => h9) rfl dX6_hasCell_26 ?_
          refine lv_imul hx hb dX6_hasCell_29 ?_
          refine lv_iload_n hx hb dX6_hasCell_30 rfl (lv_at hl 2 rfl) ?_
          refine lv_iadd hx hb dX6_hasCell_31 ?_
          refine lv_aload_n hx hb dX6_hasCell_32 rfl (lv_at hl 0 rfl) ?_
          refine va_get (D := (dC, dI)) (ci := 6) (v := .ref ca) (C := RX6) (T := TX6) (N := 4) hx hb hts iw_r_hasCell_20_X6 hown hK hP 0 rfl rfl 2 (by decide) (hts (.fieldLink RX6 27 "ThriceCounted$Rows" "cells" "[I") (by decide +kernel)) (fun _ h9 => h9) rfl dX6_hasCell_33 ?_
          refine va_alen (v := 20) hx hb hK hP 1 0 rfl rfl rfl dX6_hasCell_36 ?_
          refine lv_icmp_ge (tgt := 44) hx hb dX6_hasCell_37 (by decide) (fun c_5 => ?_) (fun c_5 => ?_)
          · exact absurd c_5 (by rw [e1, e2]; exact (by rw [show (4 : Int32) = nI 4 from rfl, pk_mul, nI_add]; exact nI_ge (b := 20) (by omega) (by decide)))
          · refine lv_iconst (v := 1) hx hb dX6_hasCell_40 (by decide) ?_
            refine lv_goto (tgt := 45) hx hb dX6_hasCell_41 (by decide) ?_
            exact W.zret (v := 1) hx hb hr (by decide) (fun t ht hW => ⟨1, rfl, (if_pos ⟨⟨tz_nlt c_1, tz_nle c_2⟩, tz_nlt c_3, tz_nle c_4⟩).symm, ht⟩) (fun _ h => absurd h List.not_mem_nil) dX6_hasCell_45
set_option maxRecDepth 20000 in
theorem iw_r_get_20_X6 : ∀ w ∈ wsX60, w ∈ wsX6_get := by decide +kernel
set_option maxHeartbeats 4000000 in
set_option maxRecDepth 100000 in
theorem r_get_20 (l : Launch) (dC : Nat → ClassId) (dI : Nat → Nat → Nat) (ro : Nat) (ca : Nat) (nz : Nat) (cc0 : ClassId) (ff : Nat → Int32) (na : Int32) (nb : Int32) (hz : nz ≤ 5) : Met l yX6_get wsX6_get ({ frames := 1, cells := 0, slots := 0, locals := 22 }) (va_Pc [.ref ro, .int na, .int nb] (fun U => va_P (dC, dI) vwCl [(ro, .inr (6, [.int 4, .int 5, .ref ca, .int (nI nz)])), (ca, .inl (cc0, 20, .inl ff))] U.heap ∧ va_K (dC, dI) vwCl [(cc0, .int)] U)) (vp_Si (fun r => True)) 0 0 (fun _ => False) := by
  refine Met.ofW (cc := cX6_get) (maxL := 3) (ret := (some .int)) (by decide) rfl ?_
  intro p e s m args below meth c s₁ B hml hv
  obtain ⟨rfl, hP, hK⟩ := hv
  have hx := B.exec
  have hb := B.bytes
  have hr := B.returns
  have hts := atoms_spec (ws := wsX6_get) B.pre
  have hown : s.vm.findClass RX6 = some m.cls := findClass_of_methodNamed B.named
  have hlocks := B.notSynchronized
  have hl := lv_entry ([.ref ro, .int na, .int nb]) (n := 3) (Nat.le_of_ble_eq_true rfl)
  rw [lg_entry_eq]
  generalize (lg_sl ([.ref ro, .int na, .int nb]) ++ List.replicate (3 - (lg_sl ([.ref ro, .int na, .int nb])).length) Slot.unset).toArray = ls at hl ⊢
  have hl : lv_has ls 3 [(0, .ref ro), (1, .int na), (2, .int nb)] := hl
  refine lv_aload_n hx hb dX6_get_0 rfl (lv_at hl 0 rfl) ?_
  refine lv_iload_n hx hb dX6_get_1 rfl (lv_at hl 1 rfl) ?_
  refine lv_iload_n hx hb dX6_get_2 rfl (lv_at hl 2 rfl) ?_
  have hPc_1 := hP.sub (ws' := [(ro, .inr (6, [.int 4, .int 5, .ref ca, .int (nI nz)])), (ca, .inl (cc0, 20, .inl ff))]) [0, 1] rfl
  have hKc_2 := hK.sub (tys' := [(cc0, .int)]) [0] rfl
  refine vp_callSi (va_Run.run (va_runV (As := [.int na, .int nb]) (rest := []) ⟨hx, hb, hml, hown, hts⟩ (r_hasCell_20 l dC dI ro ca nz cc0 ff na nb hz) (cwV 2 hts gX6_get_X6_hasCell rfl rfl rfl (by decide +kernel) ⟨Nat.le_of_ble_eq_true rfl, Nat.le_of_ble_eq_true rfl⟩) ⟨fun a U g mk q => by obtain ⟨q0, qP, qK⟩ := q; exact ⟨q0, qP, va_K.moved (u := U) (U := U.calling g mk a) (Vm.Alike.refl U.vm) qK⟩, va_recv hK hP (ci := 6) (q0 := 0) rfl rfl, fun U hU hW => ⟨rfl, by rw [hU]; exact hPc_1, va_K.moved hW.alike hKc_2⟩⟩ rfl rfl hl.1 rfl (lv_room (Nat.le_of_ble_eq_true rfl)) dX6_get_3 ⟨Nat.le_of_ble_eq_true rfl, Nat.le_of_ble_eq_true rfl⟩)) (fun r_3 hw_4 => ?_)
  by_cases hc_5 : (0 ≤ na ∧ na < nI nz) ∧ (0 ≤ nb ∧ nb < 4)
  · obtain rfl : 1 = r_3 := (hw_4.trans (if_pos hc_5)).symm
    obtain ⟨j1, hj1, e1⟩ := tz_belowI hc_5.1 (by omega)
    obtain ⟨j2, hj2, e2⟩ := tz_belowI (n := 4) hc_5.2 (by omega)
    refine lv_if_eq (tgt := 25) hx hb dX6_get_6 (by decide) (fun c_6 => ?_) (fun c_6 => ?_)
    · exact absurd c_6 (by decide)
    · refine lv_aload_n hx hb dX6_get_9 rfl (lv_at hl 0 rfl) ?_
      refine va_get (D := (dC, dI)) (ci := 6) (v := .ref ca) (C := RX6) (T := TX6) (N := 4) hx hb hts iw_r_get_20_X6 hown hK hP 0 rfl rfl 2 (by decide) (hts (.fieldLink RX6 27 "ThriceCounted$Rows" "cells" "[I") (by decide +kernel)) (fun _ h9 => h9) rfl dX6_get_10 ?_
      refine lv_iload_n hx hb dX6_get_13 rfl (lv_at hl 1 rfl) ?_
      refine lv_aload_n hx hb dX6_get_14 rfl (lv_at hl 0 rfl) ?_
      refine va_get (D := (dC, dI)) (ci := 6) (v := .int 4) (C := RX6) (T := TX6) (N := 4) hx hb hts iw_r_get_20_X6 hown hK hP 0 rfl rfl 0 (by decide) (hts (.fieldLink RX6 24 "ThriceCounted$Rows" "width" "I") (by decide +kernel)) (fun _ h9 => h9) rfl dX6_get_15 ?_
      refine lv_imul hx hb dX6_get_18 ?_
      refine lv_iload_n hx hb dX6_get_19 rfl (lv_at hl 2 rfl) ?_
      refine lv_iadd hx hb dX6_get_20 ?_
      refine va_iald hx hb hK hP 1 0 rfl rfl (by rw [e1, e2, show (4 : Int32) = nI 4 from rfl, pk_mul, nI_add]; exact vp_in_nI (by omega) (by decide)) dX6_get_21 ?_
      refine lv_topi (fun x_7 _ => ?_)
      refine lv_goto (tgt := 26) hx hb dX6_get_22 (by decide) ?_
      exact W.iret (v := x_7) hx hb hr (fun t ht hW => ⟨x_7, rfl, trivial, ht⟩) (fun _ h => absurd h List.not_mem_nil) dX6_get_26
  · obtain rfl : 0 = r_3 := (hw_4.trans (if_neg hc_5)).symm
    refine lv_if_eq (tgt := 25) hx hb dX6_get_6 (by decide) (fun c_8 => ?_) (fun c_8 => ?_)
    · refine lv_iconst (v := (-1)) hx hb dX6_get_25 (by decide) ?_
      exact W.iret (v := (-1)) hx hb hr (fun t ht hW => ⟨(-1), rfl, trivial, ht⟩) (fun _ h => absurd h List.not_mem_nil) dX6_get_26
    · exact absurd c_8 (by decide)
set_option maxRecDepth 20000 in
theorem iw_r_put_20_X6 : ∀ w ∈ wsX60, w ∈ wsX6_put := by decide +kernel
set_option maxHeartbeats 4000000 in
set_option maxRecDepth 100000 in
theorem r_put_20 (l : Launch) (dC : Nat → ClassId) (dI : Nat → Nat → Nat) (ro : Nat) (ca : Nat) (nz : Nat) (cc0 : ClassId) (ff : Nat → Int32) (na : Int32) (nb : Int32) (nv : Int32) (sz : Nat) (hz : nz ≤ 5) : Met l yX6_put wsX6_put ({ frames := 1, cells := 0, slots := 0, locals := 22 }) (va_Pc [.ref ro, .int na, .int nb, .int nv] (fun U => U.heap.size = sz ∧ va_P (dC, dI) vwCl [(ro, .inr (6, [.int 4, .int 5, .ref ca, .int (nI nz)])), (ca, .inl (cc0, 20, .inl ff))] U.heap ∧ va_K (dC, dI) vwCl [(cc0, .int)] U ∧ va_D (fun _ => True) [(ro, .inr (6, [.int 4, .int 5, .ref ca, .int (nI nz)])), (ca, .inl (cc0, 20, .inl ff))])) (va_Qv (fun (_ : Unit) => True) (fun _ t => ∃ (fg : Nat → Int32), va_P (dC, dI) vwCl [(ro, .inr (6, [.int 4, .int 5, .ref ca, .int (nI nz)])), (ca, .inl (cc0, 20, .inl fg))] t.heap ∧ va_K (dC, dI) vwCl [(cc0, .int)] t ∧ va_D (va_A [(ro, .inr (6, [.int 4, .int 5, .ref ca, .int (nI nz)])), (ca, .inl (cc0, 20, .inl ff))] sz) [(ro, .inr (6, [.int 4, .int 5, .ref ca, .int (nI nz)])), (ca, .inl (cc0, 20, .inl fg))]) (va_A [(ro, .inr (6, [.int 4, .int 5, .ref ca, .int (nI nz)])), (ca, .inl (cc0, 20, .inl ff))] sz)) 0 0 (va_A [(ro, .inr (6, [.int 4, .int 5, .ref ca, .int (nI nz)])), (ca, .inl (cc0, 20, .inl ff))] sz) := by
  refine Met.ofW (cc := cX6_put) (maxL := 4) (ret := none) (by decide) rfl ?_
  intro p e s m args below meth c s₁ B hml hv
  obtain ⟨rfl, hsz, hP, hK, hD0⟩ := hv
  have hx := B.exec
  have hb := B.bytes
  have hr := B.returns
  have hts := atoms_spec (ws := wsX6_put) B.pre
  have hown : s.vm.findClass RX6 = some m.cls := findClass_of_methodNamed B.named
  have hlocks := B.notSynchronized
  subst hsz
  have hD := hD0.self (sz := s.heap.size)
  generalize hAe : va_A [(ro, .inr (6, [.int 4, .int 5, .ref ca, .int (nI nz)])), (ca, .inl (cc0, 20, .inl ff))] s.heap.size = A at hD ⊢
  have hA : ∀ q : Nat, s.heap.size ≤ q → A q := fun q h => by rw [← hAe]; exact Or.inr h
  have hS : va_S A s.heap s.heap [] := va_S.rf
  have hP : va_P (dC, dI) vwCl [(ro, .inr (6, [.int 4, .int 5, .ref ca, .int (nI nz)])), (ca, .inl (cc0, 20, .inl ff))] s.heap := hP
  have hl := lv_entry ([.ref ro, .int na, .int nb, .int nv]) (n := 4) (Nat.le_of_ble_eq_true rfl)
  rw [lg_entry_eq]
  generalize (lg_sl ([.ref ro, .int na, .int nb, .int nv]) ++ List.replicate (4 - (lg_sl ([.ref ro, .int na, .int nb, .int nv])).length) Slot.unset).toArray = ls at hl ⊢
  have hl : lv_has ls 4 [(0, .ref ro), (1, .int na), (2, .int nb), (3, .int nv)] := hl
  refine lv_aload_n hx hb dX6_put_0 rfl (lv_at hl 0 rfl) ?_
  refine lv_iload_n hx hb dX6_put_1 rfl (lv_at hl 1 rfl) ?_
  refine lv_iload_n hx hb dX6_put_2 rfl (lv_at hl 2 rfl) ?_
  have hPc_1 := hP.sub (ws' := [(ro, .inr (6, [.int 4, .int 5, .ref ca, .int (nI nz)])), (ca, .inl (cc0, 20, .inl ff))]) [0, 1] rfl
  have hKc_2 := hK.sub (tys' := [(cc0, .int)]) [0] rfl
  refine vp_callSi (va_Run.run (va_runV (As := [.int na, .int nb]) (rest := []) ⟨hx, hb, hml, hown, hts⟩ (r_hasCell_20 l dC dI ro ca nz cc0 ff na nb hz) (cwV 2 hts gX6_put_X6_hasCell rfl rfl rfl (by decide +kernel) ⟨Nat.le_of_ble_eq_true rfl, Nat.le_of_ble_eq_true rfl⟩) ⟨fun a U g mk q => by obtain ⟨q0, qP, qK⟩ := q; exact ⟨q0, qP, va_K.moved (u := U) (U := U.calling g mk a) (Vm.Alike.refl U.vm) qK⟩, va_recv hK hP (ci := 6) (q0 := 0) rfl rfl, fun U hU hW => ⟨rfl, by rw [hU]; exact hPc_1, va_K.moved hW.alike hKc_2⟩⟩ rfl rfl hl.1 rfl (lv_room (Nat.le_of_ble_eq_true rfl)) dX6_put_3 ⟨Nat.le_of_ble_eq_true rfl, Nat.le_of_ble_eq_true rfl⟩)) (fun r_3 hw_4 => ?_)
  by_cases hc_5 : (0 ≤ na ∧ na < nI nz) ∧ (0 ≤ nb ∧ nb < 4)
  · obtain rfl : 1 = r_3 := (hw_4.trans (if_pos hc_5)).symm
    obtain ⟨j1, hj1, e1⟩ := tz_belowI hc_5.1 (by omega)
    obtain ⟨j2, hj2, e2⟩ := tz_belowI (n := 4) hc_5.2 (by omega)
    refine lv_if_eq (tgt := 23) hx hb dX6_put_6 (by decide) (fun c_6 => ?_) (fun c_6 => ?_)
    · exact absurd c_6 (by decide)
    · refine lv_aload_n hx hb dX6_put_9 rfl (lv_at hl 0 rfl) ?_
      refine va_get (D := (dC, dI)) (ci := 6) (v := .ref ca) (C := RX6) (T := TX6) (N := 4) hx hb hts iw_r_put_20_X6 hown hK hP 0 rfl rfl 2 (by decide) (hts (.fieldLink RX6 27 "ThriceCounted$Rows" "cells" "[I") (by decide +kernel)) (fun _ h9 => h9) rfl dX6_put_10 ?_
      refine lv_iload_n hx hb dX6_put_13 rfl (lv_at hl 1 rfl) ?_
      refine lv_aload_n hx hb dX6_put_14 rfl (lv_at hl 0 rfl) ?_
      refine va_get (D := (dC, dI)) (ci := 6) (v := .int 4) (C := RX6) (T := TX6) (N := 4) hx hb hts iw_r_put_20_X6 hown hK hP 0 rfl rfl 0 (by decide) (hts (.fieldLink RX6 24 "ThriceCounted$Rows" "width" "I") (by decide +kernel)) (fun _ h9 => h9) rfl dX6_put_15 ?_
      refine lv_imul hx hb dX6_put_18 ?_
      refine lv_iload_n hx hb dX6_put_19 rfl (lv_at hl 2 rfl) ?_
      refine lv_iadd hx hb dX6_put_20 ?_
      refine lv_iload_n hx hb dX6_put_21 rfl (lv_at hl 3 rfl) ?_
      refine va_iast hx hb hK hP hD hS 1 0 rfl rfl (by rw [e1, e2, show (4 : Int32) = nI 4 from rfl, pk_mul, nI_add]; exact vp_in_nI (by omega) (by decide)) dX6_put_22 (fun H locs hP hD hS => ?_)
      generalize (upd ff (Int32.toNatClampNeg ((na * 4) + nb)) nv) = f_7 at hP hD
      have hP : va_P (dC, dI) vwCl [(ro, .inr (6, [.int 4, .int 5, .ref ca, .int (nI nz)])), (ca, .inl (cc0, 20, .inl f_7))] H := hP
      have hD : va_D A [(ro, .inr (6, [.int 4, .int 5, .ref ca, .int (nI nz)])), (ca, .inl (cc0, 20, .inl f_7))] := hD
      have hP9 := hP.sub (ws' := [(ro, .inr (6, [.int 4, .int 5, .ref ca, .int (nI nz)])), (ca, .inl (cc0, 20, .inl f_7))]) [0, 1] rfl
      have hD9 := hD.sub (ws' := [(ro, .inr (6, [.int 4, .int 5, .ref ca, .int (nI nz)])), (ca, .inl (cc0, 20, .inl f_7))]) [0, 1] (by decide) rfl
      have hK9 := hK.sub (tys' := [(cc0, .int)]) [0] rfl
      exact W.vret hx hb hr (fun t ht hW => ⟨⟨(), rfl, trivial, f_7, by rw [ht]; exact hP9, va_K.moved hW.alike hK9, hD9⟩, hS.F ht⟩) hS.2.2 dX6_put_23
  · obtain rfl : 0 = r_3 := (hw_4.trans (if_neg hc_5)).symm
    refine lv_if_eq (tgt := 23) hx hb dX6_put_6 (by decide) (fun c_8 => ?_) (fun c_8 => ?_)
    · have hP9 := hP.sub (ws' := [(ro, .inr (6, [.int 4, .int 5, .ref ca, .int (nI nz)])), (ca, .inl (cc0, 20, .inl ff))]) [0, 1] rfl
      have hD9 := hD.sub (ws' := [(ro, .inr (6, [.int 4, .int 5, .ref ca, .int (nI nz)])), (ca, .inl (cc0, 20, .inl ff))]) [0, 1] (by decide) rfl
      have hK9 := hK.sub (tys' := [(cc0, .int)]) [0] rfl
      exact W.vret hx hb hr (fun t ht hW => ⟨⟨(), rfl, trivial, ff, by rw [ht]; exact hP9, va_K.moved hW.alike hK9, hD9⟩, hS.F ht⟩) hS.2.2 dX6_put_23
    · exact absurd c_8 (by decide)
set_option maxRecDepth 20000 in
theorem iw_r_empty_20_X6 : ∀ w ∈ wsX60, w ∈ wsX6_empty := by decide +kernel
set_option maxHeartbeats 4000000 in
set_option maxRecDepth 100000 in
theorem r_empty_20 (l : Launch) (dC : Nat → ClassId) (dI : Nat → Nat → Nat) (ro : Nat) (ca : Nat) (nz : Nat) (sz : Nat) : Met l yX6_empty wsX6_empty ({ frames := 0, cells := 0, slots := 0, locals := 0 }) (va_Pc [.ref ro] (fun U => U.heap.size = sz ∧ va_P (dC, dI) vwCl [(ro, .inr (6, [.int 4, .int 5, .ref ca, .int (nI nz)]))] U.heap ∧ va_K (dC, dI) vwCl [] U ∧ va_D (fun _ => True) [(ro, .inr (6, [.int 4, .int 5, .ref ca, .int (nI nz)]))])) (va_Qv (fun (_ : Unit) => True) (fun _ t => va_P (dC, dI) vwCl [(ro, .inr (6, [.int 4, .int 5, .ref ca, .int 0]))] t.heap ∧ va_K (dC, dI) vwCl [] t ∧ va_D (va_A [(ro, .inr (6, [.int 4, .int 5, .ref ca, .int (nI nz)]))] sz) [(ro, .inr (6, [.int 4, .int 5, .ref ca, .int 0]))]) (va_A [(ro, .inr (6, [.int 4, .int 5, .ref ca, .int (nI nz)]))] sz)) 0 0 (va_A [(ro, .inr (6, [.int 4, .int 5, .ref ca, .int (nI nz)]))] sz) := by
  refine Met.ofW (cc := cX6_empty) (maxL := 1) (ret := none) (by decide) rfl ?_
  intro p e s m args below meth c s₁ B hml hv
  obtain ⟨rfl, hsz, hP, hK, hD0⟩ := hv
  have hx := B.exec
  have hb := B.bytes
  have hr := B.returns
  have hts := atoms_spec (ws := wsX6_empty) B.pre
  have hown : s.vm.findClass RX6 = some m.cls := findClass_of_methodNamed B.named
  have hlocks := B.notSynchronized
  subst hsz
  have hD := hD0.self (sz := s.heap.size)
  generalize hAe : va_A [(ro, .inr (6, [.int 4, .int 5, .ref ca, .int (nI nz)]))] s.heap.size = A at hD ⊢
  have hA : ∀ q : Nat, s.heap.size ≤ q → A q := fun q h => by rw [← hAe]; exact Or.inr h
  have hS : va_S A s.heap s.heap [] := va_S.rf
  have hP : va_P (dC, dI) vwCl [(ro, .inr (6, [.int 4, .int 5, .ref ca, .int (nI nz)]))] s.heap := hP
  have hl := lv_entry ([.ref ro]) (n := 1) (Nat.le_of_ble_eq_true rfl)
  rw [lg_entry_eq]
  generalize (lg_sl ([.ref ro]) ++ List.replicate (1 - (lg_sl ([.ref ro])).length) Slot.unset).toArray = ls at hl ⊢
  have hl : lv_has ls 1 [(0, .ref ro)] := hl
  refine lv_aload_n hx hb dX6_empty_0 rfl (lv_at hl 0 rfl) ?_
  refine lv_iconst (v := 0) hx hb dX6_empty_1 (by decide) ?_
  refine va_put (D := (dC, dI)) (ci := 6) (v := .int 0) (ty := .int) (C := RX6) (T := TX6) (N := 4) hx hb hts iw_r_empty_20_X6 tyX6 tyX6_ok nmX6 hown hK hP hD hS 0 rfl rfl 3 (by decide) (hts (.fieldLink RX6 9 "ThriceCounted$Rows" "size" "I") (by decide +kernel)) (fun _ h9 => h9) rfl (by decide +kernel) rfl rfl (Nat.le_of_ble_eq_true rfl) dX6_empty_2 (fun H locs hP hD hS => ?_)
  have hP : va_P (dC, dI) vwCl [(ro, .inr (6, [.int 4, .int 5, .ref ca, .int 0]))] H := hP
  have hD : va_D A [(ro, .inr (6, [.int 4, .int 5, .ref ca, .int 0]))] := hD
  have hP9 := hP.sub (ws' := [(ro, .inr (6, [.int 4, .int 5, .ref ca, .int 0]))]) [0] rfl
  have hD9 := hD.sub (ws' := [(ro, .inr (6, [.int 4, .int 5, .ref ca, .int 0]))]) [0] (by decide) rfl
  have hK9 := hK.sub (tys' := []) [] rfl
  exact W.vret hx hb hr (fun t ht hW => ⟨⟨(), rfl, trivial, by rw [ht]; exact hP9, va_K.moved hW.alike hK9, hD9⟩, hS.F ht⟩) hS.2.2 dX6_empty_5
set_option maxRecDepth 20000 in
theorem iw_r_size_32_X6 : ∀ w ∈ wsX60, w ∈ wsX6_size := by decide +kernel
set_option maxHeartbeats 4000000 in
set_option maxRecDepth 100000 in
theorem r_size_32 (l : Launch) (dC : Nat → ClassId) (dI : Nat → Nat → Nat) (ro : Nat) (ca : Nat) (nz : Nat) : Met l yX6_size wsX6_size ({ frames := 0, cells := 0, slots := 0, locals := 0 }) (va_Pc [.ref ro] (fun U => va_P (dC, dI) vwCl [(ro, .inr (6, [.int 4, .int 8, .ref ca, .int (nI nz)]))] U.heap ∧ va_K (dC, dI) vwCl [] U)) (vp_Si (fun r => r = (nI nz))) 0 0 (fun _ => False) := by
  refine Met.ofW (cc := cX6_size) (maxL := 1) (ret := (some .int)) (by decide) rfl ?_
  intro p e s m args below meth c s₁ B hml hv
  obtain ⟨rfl, hP, hK⟩ := hv
  have hx := B.exec
  have hb := B.bytes
  have hr := B.returns
  have hts := atoms_spec (ws := wsX6_size) B.pre
  have hown : s.vm.findClass RX6 = some m.cls := findClass_of_methodNamed B.named
  have hlocks := B.notSynchronized
  have hl := lv_entry ([.ref ro]) (n := 1) (Nat.le_of_ble_eq_true rfl)
  rw [lg_entry_eq]
  generalize (lg_sl ([.ref ro]) ++ List.replicate (1 - (lg_sl ([.ref ro])).length) Slot.unset).toArray = ls at hl ⊢
  have hl : lv_has ls 1 [(0, .ref ro)] := hl
  refine lv_aload_n hx hb dX6_size_0 rfl (lv_at hl 0 rfl) ?_
  refine va_get (D := (dC, dI)) (ci := 6) (v := .int (nI nz)) (C := RX6) (T := TX6) (N := 4) hx hb hts iw_r_size_32_X6 hown hK hP 0 rfl rfl 3 (by decide) (hts (.fieldLink RX6 9 "ThriceCounted$Rows" "size" "I") (by decide +kernel)) (fun _ h9 => h9) rfl dX6_size_1 ?_
  exact W.iret (v := (nI nz)) hx hb hr (fun t ht hW => ⟨(nI nz), rfl, rfl, ht⟩) (fun _ h => absurd h List.not_mem_nil) dX6_size_4
set_option maxRecDepth 20000 in
theorem iw_r_isFull_32_X6 : ∀ w ∈ wsX60, w ∈ wsX6_isFull := by decide +kernel
set_option maxHeartbeats 4000000 in
set_option maxRecDepth 100000 in
theorem r_isFull_32 (l : Launch) (dC : Nat → ClassId) (dI : Nat → Nat → Nat) (ro : Nat) (ca : Nat) (nz : Nat) (hz : nz ≤ 8) : Met l yX6_isFull wsX6_isFull ({ frames := 0, cells := 0, slots := 0, locals := 0 }) (va_Pc [.ref ro] (fun U => va_P (dC, dI) vwCl [(ro, .inr (6, [.int 4, .int 8, .ref ca, .int (nI nz)]))] U.heap ∧ va_K (dC, dI) vwCl [] U)) (vp_Si (fun r => r = if 8 ≤ nz then 1 else 0)) 0 0 (fun _ => False) := by
  refine Met.ofW (cc := cX6_isFull) (maxL := 1) (ret := (some .boolean)) (by decide) rfl ?_
  intro p e s m args below meth c s₁ B hml hv
  obtain ⟨rfl, hP, hK⟩ := hv
  have hx := B.exec
  have hb := B.bytes
  have hr := B.returns
  have hts := atoms_spec (ws := wsX6_isFull) B.pre
  have hown : s.vm.findClass RX6 = some m.cls := findClass_of_methodNamed B.named
  have hlocks := B.notSynchronized
  have hl := lv_entry ([.ref ro]) (n := 1) (Nat.le_of_ble_eq_true rfl)
  rw [lg_entry_eq]
  generalize (lg_sl ([.ref ro]) ++ List.replicate (1 - (lg_sl ([.ref ro])).length) Slot.unset).toArray = ls at hl ⊢
  have hl : lv_has ls 1 [(0, .ref ro)] := hl
  refine lv_aload_n hx hb dX6_isFull_0 rfl (lv_at hl 0 rfl) ?_
  refine va_get (D := (dC, dI)) (ci := 6) (v := .int (nI nz)) (C := RX6) (T := TX6) (N := 4) hx hb hts iw_r_isFull_32_X6 hown hK hP 0 rfl rfl 3 (by decide) (hts (.fieldLink RX6 9 "ThriceCounted$Rows" "size" "I") (by decide +kernel)) (fun _ h9 => h9) rfl dX6_isFull_1 ?_
  refine lv_aload_n hx hb dX6_isFull_4 rfl (lv_at hl 0 rfl) ?_
  refine va_get (D := (dC, dI)) (ci := 6) (v := .int 8) (C := RX6) (T := TX6) (N := 4) hx hb hts iw_r_isFull_32_X6 hown hK hP 0 rfl rfl 1 (by decide) (hts (.fieldLink RX6 21 "ThriceCounted$Rows" "limit" "I") (by decide +kernel)) (fun _ h9 => h9) rfl dX6_isFull_5 ?_
  refine lv_icmp_lt (tgt := 15) hx hb dX6_isFull_8 (by decide) (fun c_1 => ?_) (fun c_1 => ?_)
  · have hn_2 : nz < 8 := (nI_ltI (a := nz) (b := 8) (by omega) (by omega)).mp c_1
    refine lv_iconst (v := 0) hx hb dX6_isFull_15 (by decide) ?_
    exact W.zret (v := 0) hx hb hr (by decide) (fun t ht hW => ⟨0, rfl, (if_neg (by omega)).symm, ht⟩) (fun _ h => absurd h List.not_mem_nil) dX6_isFull_16
  · have hn_3 : ¬ nz < 8 := fun q => c_1 ((nI_ltI (a := nz) (b := 8) (by omega) (by omega)).mpr q)
    refine lv_iconst (v := 1) hx hb dX6_isFull_11 (by decide) ?_
    refine lv_goto (tgt := 16) hx hb dX6_isFull_12 (by decide) ?_
    exact W.zret (v := 1) hx hb hr (by decide) (fun t ht hW => ⟨1, rfl, (if_pos (by omega)).symm, ht⟩) (fun _ h => absurd h List.not_mem_nil) dX6_isFull_16
set_option maxRecDepth 20000 in
theorem iw_r_has_32_X6 : ∀ w ∈ wsX60, w ∈ wsX6_has := by decide +kernel
set_option maxHeartbeats 4000000 in
set_option maxRecDepth 100000 in
theorem r_has_32 (l : Launch) (dC : Nat → ClassId) (dI : Nat → Nat → Nat) (ro : Nat) (ca : Nat) (nz : Nat) (na : Int32) : Met l yX6_has wsX6_has ({ frames := 0, cells := 0, slots := 0, locals := 0 }) (va_Pc [.ref ro, .int na] (fun U => va_P (dC, dI) vwCl [(ro, .inr (6, [.int 4, .int 8, .ref ca, .int (nI nz)]))] U.heap ∧ va_K (dC, dI) vwCl [] U)) (vp_Si (fun r => r = if 0 ≤ na ∧ na < nI nz then 1 else 0)) 0 0 (fun _ => False) := by
  refine Met.ofW (cc := cX6_has) (maxL := 2) (ret := (some .boolean)) (by decide) rfl ?_
  intro p e s m args below meth c s₁ B hml hv
  obtain ⟨rfl, hP, hK⟩ := hv
  have hx := B.exec
  have hb := B.bytes
  have hr := B.returns
  have hts := atoms_spec (ws := wsX6_has) B.pre
  have hown : s.vm.findClass RX6 = some m.cls := findClass_of_methodNamed B.named
  have hlocks := B.notSynchronized
  have hl := lv_entry ([.ref ro, .int na]) (n := 2) (Nat.le_of_ble_eq_true rfl)
  rw [lg_entry_eq]
  generalize (lg_sl ([.ref ro, .int na]) ++ List.replicate (2 - (lg_sl ([.ref ro, .int na])).length) Slot.unset).toArray = ls at hl ⊢
  have hl : lv_has ls 2 [(0, .ref ro), (1, .int na)] := hl
  refine lv_iload_n hx hb dX6_has_0 rfl (lv_at hl 1 rfl) ?_
  refine lv_if_lt (tgt := 16) hx hb dX6_has_1 (by decide) (fun c_1 => ?_) (fun c_1 => ?_)
  · refine lv_iconst (v := 0) hx hb dX6_has_16 (by decide) ?_
    exact W.zret (v := 0) hx hb hr (by decide) (fun t ht hW => ⟨0, rfl, (if_neg (fun z => tz_ltn c_1 z.1)).symm, ht⟩) (fun _ h => absurd h List.not_mem_nil) dX6_has_17
  · refine lv_iload_n hx hb dX6_has_4 rfl (lv_at hl 1 rfl) ?_
    refine lv_aload_n hx hb dX6_has_5 rfl (lv_at hl 0 rfl) ?_
    refine va_get (D := (dC, dI)) (ci := 6) (v := .int (nI nz)) (C := RX6) (T := TX6) (N := 4) hx hb hts iw_r_has_32_X6 hown hK hP 0 rfl rfl 3 (by decide) (hts (.fieldLink RX6 9 "ThriceCounted$Rows" "size" "I") (by decide +kernel)) (fun _ h9 => h9) rfl dX6_has_6 ?_
    refine lv_icmp_ge (tgt := 16) hx hb dX6_has_9 (by decide) (fun c_2 => ?_) (fun c_2 => ?_)
    · refine lv_iconst (v := 0) hx hb dX6_has_16 (by decide) ?_
      exact W.zret (v := 0) hx hb hr (by decide) (fun t ht hW => ⟨0, rfl, (if_neg (fun z => tz_ltn z.2 c_2)).symm, ht⟩) (fun _ h => absurd h List.not_mem_nil) dX6_has_17
    · refine lv_iconst (v := 1) hx hb dX6_has_12 (by decide) ?_
      refine lv_goto (tgt := 17) hx hb dX6_has_13 (by decide) ?_
      exact W.zret (v := 1) hx hb hr (by decide) (fun t ht hW => ⟨1, rfl, (if_pos ⟨tz_nlt c_1, tz_nle c_2⟩).symm, ht⟩) (fun _ h => absurd h List.not_mem_nil) dX6_has_17
set_option maxRecDepth 20000 in
theorem iw_r_hasCell_32_X6 : ∀ w ∈ wsX60, w ∈ wsX6_hasCell := by decide +kernel
set_option maxHeartbeats 4000000 in
set_option maxRecDepth 100000 in
theorem r_hasCell_32 (l : Launch) (dC : Nat → ClassId) (dI : Nat → Nat → Nat) (ro : Nat) (ca : Nat) (nz : Nat) (cc0 : ClassId) (ff : Nat → Int32) (na : Int32) (nb : Int32) (hz : nz ≤ 8) : Met l yX6_hasCell wsX6_hasCell ({ frames := 0, cells := 0, slots := 0, locals := 0 }) (va_Pc [.ref ro, .int na, .int nb] (fun U => va_P (dC, dI) vwCl [(ro, .inr (6, [.int 4, .int 8, .ref ca, .int (nI nz)])), (ca, .inl (cc0, 32, .inl ff))] U.heap ∧ va_K (dC, dI) vwCl [(cc0, .int)] U)) (vp_Si (fun r => r = if (0 ≤ na ∧ na < nI nz) ∧ (0 ≤ nb ∧ nb < 4) then 1 else 0)) 0 0 (fun _ => False) := by
  refine Met.ofW (cc := cX6_hasCell) (maxL := 3) (ret := (some .boolean)) (by decide) rfl ?_
  intro p e s m args below meth c s₁ B hml hv
  obtain ⟨rfl, hP, hK⟩ := hv
  have hx := B.exec
  have hb := B.bytes
  have hr := B.returns
  have hts := atoms_spec (ws := wsX6_hasCell) B.pre
  have hown : s.vm.findClass RX6 = some m.cls := findClass_of_methodNamed B.named
  have hlocks := B.notSynchronized
  have hl := lv_entry ([.ref ro, .int na, .int nb]) (n := 3) (Nat.le_of_ble_eq_true rfl)
  rw [lg_entry_eq]
  generalize (lg_sl ([.ref ro, .int na, .int nb]) ++ List.replicate (3 - (lg_sl ([.ref ro, .int na, .int nb])).length) Slot.unset).toArray = ls at hl ⊢
  have hl : lv_has ls 3 [(0, .ref ro), (1, .int na), (2, .int nb)] := hl
  refine lv_iload_n hx hb dX6_hasCell_0 rfl (lv_at hl 1 rfl) ?_
  refine lv_if_lt (tgt := 44) hx hb dX6_hasCell_1 (by decide) (fun c_1 => ?_) (fun c_1 => ?_)
  · refine lv_iconst (v := 0) hx hb dX6_hasCell_44 (by decide) ?_
    exact W.zret (v := 0) hx hb hr (by decide) (fun t ht hW => ⟨0, rfl, (if_neg (fun z => tz_ltn c_1 z.1.1)).symm, ht⟩) (fun _ h => absurd h List.not_mem_nil) dX6_hasCell_45
  · refine lv_iload_n hx hb dX6_hasCell_4 rfl (lv_at hl 1 rfl) ?_
    refine lv_aload_n hx hb dX6_hasCell_5 rfl (lv_at hl 0 rfl) ?_
    refine va_get (D := (dC, dI)) (ci := 6) (v := .int (nI nz)) (C := RX6) (T := TX6) (N := 4) hx hb hts iw_r_hasCell_32_X6 hown hK hP 0 rfl rfl 3 (by decide) (hts (.fieldLink RX6 9 "ThriceCounted$Rows" "size" "I") (by decide +kernel)) (fun _ h9 => h9) rfl dX6_hasCell_6 ?_
    refine lv_icmp_ge (tgt := 44) hx hb dX6_hasCell_9 (by decide) (fun c_2 => ?_) (fun c_2 => ?_)
    · refine lv_iconst (v := 0) hx hb dX6_hasCell_44 (by decide) ?_
      exact W.zret (v := 0) hx hb hr (by decide) (fun t ht hW => ⟨0, rfl, (if_neg (fun z => tz_ltn z.1.2 c_2)).symm, ht⟩) (fun _ h => absurd h List.not_mem_nil) dX6_hasCell_45
    · refine lv_iload_n hx hb dX6_hasCell_12 rfl (lv_at hl 2 rfl) ?_
      refine lv_if_lt (tgt := 44) hx hb dX6_hasCell_13 (by decide) (fun c_3 => ?_) (fun c_3 => ?_)
      · refine lv_iconst (v := 0) hx hb dX6_hasCell_44 (by decide) ?_
        exact W.zret (v := 0) hx hb hr (by decide) (fun t ht hW => ⟨0, rfl, (if_neg (fun z => tz_ltn c_3 z.2.1)).symm, ht⟩) (fun _ h => absurd h List.not_mem_nil) dX6_hasCell_45
      · refine lv_iload_n hx hb dX6_hasCell_16 rfl (lv_at hl 2 rfl) ?_
        refine lv_aload_n hx hb dX6_hasCell_17 rfl (lv_at hl 0 rfl) ?_
        refine va_get (D := (dC, dI)) (ci := 6) (v := .int 4) (C := RX6) (T := TX6) (N := 4) hx hb hts iw_r_hasCell_32_X6 hown hK hP 0 rfl rfl 0 (by decide) (hts (.fieldLink RX6 24 "ThriceCounted$Rows" "width" "I") (by decide +kernel)) (fun _ h9 => h9) rfl dX6_hasCell_18 ?_
        refine lv_icmp_ge (tgt := 44) hx hb dX6_hasCell_21 (by decide) (fun c_4 => ?_) (fun c_4 => ?_)
        · refine lv_iconst (v := 0) hx hb dX6_hasCell_44 (by decide) ?_
          exact W.zret (v := 0) hx hb hr (by decide) (fun t ht hW => ⟨0, rfl, (if_neg (fun z => tz_ltn z.2.2 c_4)).symm, ht⟩) (fun _ h => absurd h List.not_mem_nil) dX6_hasCell_45
        · obtain ⟨j1, hj1, e1⟩ := tz_below c_1 c_2 (by omega)
          obtain ⟨j2, hj2, e2⟩ := tz_below (n := 4) c_3 c_4 (by omega)
          refine lv_iload_n hx hb dX6_hasCell_24 rfl (lv_at hl 1 rfl) ?_
          refine lv_aload_n hx hb dX6_hasCell_25 rfl (lv_at hl 0 rfl) ?_
          refine va_get (D := (dC, dI)) (ci := 6) (v := .int 4) (C := RX6) (T := TX6) (N := 4) hx hb hts iw_r_hasCell_32_X6 hown hK hP 0 rfl rfl 0 (by decide) (hts (.fieldLink RX6 24 "ThriceCounted$Rows" "width" "I") (by decide +kernel)) (fun _ h9 => h9) rfl dX6_hasCell_26 ?_
          refine lv_imul hx hb dX6_hasCell_29 ?_
          refine lv_iload_n hx hb dX6_hasCell_30 rfl (lv_at hl 2 rfl) ?_
          refine lv_iadd hx hb dX6_hasCell_31 ?_
          refine lv_aload_n hx hb dX6_hasCell_32 rfl (lv_at hl 0 rfl) ?_
          refine va_get (D := (dC, dI)) (ci := 6) (v := .ref ca) (C := RX6) (T := TX6) (N := 4) hx hb hts iw_r_hasCell_32_X6 hown hK hP 0 rfl rfl 2 (by decide) (hts (.fieldLink RX6 27 "ThriceCounted$Rows" "cells" "[I") (by decide +kernel)) (fun _ h9 => h9) rfl dX6_hasCell_33 ?_
          refine va_alen (v := 32) hx hb hK hP 1 0 rfl rfl rfl dX6_hasCell_36 ?_
          refine lv_icmp_ge (tgt := 44) hx hb dX6_hasCell_37 (by decide) (fun c_5 => ?_) (fun c_5 => ?_)
          · exact absurd c_5 (by rw [e1, e2]; exact (by rw [show (4 : Int32) = nI 4 from rfl, pk_mul, nI_add]; exact nI_ge (b := 32) (by omega) (by decide)))
          · refine lv_iconst (v := 1) hx hb dX6_hasCell_40 (by decide) ?_
            refine lv_goto (tgt := 45) hx hb dX6_hasCell_41 (by decide) ?_
            exact W.zret (v := 1) hx hb hr (by decide) (fun t ht hW => ⟨1, rfl, (if_pos ⟨⟨tz_nlt c_1, tz_nle c_2⟩, tz_nlt c_3, tz_nle c_4⟩).symm, ht⟩) (fun _ h => absurd h List.not_mem_nil) dX6_hasCell_45
set_option maxRecDepth 20000 in
theorem iw_r_get_32_X6 : ∀ w ∈ wsX60, w ∈ wsX6_get := by decide +kernel
set_option maxHeartbeats 4000000 in
set_option maxRecDepth 100000 in
theorem r_get_32 (l : Launch) (dC : Nat → ClassId) (dI : Nat → Nat → Nat) (ro : Nat) (ca : Nat) (nz : Nat) (cc0 : ClassId) (ff : Nat → Int32) (na : Int32) (nb : Int32) (hz : nz ≤ 8) : Met l yX6_get wsX6_get ({ frames := 1, cells := 0, slots := 0, locals := 22 }) (va_Pc [.ref ro, .int na, .int nb] (fun U => va_P (dC, dI) vwCl [(ro, .inr (6, [.int 4, .int 8, .ref ca, .int (nI nz)])), (ca, .inl (cc0, 32, .inl ff))] U.heap ∧ va_K (dC, dI) vwCl [(cc0, .int)] U)) (vp_Si (fun r => True)) 0 0 (fun _ => False) := by
  refine Met.ofW (cc := cX6_get) (maxL := 3) (ret := (some .int)) (by decide) rfl ?_
  intro p e s m args below meth c s₁ B hml hv
  obtain ⟨rfl, hP, hK⟩ := hv
  have hx := B.exec
  have hb := B.bytes
  have hr := B.returns
  have hts := atoms_spec (ws := wsX6_get) B.pre
  have hown : s.vm.findClass RX6 = some m.cls := findClass_of_methodNamed B.named
  have hlocks := B.notSynchronized
  have hl := lv_entry ([.ref ro, .int na, .int nb]) (n := 3) (Nat.le_of_ble_eq_true rfl)
  rw [lg_entry_eq]
  generalize (lg_sl ([.ref ro, .int na, .int nb]) ++ List.replicate (3 - (lg_sl ([.ref ro, .int na, .int nb])).length) Slot.unset).toArray = ls at hl ⊢
  have hl : lv_has ls 3 [(0, .ref ro), (1, .int na), (2, .int nb)] := hl
  refine lv_aload_n hx hb dX6_get_0 rfl (lv_at hl 0 rfl) ?_
  refine lv_iload_n hx hb dX6_get_1 rfl (lv_at hl 1 rfl) ?_
  refine lv_iload_n hx hb dX6_get_2 rfl (lv_at hl 2 rfl) ?_
  have hPc_1 := hP.sub (ws' := [(ro, .inr (6, [.int 4, .int 8, .ref ca, .int (nI nz)])), (ca, .inl (cc0, 32, .inl ff))]) [0, 1] rfl
  have hKc_2 := hK.sub (tys' := [(cc0, .int)]) [0] rfl
  refine vp_callSi (va_Run.run (va_runV (As := [.int na, .int nb]) (rest := []) ⟨hx, hb, hml, hown, hts⟩ (r_hasCell_32 l dC dI ro ca nz cc0 ff na nb hz) (cwV 2 hts gX6_get_X6_hasCell rfl rfl rfl (by decide +kernel) ⟨Nat.le_of_ble_eq_true rfl, Nat.le_of_ble_eq_true rfl⟩) ⟨fun a U g mk q => by obtain ⟨q0, qP, qK⟩ := q; exact ⟨q0, qP, va_K.moved (u := U) (U := U.calling g mk a) (Vm.Alike.refl U.vm) qK⟩, va_recv hK hP (ci := 6) (q0 := 0) rfl rfl, fun U hU hW => ⟨rfl, by rw [hU]; exact hPc_1, va_K.moved hW.alike hKc_2⟩⟩ rfl rfl hl.1 rfl (lv_room (Nat.le_of_ble_eq_true rfl)) dX6_get_3 ⟨Nat.le_of_ble_eq_true rfl, Nat.le_of_ble_eq_true rfl⟩)) (fun r_3 hw_4 => ?_)
  by_cases hc_5 : (0 ≤ na ∧ na < nI nz) ∧ (0 ≤ nb ∧ nb < 4)
  · obtain rfl : 1 = r_3 := (hw_4.trans (if_pos hc_5)).symm
    obtain ⟨j1, hj1, e1⟩ := tz_belowI hc_5.1 (by omega)
    obtain ⟨j2, hj2, e2⟩ := tz_belowI (n := 4) hc_5.2 (by omega)
    refine lv_if_eq (tgt := 25) hx hb dX6_get_6 (by decide) (fun c_6 => ?_) (fun c_6 => ?_)
    · exact absurd c_6 (by decide)
    · refine lv_aload_n hx hb dX6_get_9 rfl (lv_at hl 0 rfl) ?_
      refine va_get (D := (dC, dI)) (ci := 6) (v := .ref ca) (C := RX6) (T := TX6) (N := 4) hx hb hts iw_r_get_32_X6 hown hK hP 0 rfl rfl 2 (by decide) (hts (.fieldLink RX6 27 "ThriceCounted$Rows" "cells" "[I") (by decide +kernel)) (fun _ h9 => h9) rfl dX6_get_10 ?_
      refine lv_iload_n hx hb dX6_get_13 rfl (lv_at hl 1 rfl) ?_
      refine lv_aload_n hx hb dX6_get_14 rfl (lv_at hl 0 rfl) ?_
      refine va_get (D := (dC, dI)) (ci := 6) (v := .int 4) (C := RX6) (T := TX6) (N := 4) hx hb hts iw_r_get_32_X6 hown hK hP 0 rfl rfl 0 (by decide) (hts (.fieldLink RX6 24 "ThriceCounted$Rows" "width" "I") (by decide +kernel)) (fun _ h9 => h9) rfl dX6_get_15 ?_
      refine lv_imul hx hb dX6_get_18 ?_
      refine lv_iload_n hx hb dX6_get_19 rfl (lv_at hl 2 rfl) ?_
      refine lv_iadd hx hb dX6_get_20 ?_
      refine va_iald hx hb hK hP 1 0 rfl rfl (by rw [e1, e2, show (4 : Int32) = nI 4 from rfl, pk_mul, nI_add]; exact vp_in_nI (by omega) (by decide)) dX6_get_21 ?_
      refine lv_topi (fun x_7 _ => ?_)
      refine lv_goto (tgt := 26) hx hb dX6_get_22 (by decide) ?_
      exact W.iret (v := x_7) hx hb hr (fun t ht hW => ⟨x_7, rfl, trivial, ht⟩) (fun _ h => absurd h List.not_mem_nil) dX6_get_26
  · obtain rfl : 0 = r_3 := (hw_4.trans (if_neg hc_5)).symm
    refine lv_if_eq (tgt := 25) hx hb dX6_get_6 (by decide) (fun c_8 => ?_) (fun c_8 => ?_)
    · refine lv_iconst (v := (-1)) hx hb dX6_get_25 (by decide) ?_
      exact W.iret (v := (-1)) hx hb hr (fun t ht hW => ⟨(-1), rfl, trivial, ht⟩) (fun _ h => absurd h List.not_mem_nil) dX6_get_26
    · exact absurd c_8 (by decide)
set_option maxRecDepth 20000 in
theorem iw_r_put_32_X6 : ∀ w ∈ wsX60, w ∈ wsX6_put := by decide +kernel
set_option maxHeartbeats 4000000 in
set_option maxRecDepth 100000 in
theorem r_put_32 (l : Launch) (dC : Nat → ClassId) (dI : Nat → Nat → Nat) (ro : Nat) (ca : Nat) (nz : Nat) (cc0 : ClassId) (ff : Nat → Int32) (na : Int32) (nb : Int32) (nv : Int32) (sz : Nat) (hz : nz ≤ 8) : Met l yX6_put wsX6_put ({ frames := 1, cells := 0, slots := 0, locals := 22 }) (va_Pc [.ref ro, .int na, .int nb, .int nv] (fun U => U.heap.size = sz ∧ va_P (dC, dI) vwCl [(ro, .inr (6, [.int 4, .int 8, .ref ca, .int (nI nz)])), (ca, .inl (cc0, 32, .inl ff))] U.heap ∧ va_K (dC, dI) vwCl [(cc0, .int)] U ∧ va_D (fun _ => True) [(ro, .inr (6, [.int 4, .int 8, .ref ca, .int (nI nz)])), (ca, .inl (cc0, 32, .inl ff))])) (va_Qv (fun (_ : Unit) => True) (fun _ t => ∃ (fg : Nat → Int32), va_P (dC, dI) vwCl [(ro, .inr (6, [.int 4, .int 8, .ref ca, .int (nI nz)])), (ca, .inl (cc0, 32, .inl fg))] t.heap ∧ va_K (dC, dI) vwCl [(cc0, .int)] t ∧ va_D (va_A [(ro, .inr (6, [.int 4, .int 8, .ref ca, .int (nI nz)])), (ca, .inl (cc0, 32, .inl ff))] sz) [(ro, .inr (6, [.int 4, .int 8, .ref ca, .int (nI nz)])), (ca, .inl (cc0, 32, .inl fg))]) (va_A [(ro, .inr (6, [.int 4, .int 8, .ref ca, .int (nI nz)])), (ca, .inl (cc0, 32, .inl ff))] sz)) 0 0 (va_A [(ro, .inr (6, [.int 4, .int 8, .ref ca, .int (nI nz)])), (ca, .inl (cc0, 32, .inl ff))] sz) := by
  refine Met.ofW (cc := cX6_put) (maxL := 4) (ret := none) (by decide) rfl ?_
  intro p e s m args below meth c s₁ B hml hv
  obtain ⟨rfl, hsz, hP, hK, hD0⟩ := hv
  have hx := B.exec
  have hb := B.bytes
  have hr := B.returns
  have hts := atoms_spec (ws := wsX6_put) B.pre
  have hown : s.vm.findClass RX6 = some m.cls := findClass_of_methodNamed B.named
  have hlocks := B.notSynchronized
  subst hsz
  have hD := hD0.self (sz := s.heap.size)
  generalize hAe : va_A [(ro, .inr (6, [.int 4, .int 8, .ref ca, .int (nI nz)])), (ca, .inl (cc0, 32, .inl ff))] s.heap.size = A at hD ⊢
  have hA : ∀ q : Nat, s.heap.size ≤ q → A q := fun q h => by rw [← hAe]; exact Or.inr h
  have hS : va_S A s.heap s.heap [] := va_S.rf
  have hP : va_P (dC, dI) vwCl [(ro, .inr (6, [.int 4, .int 8, .ref ca, .int (nI nz)])), (ca, .inl (cc0, 32, .inl ff))] s.heap := hP
  have hl := lv_entry ([.ref ro, .int na, .int nb, .int nv]) (n := 4) (Nat.le_of_ble_eq_true rfl)
  rw [lg_entry_eq]
  generalize (lg_sl ([.ref ro, .int na, .int nb, .int nv]) ++ List.replicate (4 - (lg_sl ([.ref ro, .int na, .int nb, .int nv])).length) Slot.unset).toArray = ls at hl ⊢
  have hl : lv_has ls 4 [(0, .ref ro), (1, .int na), (2, .int nb), (3, .int nv)] := hl
  refine lv_aload_n hx hb dX6_put_0 rfl (lv_at hl 0 rfl) ?_
  refine lv_iload_n hx hb dX6_put_1 rfl (lv_at hl 1 rfl) ?_
  refine lv_iload_n hx hb dX6_put_2 rfl (lv_at hl 2 rfl) ?_
  have hPc_1 := hP.sub (ws' := [(ro, .inr (6, [.int 4, .int 8, .ref ca, .int (nI nz)])), (ca, .inl (cc0, 32, .inl ff))]) [0, 1] rfl
  have hKc_2 := hK.sub (tys' := [(cc0, .int)]) [0] rfl
  refine vp_callSi (va_Run.run (va_runV (As := [.int na, .int nb]) (rest := []) ⟨hx, hb, hml, hown, hts⟩ (r_hasCell_32 l dC dI ro ca nz cc0 ff na nb hz) (cwV 2 hts gX6_put_X6_hasCell rfl rfl rfl (by decide +kernel) ⟨Nat.le_of_ble_eq_true rfl, Nat.le_of_ble_eq_true rfl⟩) ⟨fun a U g mk q => by obtain ⟨q0, qP, qK⟩ := q; exact ⟨q0, qP, va_K.moved (u := U) (U := U.calling g mk a) (Vm.Alike.refl U.vm) qK⟩, va_recv hK hP (ci := 6) (q0 := 0) rfl rfl, fun U hU hW => ⟨rfl, by rw [hU]; exact hPc_1, va_K.moved hW.alike hKc_2⟩⟩ rfl rfl hl.1 rfl (lv_room (Nat.le_of_ble_eq_true rfl)) dX6_put_3 ⟨Nat.le_of_ble_eq_true rfl, Nat.le_of_ble_eq_true rfl⟩)) (fun r_3 hw_4 => ?_)
  by_cases hc_5 : (0 ≤ na ∧ na < nI nz) ∧ (0 ≤ nb ∧ nb < 4)
  · obtain rfl : 1 = r_3 := (hw_4.trans (if_pos hc_5)).symm
    obtain ⟨j1, hj1, e1⟩ := tz_belowI hc_5.1 (by omega)
    obtain ⟨j2, hj2, e2⟩ := tz_belowI (n := 4) hc_5.2 (by omega)
    refine lv_if_eq (tgt := 23) hx hb dX6_put_6 (by decide) (fun c_6 => ?_) (fun c_6 => ?_)
    · exact absurd c_6 (by decide)
    · refine lv_aload_n hx hb dX6_put_9 rfl (lv_at hl 0 rfl) ?_
      refine va_get (D := (dC, dI)) (ci := 6) (v := .ref ca) (C := RX6) (T := TX6) (N := 4) hx hb hts iw_r_put_32_X6 hown hK hP 0 rfl rfl 2 (by decide) (hts (.fieldLink RX6 27 "ThriceCounted$Rows" "cells" "[I") (by decide +kernel)) (fun _ h9 => h9) rfl dX6_put_10 ?_
      refine lv_iload_n hx hb dX6_put_13 rfl (lv_at hl 1 rfl) ?_
      refine lv_aload_n hx hb dX6_put_14 rfl (lv_at hl 0 rfl) ?_
      refine va_get (D := (dC, dI)) (ci := 6) (v := .int 4) (C := RX6) (T := TX6) (N := 4) hx hb hts iw_r_put_32_X6 hown hK hP 0 rfl rfl 0 (by decide) (hts (.fieldLink RX6 24 "ThriceCounted$Rows" "width" "I") (by decide +kernel)) (fun _ h9 => h9) rfl dX6_put_15 ?_
      refine lv_imul hx hb dX6_put_18 ?_
      refine lv_iload_n hx hb dX6_put_19 rfl (lv_at hl 2 rfl) ?_
      refine lv_iadd hx hb dX6_put_20 ?_
      refine lv_iload_n hx hb dX6_put_21 rfl (lv_at hl 3 rfl) ?_
      refine va_iast hx hb hK hP hD hS 1 0 rfl rfl (by rw [e1, e2, show (4 : Int32) = nI 4 from rfl, pk_mul, nI_add]; exact vp_in_nI (by omega) (by decide)) dX6_put_22 (fun H locs hP hD hS => ?_)
      generalize (upd ff (Int32.toNatClampNeg ((na * 4) + nb)) nv) = f_7 at hP hD
      have hP : va_P (dC, dI) vwCl [(ro, .inr (6, [.int 4, .int 8, .ref ca, .int (nI nz)])), (ca, .inl (cc0, 32, .inl f_7))] H := hP
      have hD : va_D A [(ro, .inr (6, [.int 4, .int 8, .ref ca, .int (nI nz)])), (ca, .inl (cc0, 32, .inl f_7))] := hD
      have hP9 := hP.sub (ws' := [(ro, .inr (6, [.int 4, .int 8, .ref ca, .int (nI nz)])), (ca, .inl (cc0, 32, .inl f_7))]) [0, 1] rfl
      have hD9 := hD.sub (ws' := [(ro, .inr (6, [.int 4, .int 8, .ref ca, .int (nI nz)])), (ca, .inl (cc0, 32, .inl f_7))]) [0, 1] (by decide) rfl
      have hK9 := hK.sub (tys' := [(cc0, .int)]) [0] rfl
      exact W.vret hx hb hr (fun t ht hW => ⟨⟨(), rfl, trivial, f_7, by rw [ht]; exact hP9, va_K.moved hW.alike hK9, hD9⟩, hS.F ht⟩) hS.2.2 dX6_put_23
  · obtain rfl : 0 = r_3 := (hw_4.trans (if_neg hc_5)).symm
    refine lv_if_eq (tgt := 23) hx hb dX6_put_6 (by decide) (fun c_8 => ?_) (fun c_8 => ?_)
    · have hP9 := hP.sub (ws' := [(ro, .inr (6, [.int 4, .int 8, .ref ca, .int (nI nz)])), (ca, .inl (cc0, 32, .inl ff))]) [0, 1] rfl
      have hD9 := hD.sub (ws' := [(ro, .inr (6, [.int 4, .int 8, .ref ca, .int (nI nz)])), (ca, .inl (cc0, 32, .inl ff))]) [0, 1] (by decide) rfl
      have hK9 := hK.sub (tys' := [(cc0, .int)]) [0] rfl
      exact W.vret hx hb hr (fun t ht hW => ⟨⟨(), rfl, trivial, ff, by rw [ht]; exact hP9, va_K.moved hW.alike hK9, hD9⟩, hS.F ht⟩) hS.2.2 dX6_put_23
    · exact absurd c_8 (by decide)
set_option maxRecDepth 20000 in
theorem iw_r_empty_32_X6 : ∀ w ∈ wsX60, w ∈ wsX6_empty := by decide +kernel
set_option maxHeartbeats 4000000 in
set_option maxRecDepth 100000 in
theorem r_empty_32 (l : Launch) (dC : Nat → ClassId) (dI : Nat → Nat → Nat) (ro : Nat) (ca : Nat) (nz : Nat) (sz : Nat) : Met l yX6_empty wsX6_empty ({ frames := 0, cells := 0, slots := 0, locals := 0 }) (va_Pc [.ref ro] (fun U => U.heap.size = sz ∧ va_P (dC, dI) vwCl [(ro, .inr (6, [.int 4, .int 8, .ref ca, .int (nI nz)]))] U.heap ∧ va_K (dC, dI) vwCl [] U ∧ va_D (fun _ => True) [(ro, .inr (6, [.int 4, .int 8, .ref ca, .int (nI nz)]))])) (va_Qv (fun (_ : Unit) => True) (fun _ t => va_P (dC, dI) vwCl [(ro, .inr (6, [.int 4, .int 8, .ref ca, .int 0]))] t.heap ∧ va_K (dC, dI) vwCl [] t ∧ va_D (va_A [(ro, .inr (6, [.int 4, .int 8, .ref ca, .int (nI nz)]))] sz) [(ro, .inr (6, [.int 4, .int 8, .ref ca, .int 0]))]) (va_A [(ro, .inr (6, [.int 4, .int 8, .ref ca, .int (nI nz)]))] sz)) 0 0 (va_A [(ro, .inr (6, [.int 4, .int 8, .ref ca, .int (nI nz)]))] sz) := by
  refine Met.ofW (cc := cX6_empty) (maxL := 1) (ret := none) (by decide) rfl ?_
  intro p e s m args below meth c s₁ B hml hv
  obtain ⟨rfl, hsz, hP, hK, hD0⟩ := hv
  have hx := B.exec
  have hb := B.bytes
  have hr := B.returns
  have hts := atoms_spec (ws := wsX6_empty) B.pre
  have hown : s.vm.findClass RX6 = some m.cls := findClass_of_methodNamed B.named
  have hlocks := B.notSynchronized
  subst hsz
  have hD := hD0.self (sz := s.heap.size)
  generalize hAe : va_A [(ro, .inr (6, [.int 4, .int 8, .ref ca, .int (nI nz)]))] s.heap.size = A at hD ⊢
  have hA : ∀ q : Nat, s.heap.size ≤ q → A q := fun q h => by rw [← hAe]; exact Or.inr h
  have hS : va_S A s.heap s.heap [] := va_S.rf
  have hP : va_P (dC, dI) vwCl [(ro, .inr (6, [.int 4, .int 8, .ref ca, .int (nI nz)]))] s.heap := hP
  have hl := lv_entry ([.ref ro]) (n := 1) (Nat.le_of_ble_eq_true rfl)
  rw [lg_entry_eq]
  generalize (lg_sl ([.ref ro]) ++ List.replicate (1 - (lg_sl ([.ref ro])).length) Slot.unset).toArray = ls at hl ⊢
  have hl : lv_has ls 1 [(0, .ref ro)] := hl
  refine lv_aload_n hx hb dX6_empty_0 rfl (lv_at hl 0 rfl) ?_
  refine lv_iconst (v := 0) hx hb dX6_empty_1 (by decide) ?_
  refine va_put (D := (dC, dI)) (ci := 6) (v := .int 0) (ty := .int) (C := RX6) (T := TX6) (N := 4) hx hb hts iw_r_empty_32_X6 tyX6 tyX6_ok nmX6 hown hK hP hD hS 0 rfl rfl 3 (by decide) (hts (.fieldLink RX6 9 "ThriceCounted$Rows" "size" "I") (by decide +kernel)) (fun _ h9 => h9) rfl (by decide +kernel) rfl rfl (Nat.le_of_ble_eq_true rfl) dX6_empty_2 (fun H locs hP hD hS => ?_)
  have hP : va_P (dC, dI) vwCl [(ro, .inr (6, [.int 4, .int 8, .ref ca, .int 0]))] H := hP
  have hD : va_D A [(ro, .inr (6, [.int 4, .int 8, .ref ca, .int 0]))] := hD
  have hP9 := hP.sub (ws' := [(ro, .inr (6, [.int 4, .int 8, .ref ca, .int 0]))]) [0] rfl
  have hD9 := hD.sub (ws' := [(ro, .inr (6, [.int 4, .int 8, .ref ca, .int 0]))]) [0] (by decide) rfl
  have hK9 := hK.sub (tys' := []) [] rfl
  exact W.vret hx hb hr (fun t ht hW => ⟨⟨(), rfl, trivial, by rw [ht]; exact hP9, va_K.moved hW.alike hK9, hD9⟩, hS.F ht⟩) hS.2.2 dX6_empty_5
set_option maxRecDepth 20000 in
theorem iw_r_size_24_X6 : ∀ w ∈ wsX60, w ∈ wsX6_size := by decide +kernel
set_option maxHeartbeats 4000000 in
set_option maxRecDepth 100000 in
theorem r_size_24 (l : Launch) (dC : Nat → ClassId) (dI : Nat → Nat → Nat) (ro : Nat) (ca : Nat) (nz : Nat) : Met l yX6_size wsX6_size ({ frames := 0, cells := 0, slots := 0, locals := 0 }) (va_Pc [.ref ro] (fun U => va_P (dC, dI) vwCl [(ro, .inr (6, [.int 4, .int 6, .ref ca, .int (nI nz)]))] U.heap ∧ va_K (dC, dI) vwCl [] U)) (vp_Si (fun r => r = (nI nz))) 0 0 (fun _ => False) := by
  refine Met.ofW (cc := cX6_size) (maxL := 1) (ret := (some .int)) (by decide) rfl ?_
  intro p e s m args below meth c s₁ B hml hv
  obtain ⟨rfl, hP, hK⟩ := hv
  have hx := B.exec
  have hb := B.bytes
  have hr := B.returns
  have hts := atoms_spec (ws := wsX6_size) B.pre
  have hown : s.vm.findClass RX6 = some m.cls := findClass_of_methodNamed B.named
  have hlocks := B.notSynchronized
  have hl := lv_entry ([.ref ro]) (n := 1) (Nat.le_of_ble_eq_true rfl)
  rw [lg_entry_eq]
  generalize (lg_sl ([.ref ro]) ++ List.replicate (1 - (lg_sl ([.ref ro])).length) Slot.unset).toArray = ls at hl ⊢
  have hl : lv_has ls 1 [(0, .ref ro)] := hl
  refine lv_aload_n hx hb dX6_size_0 rfl (lv_at hl 0 rfl) ?_
  refine va_get (D := (dC, dI)) (ci := 6) (v := .int (nI nz)) (C := RX6) (T := TX6) (N := 4) hx hb hts iw_r_size_24_X6 hown hK hP 0 rfl rfl 3 (by decide) (hts (.fieldLink RX6 9 "ThriceCounted$Rows" "size" "I") (by decide +kernel)) (fun _ h9 => h9) rfl dX6_size_1 ?_
  exact W.iret (v := (nI nz)) hx hb hr (fun t ht hW => ⟨(nI nz), rfl, rfl, ht⟩) (fun _ h => absurd h List.not_mem_nil) dX6_size_4
set_option maxRecDepth 20000 in
theorem iw_r_isFull_24_X6 : ∀ w ∈ wsX60, w ∈ wsX6_isFull := by decide +kernel
set_option maxHeartbeats 4000000 in
set_option maxRecDepth 100000 in
theorem r_isFull_24 (l : Launch) (dC : Nat → ClassId) (dI : Nat → Nat → Nat) (ro : Nat) (ca : Nat) (nz : Nat) (hz : nz ≤ 6) : Met l yX6_isFull wsX6_isFull ({ frames := 0, cells := 0, slots := 0, locals := 0 }) (va_Pc [.ref ro] (fun U => va_P (dC, dI) vwCl [(ro, .inr (6, [.int 4, .int 6, .ref ca, .int (nI nz)]))] U.heap ∧ va_K (dC, dI) vwCl [] U)) (vp_Si (fun r => r = if 6 ≤ nz then 1 else 0)) 0 0 (fun _ => False) := by
  refine Met.ofW (cc := cX6_isFull) (maxL := 1) (ret := (some .boolean)) (by decide) rfl ?_
  intro p e s m args below meth c s₁ B hml hv
  obtain ⟨rfl, hP, hK⟩ := hv
  have hx := B.exec
  have hb := B.bytes
  have hr := B.returns
  have hts := atoms_spec (ws := wsX6_isFull) B.pre
  have hown : s.vm.findClass RX6 = some m.cls := findClass_of_methodNamed B.named
  have hlocks := B.notSynchronized
  have hl := lv_entry ([.ref ro]) (n := 1) (Nat.le_of_ble_eq_true rfl)
  rw [lg_entry_eq]
  generalize (lg_sl ([.ref ro]) ++ List.replicate (1 - (lg_sl ([.ref ro])).length) Slot.unset).toArray = ls at hl ⊢
  have hl : lv_has ls 1 [(0, .ref ro)] := hl
  refine lv_aload_n hx hb dX6_isFull_0 rfl (lv_at hl 0 rfl) ?_
  refine va_get (D := (dC, dI)) (ci := 6) (v := .int (nI nz)) (C := RX6) (T := TX6) (N := 4) hx hb hts iw_r_isFull_24_X6 hown hK hP 0 rfl rfl 3 (by decide) (hts (.fieldLink RX6 9 "ThriceCounted$Rows" "size" "I") (by decide +kernel)) (fun _ h9 => h9) rfl dX6_isFull_1 ?_
  refine lv_aload_n hx hb dX6_isFull_4 rfl (lv_at hl 0 rfl) ?_
  refine va_get (D := (dC, dI)) (ci := 6) (v := .int 6) (C := RX6) (T := TX6) (N := 4) hx hb hts iw_r_isFull_24_X6 hown hK hP 0 rfl rfl 1 (by decide) (hts (.fieldLink RX6 21 "ThriceCounted$Rows" "limit" "I") (by decide +kernel)) (fun _ h9 => h9) rfl dX6_isFull_5 ?_
  refine lv_icmp_lt (tgt := 15) hx hb dX6_isFull_8 (by decide) (fun c_1 => ?_) (fun c_1 => ?_)
  · have hn_2 : nz < 6 := (nI_ltI (a := nz) (b := 6) (by omega) (by omega)).mp c_1
    refine lv_iconst (v := 0) hx hb dX6_isFull_15 (by decide) ?_
    exact W.zret (v := 0) hx hb hr (by decide) (fun t ht hW => ⟨0, rfl, (if_neg (by omega)).symm, ht⟩) (fun _ h => absurd h List.not_mem_nil) dX6_isFull_16
  · have hn_3 : ¬ nz < 6 := fun q => c_1 ((nI_ltI (a := nz) (b := 6) (by omega) (by omega)).mpr q)
    refine lv_iconst (v := 1) hx hb dX6_isFull_11 (by decide) ?_
    refine lv_goto (tgt := 16) hx hb dX6_isFull_12 (by decide) ?_
    exact W.zret (v := 1) hx hb hr (by decide) (fun t ht hW => ⟨1, rfl, (if_pos (by omega)).symm, ht⟩) (fun _ h => absurd h List.not_mem_nil) dX6_isFull_16
set_option maxRecDepth 20000 in
theorem iw_r_has_24_X6 : ∀ w ∈ wsX60, w ∈ wsX6_has := by decide +kernel
set_option maxHeartbeats 4000000 in
set_option maxRecDepth 100000 in
theorem r_has_24 (l : Launch) (dC : Nat → ClassId) (dI : Nat → Nat → Nat) (ro : Nat) (ca : Nat) (nz : Nat) (na : Int32) : Met l yX6_has wsX6_has ({ frames := 0, cells := 0, slots := 0, locals := 0 }) (va_Pc [.ref ro, .int na] (fun U => va_P (dC, dI) vwCl [(ro, .inr (6, [.int 4, .int 6, .ref ca, .int (nI nz)]))] U.heap ∧ va_K (dC, dI) vwCl [] U)) (vp_Si (fun r => r = if 0 ≤ na ∧ na < nI nz then 1 else 0)) 0 0 (fun _ => False) := by
  refine Met.ofW (cc := cX6_has) (maxL := 2) (ret := (some .boolean)) (by decide) rfl ?_
  intro p e s m args below meth c s₁ B hml hv
  obtain ⟨rfl, hP, hK⟩ := hv
  have hx := B.exec
  have hb := B.bytes
  have hr := B.returns
  have hts := atoms_spec (ws := wsX6_has) B.pre
  have hown : s.vm.findClass RX6 = some m.cls := findClass_of_methodNamed B.named
  have hlocks := B.notSynchronized
  have hl := lv_entry ([.ref ro, .int na]) (n := 2) (Nat.le_of_ble_eq_true rfl)
  rw [lg_entry_eq]
  generalize (lg_sl ([.ref ro, .int na]) ++ List.replicate (2 - (lg_sl ([.ref ro, .int na])).length) Slot.unset).toArray = ls at hl ⊢
  have hl : lv_has ls 2 [(0, .ref ro), (1, .int na)] := hl
  refine lv_iload_n hx hb dX6_has_0 rfl (lv_at hl 1 rfl) ?_
  refine lv_if_lt (tgt := 16) hx hb dX6_has_1 (by decide) (fun c_1 => ?_) (fun c_1 => ?_)
  · refine lv_iconst (v := 0) hx hb dX6_has_16 (by decide) ?_
    exact W.zret (v := 0) hx hb hr (by decide) (fun t ht hW => ⟨0, rfl, (if_neg (fun z => tz_ltn c_1 z.1)).symm, ht⟩) (fun _ h => absurd h List.not_mem_nil) dX6_has_17
  · refine lv_iload_n hx hb dX6_has_4 rfl (lv_at hl 1 rfl) ?_
    refine lv_aload_n hx hb dX6_has_5 rfl (lv_at hl 0 rfl) ?_
    refine va_get (D := (dC, dI)) (ci := 6) (v := .int (nI nz)) (C := RX6) (T := TX6) (N := 4) hx hb hts iw_r_has_24_X6 hown hK hP 0 rfl rfl 3 (by decide) (hts (.fieldLink RX6 9 "ThriceCounted$Rows" "size" "I") (by decide +kernel)) (fun _ h9 => h9) rfl dX6_has_6 ?_
    refine lv_icmp_ge (tgt := 16) hx hb dX6_has_9 (by decide) (fun c_2 => ?_) (fun c_2 => ?_)
    · refine lv_iconst (v := 0) hx hb dX6_has_16 (by decide) ?_
      exact W.zret (v := 0) hx hb hr (by decide) (fun t ht hW => ⟨0, rfl, (if_neg (fun z => tz_ltn z.2 c_2)).symm, ht⟩) (fun _ h => absurd h List.not_mem_nil) dX6_has_17
    · refine lv_iconst (v := 1) hx hb dX6_has_12 (by decide) ?_
      refine lv_goto (tgt := 17) hx hb dX6_has_13 (by decide) ?_
      exact W.zret (v := 1) hx hb hr (by decide) (fun t ht hW => ⟨1, rfl, (if_pos ⟨tz_nlt c_1, tz_nle c_2⟩).symm, ht⟩) (fun _ h => absurd h List.not_mem_nil) dX6_has_17
set_option maxRecDepth 20000 in
theorem iw_r_hasCell_24_X6 : ∀ w ∈ wsX60, w ∈ wsX6_hasCell := by decide +kernel
set_option maxHeartbeats 4000000 in
set_option maxRecDepth 100000 in
theorem r_hasCell_24 (l : Launch) (dC : Nat → ClassId) (dI : Nat → Nat → Nat) (ro : Nat) (ca : Nat) (nz : Nat) (cc0 : ClassId) (ff : Nat → Int32) (na : Int32) (nb : Int32) (hz : nz ≤ 6) : Met l yX6_hasCell wsX6_hasCell ({ frames := 0, cells := 0, slots := 0, locals := 0 }) (va_Pc [.ref ro, .int na, .int nb] (fun U => va_P (dC, dI) vwCl [(ro, .inr (6, [.int 4, .int 6, .ref ca, .int (nI nz)])), (ca, .inl (cc0, 24, .inl ff))] U.heap ∧ va_K (dC, dI) vwCl [(cc0, .int)] U)) (vp_Si (fun r => r = if (0 ≤ na ∧ na < nI nz) ∧ (0 ≤ nb ∧ nb < 4) then 1 else 0)) 0 0 (fun _ => False) := by
  refine Met.ofW (cc := cX6_hasCell) (maxL := 3) (ret := (some .boolean)) (by decide) rfl ?_
  intro p e s m args below meth c s₁ B hml hv
  obtain ⟨rfl, hP, hK⟩ := hv
  have hx := B.exec
  have hb := B.bytes
  have hr := B.returns
  have hts := atoms_spec (ws := wsX6_hasCell) B.pre
  have hown : s.vm.findClass RX6 = some m.cls := findClass_of_methodNamed B.named
  have hlocks := B.notSynchronized
  have hl := lv_entry ([.ref ro, .int na, .int nb]) (n := 3) (Nat.le_of_ble_eq_true rfl)
  rw [lg_entry_eq]
  generalize (lg_sl ([.ref ro, .int na, .int nb]) ++ List.replicate (3 - (lg_sl ([.ref ro, .int na, .int nb])).length) Slot.unset).toArray = ls at hl ⊢
  have hl : lv_has ls 3 [(0, .ref ro), (1, .int na), (2, .int nb)] := hl
  refine lv_iload_n hx hb dX6_hasCell_0 rfl (lv_at hl 1 rfl) ?_
  refine lv_if_lt (tgt := 44) hx hb dX6_hasCell_1 (by decide) (fun c_1 => ?_) (fun c_1 => ?_)
  · refine lv_iconst (v := 0) hx hb dX6_hasCell_44 (by decide) ?_
    exact W.zret (v := 0) hx hb hr (by decide) (fun t ht hW => ⟨0, rfl, (if_neg (fun z => tz_ltn c_1 z.1.1)).symm, ht⟩) (fun _ h => absurd h List.not_mem_nil) dX6_hasCell_45
  · refine lv_iload_n hx hb dX6_hasCell_4 rfl (lv_at hl 1 rfl) ?_
    refine lv_aload_n hx hb dX6_hasCell_5 rfl (lv_at hl 0 rfl) ?_
    refine va_get (D := (dC, dI)) (ci := 6) (v := .int (nI nz)) (C := RX6) (T := TX6) (N := 4) hx hb hts iw_r_hasCell_24_X6 hown hK hP 0 rfl rfl 3 (by decide) (hts (.fieldLink RX6 9 "ThriceCounted$Rows" "size" "I") (by decide +kernel)) (fun _ h9 => h9) rfl dX6_hasCell_6 ?_
    refine lv_icmp_ge (tgt := 44) hx hb dX6_hasCell_9 (by decide) (fun c_2 => ?_) (fun c_2 => ?_)
    · refine lv_iconst (v := 0) hx hb dX6_hasCell_44 (by decide) ?_
      exact W.zret (v := 0) hx hb hr (by decide) (fun t ht hW => ⟨0, rfl, (if_neg (fun z => tz_ltn z.1.2 c_2)).symm, ht⟩) (fun _ h => absurd h List.not_mem_nil) dX6_hasCell_45
    · refine lv_iload_n hx hb dX6_hasCell_12 rfl (lv_at hl 2 rfl) ?_
      refine lv_if_lt (tgt := 44) hx hb dX6_hasCell_13 (by decide) (fun c_3 => ?_) (fun c_3 => ?_)
      · refine lv_iconst (v := 0) hx hb dX6_hasCell_44 (by decide) ?_
        exact W.zret (v := 0) hx hb hr (by decide) (fun t ht hW => ⟨0, rfl, (if_neg (fun z => tz_ltn c_3 z.2.1)).symm, ht⟩) (fun _ h => absurd h List.not_mem_nil) dX6_hasCell_45
      · refine lv_iload_n hx hb dX6_hasCell_16 rfl (lv_at hl 2 rfl) ?_
        refine lv_aload_n hx hb dX6_hasCell_17 rfl (lv_at hl 0 rfl) ?_
        refine va_get (D := (dC, dI)) (ci := 6) (v := .int 4) (C := RX6) (T := TX6) (N := 4) hx hb hts iw_r_hasCell_24_X6 hown hK hP 0 rfl rfl 0 (by decide) (hts (.fieldLink RX6 24 "ThriceCounted$Rows" "width" "I") (by decide +kernel)) (fun _ h9 => h9) rfl dX6_hasCell_18 ?_
        refine lv_icmp_ge (tgt := 44) hx hb dX6_hasCell_21 (by decide) (fun c_4 => ?_) (fun c_4 => ?_)
        · refine lv_iconst (v := 0) hx hb dX6_hasCell_44 (by decide) ?_
          exact W.zret (v := 0) hx hb hr (by decide) (fun t ht hW => ⟨0, rfl, (if_neg (fun z => tz_ltn z.2.2 c_4)).symm, ht⟩) (fun _ h => absurd h List.not_mem_nil) dX6_hasCell_45
        · obtain ⟨j1, hj1, e1⟩ := tz_below c_1 c_2 (by omega)
          obtain ⟨j2, hj2, e2⟩ := tz_below (n := 4) c_3 c_4 (by omega)
          refine lv_iload_n hx hb dX6_hasCell_24 rfl (lv_at hl 1 rfl) ?_
          refine lv_aload_n hx hb dX6_hasCell_25 rfl (lv_at hl 0 rfl) ?_
          refine va_get (D := (dC, dI)) (ci := 6) (v := .int 4) (C := RX6) (T := TX6) (N := 4) hx hb hts iw_r_hasCell_24_X6 hown hK hP 0 rfl rfl 0 (by decide) (hts (.fieldLink RX6 24 "ThriceCounted$Rows" "width" "I") (by decide +kernel)) (fun _ h9 => h9) rfl dX6_hasCell_26 ?_
          refine lv_imul hx hb dX6_hasCell_29 ?_
          refine lv_iload_n hx hb dX6_hasCell_30 rfl (lv_at hl 2 rfl) ?_
          refine lv_iadd hx hb dX6_hasCell_31 ?_
          refine lv_aload_n hx hb dX6_hasCell_32 rfl (lv_at hl 0 rfl) ?_
          refine va_get (D := (dC, dI)) (ci := 6) (v := .ref ca) (C := RX6) (T := TX6) (N := 4) hx hb hts iw_r_hasCell_24_X6 hown hK hP 0 rfl rfl 2 (by decide) (hts (.fieldLink RX6 27 "ThriceCounted$Rows" "cells" "[I") (by decide +kernel)) (fun _ h9 => h9) rfl dX6_hasCell_33 ?_
          refine va_alen (v := 24) hx hb hK hP 1 0 rfl rfl rfl dX6_hasCell_36 ?_
          refine lv_icmp_ge (tgt := 44) hx hb dX6_hasCell_37 (by decide) (fun c_5 => ?_) (fun c_5 => ?_)
          · exact absurd c_5 (by rw [e1, e2]; exact (by rw [show (4 : Int32) = nI 4 from rfl, pk_mul, nI_add]; exact nI_ge (b := 24) (by omega) (by decide)))
          · refine lv_iconst (v := 1) hx hb dX6_hasCell_40 (by decide) ?_
            refine lv_goto (tgt := 45) hx hb dX6_hasCell_41 (by decide) ?_
            exact W.zret (v := 1) hx hb hr (by decide) (fun t ht hW => ⟨1, rfl, (if_pos ⟨⟨tz_nlt c_1, tz_nle c_2⟩, tz_nlt c_3, tz_nle c_4⟩).symm, ht⟩) (fun _ h => absurd h List.not_mem_nil) dX6_hasCell_45
set_option maxRecDepth 20000 in
theorem iw_r_get_24_X6 : ∀ w ∈ wsX60, w ∈ wsX6_get := by decide +kernel
set_option maxHeartbeats 4000000 in
set_option maxRecDepth 100000 in
theorem r_get_24 (l : Launch) (dC : Nat → ClassId) (dI : Nat → Nat → Nat) (ro : Nat) (ca : Nat) (nz : Nat) (cc0 : ClassId) (ff : Nat → Int32) (na : Int32) (nb : Int32) (hz : nz ≤ 6) : Met l yX6_get wsX6_get ({ frames := 1, cells := 0, slots := 0, locals := 22 }) (va_Pc [.ref ro, .int na, .int nb] (fun U => va_P (dC, dI) vwCl [(ro, .inr (6, [.int 4, .int 6, .ref ca, .int (nI nz)])), (ca, .inl (cc0, 24, .inl ff))] U.heap ∧ va_K (dC, dI) vwCl [(cc0, .int)] U)) (vp_Si (fun r => True)) 0 0 (fun _ => False) := by
  refine Met.ofW (cc := cX6_get) (maxL := 3) (ret := (some .int)) (by decide) rfl ?_
  intro p e s m args below meth c s₁ B hml hv
  obtain ⟨rfl, hP, hK⟩ := hv
  have hx := B.exec
  have hb := B.bytes
  have hr := B.returns
  have hts := atoms_spec (ws := wsX6_get) B.pre
  have hown : s.vm.findClass RX6 = some m.cls := findClass_of_methodNamed B.named
  have hlocks := B.notSynchronized
  have hl := lv_entry ([.ref ro, .int na, .int nb]) (n := 3) (Nat.le_of_ble_eq_true rfl)
  rw [lg_entry_eq]
  generalize (lg_sl ([.ref ro, .int na, .int nb]) ++ List.replicate (3 - (lg_sl ([.ref ro, .int na, .int nb])).length) Slot.unset).toArray = ls at hl ⊢
  have hl : lv_has ls 3 [(0, .ref ro), (1, .int na), (2, .int nb)] := hl
  refine lv_aload_n hx hb dX6_get_0 rfl (lv_at hl 0 rfl) ?_
  refine lv_iload_n hx hb dX6_get_1 rfl (lv_at hl 1 rfl) ?_
  refine lv_iload_n hx hb dX6_get_2 rfl (lv_at hl 2 rfl) ?_
  have hPc_1 := hP.sub (ws' := [(ro, .inr (6, [.int 4, .int 6, .ref ca, .int (nI nz)])), (ca, .inl (cc0, 24, .inl ff))]) [0, 1] rfl
  have hKc_2 := hK.sub (tys' := [(cc0, .int)]) [0] rfl
  refine vp_callSi (va_Run.run (va_runV (As := [.int na, .int nb]) (rest := []) ⟨hx, hb, hml, hown, hts⟩ (r_hasCell_24 l dC dI ro ca nz cc0 ff na nb hz) (cwV 2 hts gX6_get_X6_hasCell rfl rfl rfl (by decide +kernel) ⟨Nat.le_of_ble_eq_true rfl, Nat.le_of_ble_eq_true rfl⟩) ⟨fun a U g mk q => by obtain ⟨q0, qP, qK⟩ := q; exact ⟨q0, qP, va_K.moved (u := U) (U := U.calling g mk a) (Vm.Alike.refl U.vm) qK⟩, va_recv hK hP (ci := 6) (q0 := 0) rfl rfl, fun U hU hW => ⟨rfl, by rw [hU]; exact hPc_1, va_K.moved hW.alike hKc_2⟩⟩ rfl rfl hl.1 rfl (lv_room (Nat.le_of_ble_eq_true rfl)) dX6_get_3 ⟨Nat.le_of_ble_eq_true rfl, Nat.le_of_ble_eq_true rfl⟩)) (fun r_3 hw_4 => ?_)
  by_cases hc_5 : (0 ≤ na ∧ na < nI nz) ∧ (0 ≤ nb ∧ nb < 4)
  · obtain rfl : 1 = r_3 := (hw_4.trans (if_pos hc_5)).symm
    obtain ⟨j1, hj1, e1⟩ := tz_belowI hc_5.1 (by omega)
    obtain ⟨j2, hj2, e2⟩ := tz_belowI (n := 4) hc_5.2 (by omega)
    refine lv_if_eq (tgt := 25) hx hb dX6_get_6 (by decide) (fun c_6 => ?_) (fun c_6 => ?_)
    · exact absurd c_6 (by decide)
    · refine lv_aload_n hx hb dX6_get_9 rfl (lv_at hl 0 rfl) ?_
      refine va_get (D := (dC, dI)) (ci := 6) (v := .ref ca) (C := RX6) (T := TX6) (N := 4) hx hb hts iw_r_get_24_X6 hown hK hP 0 rfl rfl 2 (by decide) (hts (.fieldLink RX6 27 "ThriceCounted$Rows" "cells" "[I") (by decide +kernel)) (fun _ h9 => h9) rfl dX6_get_10 ?_
      refine lv_iload_n hx hb dX6_get_13 rfl (lv_at hl 1 rfl) ?_
      refine lv_aload_n hx hb dX6_get_14 rfl (lv_at hl 0 rfl) ?_
      refine va_get (D := (dC, dI)) (ci := 6) (v := .int 4) (C := RX6) (T := TX6) (N := 4) hx hb hts iw_r_get_24_X6 hown hK hP 0 rfl rfl 0 (by decide) (hts (.fieldLink RX6 24 "ThriceCounted$Rows" "width" "I") (by decide +kernel)) (fun _ h9 => h9) rfl dX6_get_15 ?_
      refine lv_imul hx hb dX6_get_18 ?_
      refine lv_iload_n hx hb dX6_get_19 rfl (lv_at hl 2 rfl) ?_
      refine lv_iadd hx hb dX6_get_20 ?_
      refine va_iald hx hb hK hP 1 0 rfl rfl (by rw [e1, e2, show (4 : Int32) = nI 4 from rfl, pk_mul, nI_add]; exact vp_in_nI (by omega) (by decide)) dX6_get_21 ?_
      refine lv_topi (fun x_7 _ => ?_)
      refine lv_goto (tgt := 26) hx hb dX6_get_22 (by decide) ?_
      exact W.iret (v := x_7) hx hb hr (fun t ht hW => ⟨x_7, rfl, trivial, ht⟩) (fun _ h => absurd h List.not_mem_nil) dX6_get_26
  · obtain rfl : 0 = r_3 := (hw_4.trans (if_neg hc_5)).symm
    refine lv_if_eq (tgt := 25) hx hb dX6_get_6 (by decide) (fun c_8 => ?_) (fun c_8 => ?_)
    · refine lv_iconst (v := (-1)) hx hb dX6_get_25 (by decide) ?_
      exact W.iret (v := (-1)) hx hb hr (fun t ht hW => ⟨(-1), rfl, trivial, ht⟩) (fun _ h => absurd h List.not_mem_nil) dX6_get_26
    · exact absurd c_8 (by decide)
set_option maxRecDepth 20000 in
theorem iw_r_put_24_X6 : ∀ w ∈ wsX60, w ∈ wsX6_put := by decide +kernel
set_option maxHeartbeats 4000000 in
set_option maxRecDepth 100000 in
theorem r_put_24 (l : Launch) (dC : Nat → ClassId) (dI : Nat → Nat → Nat) (ro : Nat) (ca : Nat) (nz : Nat) (cc0 : ClassId) (ff : Nat → Int32) (na : Int32) (nb : Int32) (nv : Int32) (sz : Nat) (hz : nz ≤ 6) : Met l yX6_put wsX6_put ({ frames := 1, cells := 0, slots := 0, locals := 22 }) (va_Pc [.ref ro, .int na, .int nb, .int nv] (fun U => U.heap.size = sz ∧ va_P (dC, dI) vwCl [(ro, .inr (6, [.int 4, .int 6, .ref ca, .int (nI nz)])), (ca, .inl (cc0, 24, .inl ff))] U.heap ∧ va_K (dC, dI) vwCl [(cc0, .int)] U ∧ va_D (fun _ => True) [(ro, .inr (6, [.int 4, .int 6, .ref ca, .int (nI nz)])), (ca, .inl (cc0, 24, .inl ff))])) (va_Qv (fun (_ : Unit) => True) (fun _ t => ∃ (fg : Nat → Int32), va_P (dC, dI) vwCl [(ro, .inr (6, [.int 4, .int 6, .ref ca, .int (nI nz)])), (ca, .inl (cc0, 24, .inl fg))] t.heap ∧ va_K (dC, dI) vwCl [(cc0, .int)] t ∧ va_D (va_A [(ro, .inr (6, [.int 4, .int 6, .ref ca, .int (nI nz)])), (ca, .inl (cc0, 24, .inl ff))] sz) [(ro, .inr (6, [.int 4, .int 6, .ref ca, .int (nI nz)])), (ca, .inl (cc0, 24, .inl fg))]) (va_A [(ro, .inr (6, [.int 4, .int 6, .ref ca, .int (nI nz)])), (ca, .inl (cc0, 24, .inl ff))] sz)) 0 0 (va_A [(ro, .inr (6, [.int 4, .int 6, .ref ca, .int (nI nz)])), (ca, .inl (cc0, 24, .inl ff))] sz) := by
  refine Met.ofW (cc := cX6_put) (maxL := 4) (ret := none) (by decide) rfl ?_
  intro p e s m args below meth c s₁ B hml hv
  obtain ⟨rfl, hsz, hP, hK, hD0⟩ := hv
  have hx := B.exec
  have hb := B.bytes
  have hr := B.returns
  have hts := atoms_spec (ws := wsX6_put) B.pre
  have hown : s.vm.findClass RX6 = some m.cls := findClass_of_methodNamed B.named
  have hlocks := B.notSynchronized
  subst hsz
  have hD := hD0.self (sz := s.heap.size)
  generalize hAe : va_A [(ro, .inr (6, [.int 4, .int 6, .ref ca, .int (nI nz)])), (ca, .inl (cc0, 24, .inl ff))] s.heap.size = A at hD ⊢
  have hA : ∀ q : Nat, s.heap.size ≤ q → A q := fun q h => by rw [← hAe]; exact Or.inr h
  have hS : va_S A s.heap s.heap [] := va_S.rf
  have hP : va_P (dC, dI) vwCl [(ro, .inr (6, [.int 4, .int 6, .ref ca, .int (nI nz)])), (ca, .inl (cc0, 24, .inl ff))] s.heap := hP
  have hl := lv_entry ([.ref ro, .int na, .int nb, .int nv]) (n := 4) (Nat.le_of_ble_eq_true rfl)
  rw [lg_entry_eq]
  generalize (lg_sl ([.ref ro, .int na, .int nb, .int nv]) ++ List.replicate (4 - (lg_sl ([.ref ro, .int na, .int nb, .int nv])).length) Slot.unset).toArray = ls at hl ⊢
  have hl : lv_has ls 4 [(0, .ref ro), (1, .int na), (2, .int nb), (3, .int nv)] := hl
  refine lv_aload_n hx hb dX6_put_0 rfl (lv_at hl 0 rfl) ?_
  refine lv_iload_n hx hb dX6_put_1 rfl (lv_at hl 1 rfl) ?_
  refine lv_iload_n hx hb dX6_put_2 rfl (lv_at hl 2 rfl) ?_
  have hPc_1 := hP.sub (ws' := [(ro, .inr (6, [.int 4, .int 6, .ref ca, .int (nI nz)])), (ca, .inl (cc0, 24, .inl ff))]) [0, 1] rfl
  have hKc_2 := hK.sub (tys' := [(cc0, .int)]) [0] rfl
  refine vp_callSi (va_Run.run (va_runV (As := [.int na, .int nb]) (rest := []) ⟨hx, hb, hml, hown, hts⟩ (r_hasCell_24 l dC dI ro ca nz cc0 ff na nb hz) (cwV 2 hts gX6_put_X6_hasCell rfl rfl rfl (by decide +kernel) ⟨Nat.le_of_ble_eq_true rfl, Nat.le_of_ble_eq_true rfl⟩) ⟨fun a U g mk q => by obtain ⟨q0, qP, qK⟩ := q; exact ⟨q0, qP, va_K.moved (u := U) (U := U.calling g mk a) (Vm.Alike.refl U.vm) qK⟩, va_recv hK hP (ci := 6) (q0 := 0) rfl rfl, fun U hU hW => ⟨rfl, by rw [hU]; exact hPc_1, va_K.moved hW.alike hKc_2⟩⟩ rfl rfl hl.1 rfl (lv_room (Nat.le_of_ble_eq_true rfl)) dX6_put_3 ⟨Nat.le_of_ble_eq_true rfl, Nat.le_of_ble_eq_true rfl⟩)) (fun r_3 hw_4 => ?_)
  by_cases hc_5 : (0 ≤ na ∧ na < nI nz) ∧ (0 ≤ nb ∧ nb < 4)
  · obtain rfl : 1 = r_3 := (hw_4.trans (if_pos hc_5)).symm
    obtain ⟨j1, hj1, e1⟩ := tz_belowI hc_5.1 (by omega)
    obtain ⟨j2, hj2, e2⟩ := tz_belowI (n := 4) hc_5.2 (by omega)
    refine lv_if_eq (tgt := 23) hx hb dX6_put_6 (by decide) (fun c_6 => ?_) (fun c_6 => ?_)
    · exact absurd c_6 (by decide)
    · refine lv_aload_n hx hb dX6_put_9 rfl (lv_at hl 0 rfl) ?_
      refine va_get (D := (dC, dI)) (ci := 6) (v := .ref ca) (C := RX6) (T := TX6) (N := 4) hx hb hts iw_r_put_24_X6 hown hK hP 0 rfl rfl 2 (by decide) (hts (.fieldLink RX6 27 "ThriceCounted$Rows" "cells" "[I") (by decide +kernel)) (fun _ h9 => h9) rfl dX6_put_10 ?_
      refine lv_iload_n hx hb dX6_put_13 rfl (lv_at hl 1 rfl) ?_
      refine lv_aload_n hx hb dX6_put_14 rfl (lv_at hl 0 rfl) ?_
      refine va_get (D := (dC, dI)) (ci := 6) (v := .int 4) (C := RX6) (T := TX6) (N := 4) hx hb hts iw_r_put_24_X6 hown hK hP 0 rfl rfl 0 (by decide) (hts (.fieldLink RX6 24 "ThriceCounted$Rows" "width" "I") (by decide +kernel)) (fun _ h9 => h9) rfl dX6_put_15 ?_
      refine lv_imul hx hb dX6_put_18 ?_
      refine lv_iload_n hx hb dX6_put_19 rfl (lv_at hl 2 rfl) ?_
      refine lv_iadd hx hb dX6_put_20 ?_
      refine lv_iload_n hx hb dX6_put_21 rfl (lv_at hl 3 rfl) ?_
      refine va_iast hx hb hK hP hD hS 1 0 rfl rfl (by rw [e1, e2, show (4 : Int32) = nI 4 from rfl, pk_mul, nI_add]; exact vp_in_nI (by omega) (by decide)) dX6_put_22 (fun H locs hP hD hS => ?_)
      generalize (upd ff (Int32.toNatClampNeg ((na * 4) + nb)) nv) = f_7 at hP hD
      have hP : va_P (dC, dI) vwCl [(ro, .inr (6, [.int 4, .int 6, .ref ca, .int (nI nz)])), (ca, .inl (cc0, 24, .inl f_7))] H := hP
      have hD : va_D A [(ro, .inr (6, [.int 4, .int 6, .ref ca, .int (nI nz)])), (ca, .inl (cc0, 24, .inl f_7))] := hD
      have hP9 := hP.sub (ws' := [(ro, .inr (6, [.int 4, .int 6, .ref ca, .int (nI nz)])), (ca, .inl (cc0, 24, .inl f_7))]) [0, 1] rfl
      have hD9 := hD.sub (ws' := [(ro, .inr (6, [.int 4, .int 6, .ref ca, .int (nI nz)])), (ca, .inl (cc0, 24, .inl f_7))]) [0, 1] (by decide) rfl
      have hK9 := hK.sub (tys' := [(cc0, .int)]) [0] rfl
      exact W.vret hx hb hr (fun t ht hW => ⟨⟨(), rfl, trivial, f_7, by rw [ht]; exact hP9, va_K.moved hW.alike hK9, hD9⟩, hS.F ht⟩) hS.2.2 dX6_put_23
  · obtain rfl : 0 = r_3 := (hw_4.trans (if_neg hc_5)).symm
    refine lv_if_eq (tgt := 23) hx hb dX6_put_6 (by decide) (fun c_8 => ?_) (fun c_8 => ?_)
    · have hP9 := hP.sub (ws' := [(ro, .inr (6, [.int 4, .int 6, .ref ca, .int (nI nz)])), (ca, .inl (cc0, 24, .inl ff))]) [0, 1] rfl
      have hD9 := hD.sub (ws' := [(ro, .inr (6, [.int 4, .int 6, .ref ca, .int (nI nz)])), (ca, .inl (cc0, 24, .inl ff))]) [0, 1] (by decide) rfl
      have hK9 := hK.sub (tys' := [(cc0, .int)]) [0] rfl
      exact W.vret hx hb hr (fun t ht hW => ⟨⟨(), rfl, trivial, ff, by rw [ht]; exact hP9, va_K.moved hW.alike hK9, hD9⟩, hS.F ht⟩) hS.2.2 dX6_put_23
    · exact absurd c_8 (by decide)
set_option maxRecDepth 20000 in
theorem iw_r_empty_24_X6 : ∀ w ∈ wsX60, w ∈ wsX6_empty := by decide +kernel
set_option maxHeartbeats 4000000 in
set_option maxRecDepth 100000 in
theorem r_empty_24 (l : Launch) (dC : Nat → ClassId) (dI : Nat → Nat → Nat) (ro : Nat) (ca : Nat) (nz : Nat) (sz : Nat) : Met l yX6_empty wsX6_empty ({ frames := 0, cells := 0, slots := 0, locals := 0 }) (va_Pc [.ref ro] (fun U => U.heap.size = sz ∧ va_P (dC, dI) vwCl [(ro, .inr (6, [.int 4, .int 6, .ref ca, .int (nI nz)]))] U.heap ∧ va_K (dC, dI) vwCl [] U ∧ va_D (fun _ => True) [(ro, .inr (6, [.int 4, .int 6, .ref ca, .int (nI nz)]))])) (va_Qv (fun (_ : Unit) => True) (fun _ t => va_P (dC, dI) vwCl [(ro, .inr (6, [.int 4, .int 6, .ref ca, .int 0]))] t.heap ∧ va_K (dC, dI) vwCl [] t ∧ va_D (va_A [(ro, .inr (6, [.int 4, .int 6, .ref ca, .int (nI nz)]))] sz) [(ro, .inr (6, [.int 4, .int 6, .ref ca, .int 0]))]) (va_A [(ro, .inr (6, [.int 4, .int 6, .ref ca, .int (nI nz)]))] sz)) 0 0 (va_A [(ro, .inr (6, [.int 4, .int 6, .ref ca, .int (nI nz)]))] sz) := by
  refine Met.ofW (cc := cX6_empty) (maxL := 1) (ret := none) (by decide) rfl ?_
  intro p e s m args below meth c s₁ B hml hv
  obtain ⟨rfl, hsz, hP, hK, hD0⟩ := hv
  have hx := B.exec
  have hb := B.bytes
  have hr := B.returns
  have hts := atoms_spec (ws := wsX6_empty) B.pre
  have hown : s.vm.findClass RX6 = some m.cls := findClass_of_methodNamed B.named
  have hlocks := B.notSynchronized
  subst hsz
  have hD := hD0.self (sz := s.heap.size)
  generalize hAe : va_A [(ro, .inr (6, [.int 4, .int 6, .ref ca, .int (nI nz)]))] s.heap.size = A at hD ⊢
  have hA : ∀ q : Nat, s.heap.size ≤ q → A q := fun q h => by rw [← hAe]; exact Or.inr h
  have hS : va_S A s.heap s.heap [] := va_S.rf
  have hP : va_P (dC, dI) vwCl [(ro, .inr (6, [.int 4, .int 6, .ref ca, .int (nI nz)]))] s.heap := hP
  have hl := lv_entry ([.ref ro]) (n := 1) (Nat.le_of_ble_eq_true rfl)
  rw [lg_entry_eq]
  generalize (lg_sl ([.ref ro]) ++ List.replicate (1 - (lg_sl ([.ref ro])).length) Slot.unset).toArray = ls at hl ⊢
  have hl : lv_has ls 1 [(0, .ref ro)] := hl
  refine lv_aload_n hx hb dX6_empty_0 rfl (lv_at hl 0 rfl) ?_
  refine lv_iconst (v := 0) hx hb dX6_empty_1 (by decide) ?_
  refine va_put (D := (dC, dI)) (ci := 6) (v := .int 0) (ty := .int) (C := RX6) (T := TX6) (N := 4) hx hb hts iw_r_empty_24_X6 tyX6 tyX6_ok nmX6 hown hK hP hD hS 0 rfl rfl 3 (by decide) (hts (.fieldLink RX6 9 "ThriceCounted$Rows" "size" "I") (by decide +kernel)) (fun _ h9 => h9) rfl (by decide +kernel) rfl rfl (Nat.le_of_ble_eq_true rfl) dX6_empty_2 (fun H locs hP hD hS => ?_)
  have hP : va_P (dC, dI) vwCl [(ro, .inr (6, [.int 4, .int 6, .ref ca, .int 0]))] H := hP
  have hD : va_D A [(ro, .inr (6, [.int 4, .int 6, .ref ca, .int 0]))] := hD
  have hP9 := hP.sub (ws' := [(ro, .inr (6, [.int 4, .int 6, .ref ca, .int 0]))]) [0] rfl
  have hD9 := hD.sub (ws' := [(ro, .inr (6, [.int 4, .int 6, .ref ca, .int 0]))]) [0] (by decide) rfl
  have hK9 := hK.sub (tys' := []) [] rfl
  exact W.vret hx hb hr (fun t ht hW => ⟨⟨(), rfl, trivial, by rw [ht]; exact hP9, va_K.moved hW.alike hK9, hD9⟩, hS.F ht⟩) hS.2.2 dX6_empty_5
set_option maxRecDepth 20000 in
theorem ggX6_grow_X6_isFull : GoodIn wsX6_grow wsX6_isFull := goodIn_r _ [6, 1, 7, 8, 9, 10, 11] (by decide +kernel) (by decide +kernel)
set_option maxRecDepth 20000 in
theorem gX6_grow_X6_isFull : GoodIn wsX6_grow (wsV RX6 35 RX6 yX6_isFull wsX6_isFull) := goodIn_app (goodIn_of _ (by decide +kernel)) ggX6_grow_X6_isFull
theorem dX6_grow_0 : decode cX6_grow 0 = .ok (.aload_n 0, 1) := by decide +kernel
theorem dX6_grow_1 : decode cX6_grow 1 = .ok (.invokevirtual 35, 3) := by decide +kernel
theorem dX6_grow_4 : decode cX6_grow 4 = .ok (.ifCond .eq 6, 3) := by decide +kernel
theorem dX6_grow_7 : decode cX6_grow 7 = .ok (.bipush (-4), 2) := by decide +kernel
theorem dX6_grow_9 : decode cX6_grow 9 = .ok (.ireturn, 1) := by decide +kernel
theorem dX6_grow_10 : decode cX6_grow 10 = .ok (.aload_n 0, 1) := by decide +kernel
theorem dX6_grow_11 : decode cX6_grow 11 = .ok (.dup, 1) := by decide +kernel
theorem dX6_grow_12 : decode cX6_grow 12 = .ok (.getfield 9, 3) := by decide +kernel
theorem dX6_grow_15 : decode cX6_grow 15 = .ok (.iconst 1, 1) := by decide +kernel
theorem dX6_grow_16 : decode cX6_grow 16 = .ok (.iadd, 1) := by decide +kernel
theorem dX6_grow_17 : decode cX6_grow 17 = .ok (.putfield 9, 3) := by decide +kernel
theorem dX6_grow_20 : decode cX6_grow 20 = .ok (.aload_n 0, 1) := by decide +kernel
theorem dX6_grow_21 : decode cX6_grow 21 = .ok (.getfield 9, 3) := by decide +kernel
theorem dX6_grow_24 : decode cX6_grow 24 = .ok (.iconst 1, 1) := by decide +kernel
theorem dX6_grow_25 : decode cX6_grow 25 = .ok (.isub, 1) := by decide +kernel
theorem dX6_grow_26 : decode cX6_grow 26 = .ok (.ireturn, 1) := by decide +kernel
set_option maxRecDepth 20000 in
theorem iw_r_grow_5_X6 : ∀ w ∈ wsX60, w ∈ wsX6_grow := by decide +kernel
set_option maxHeartbeats 4000000 in
set_option maxRecDepth 100000 in
theorem r_grow_5 (l : Launch) (dC : Nat → ClassId) (dI : Nat → Nat → Nat) (ro : Nat) (ca : Nat) (nz : Nat) (sz : Nat) (hz : nz ≤ 5) : Met l yX6_grow wsX6_grow ({ frames := 1, cells := 0, slots := 0, locals := 20 }) (va_Pc [.ref ro] (fun U => U.heap.size = sz ∧ va_P (dC, dI) vwCl [(ro, .inr (6, [.int 1, .int 5, .ref ca, .int (nI nz)]))] U.heap ∧ va_K (dC, dI) vwCl [] U ∧ va_D (fun _ => True) [(ro, .inr (6, [.int 1, .int 5, .ref ca, .int (nI nz)]))])) (va_Qi (fun (r : Int32) (_ : Unit) => True) (fun _ t => ∃ (zg : Nat), (zg ≤ 5) ∧ va_P (dC, dI) vwCl [(ro, .inr (6, [.int 1, .int 5, .ref ca, .int (nI zg)]))] t.heap ∧ va_K (dC, dI) vwCl [] t ∧ va_D (va_A [(ro, .inr (6, [.int 1, .int 5, .ref ca, .int (nI nz)]))] sz) [(ro, .inr (6, [.int 1, .int 5, .ref ca, .int (nI zg)]))]) (va_A [(ro, .inr (6, [.int 1, .int 5, .ref ca, .int (nI nz)]))] sz)) 0 0 (va_A [(ro, .inr (6, [.int 1, .int 5, .ref ca, .int (nI nz)]))] sz) := by
  refine Met.ofW (cc := cX6_grow) (maxL := 1) (ret := (some .int)) (by decide) rfl ?_
  intro p e s m args below meth c s₁ B hml hv
  obtain ⟨rfl, hsz, hP, hK, hD0⟩ := hv
  have hx := B.exec
  have hb := B.bytes
  have hr := B.returns
  have hts := atoms_spec (ws := wsX6_grow) B.pre
  have hown : s.vm.findClass RX6 = some m.cls := findClass_of_methodNamed B.named
  have hlocks := B.notSynchronized
  subst hsz
  have hD := hD0.self (sz := s.heap.size)
  generalize hAe : va_A [(ro, .inr (6, [.int 1, .int 5, .ref ca, .int (nI nz)]))] s.heap.size = A at hD ⊢
  have hA : ∀ q : Nat, s.heap.size ≤ q → A q := fun q h => by rw [← hAe]; exact Or.inr h
  have hS : va_S A s.heap s.heap [] := va_S.rf
  have hP : va_P (dC, dI) vwCl [(ro, .inr (6, [.int 1, .int 5, .ref ca, .int (nI nz)]))] s.heap := hP
  have hl := lv_entry ([.ref ro]) (n := 1) (Nat.le_of_ble_eq_true rfl)
  rw [lg_entry_eq]
  generalize (lg_sl ([.ref ro]) ++ List.replicate (1 - (lg_sl ([.ref ro])).length) Slot.unset).toArray = ls at hl ⊢
  have hl : lv_has ls 1 [(0, .ref ro)] := hl
  refine lv_aload_n hx hb dX6_grow_0 rfl (lv_at hl 0 rfl) ?_
  have hPc_1 := hP.sub (ws' := [(ro, .inr (6, [.int 1, .int 5, .ref ca, .int (nI nz)]))]) [0] rfl
  have hKc_2 := hK.sub (tys' := []) [] rfl
  refine vp_callSi (va_Run.run (va_runV (As := []) (rest := []) ⟨hx, hb, hml, hown, hts⟩ (r_isFull_5 l dC dI ro ca nz hz) (cwV 0 hts gX6_grow_X6_isFull rfl rfl rfl (by decide +kernel) ⟨Nat.le_of_ble_eq_true rfl, Nat.le_of_ble_eq_true rfl⟩) ⟨fun a U g mk q => by obtain ⟨q0, qP, qK⟩ := q; exact ⟨q0, qP, va_K.moved (u := U) (U := U.calling g mk a) (Vm.Alike.refl U.vm) qK⟩, va_recv hK hP (ci := 6) (q0 := 0) rfl rfl, fun U hU hW => ⟨rfl, by rw [hU]; exact hPc_1, va_K.moved hW.alike hKc_2⟩⟩ rfl rfl hl.1 rfl (lv_room (Nat.le_of_ble_eq_true rfl)) dX6_grow_1 ⟨Nat.le_of_ble_eq_true rfl, Nat.le_of_ble_eq_true rfl⟩)) (fun r_3 hw_4 => ?_)
  by_cases hc_5 : 5 ≤ nz
  · obtain rfl : 1 = r_3 := (hw_4.trans (if_pos hc_5)).symm
    refine lv_if_eq (tgt := 10) hx hb dX6_grow_4 (by decide) (fun c_6 => ?_) (fun c_6 => ?_)
    · exact absurd c_6 (by decide)
    · refine lv_bipush (v := (-4)) hx hb dX6_grow_7 (by decide) ?_
      have hP9 := hP.sub (ws' := [(ro, .inr (6, [.int 1, .int 5, .ref ca, .int (nI nz)]))]) [0] rfl
      have hD9 := hD.sub (ws' := [(ro, .inr (6, [.int 1, .int 5, .ref ca, .int (nI nz)]))]) [0] (by decide) rfl
      have hK9 := hK.sub (tys' := []) [] rfl
      exact W.iret (v := (-4)) hx hb hr (fun t ht hW => ⟨⟨(-4), (), rfl, trivial, nz, hz, by rw [ht]; exact hP9, va_K.moved hW.alike hK9, hD9⟩, hS.F ht⟩) hS.2.2 dX6_grow_9
  · obtain rfl : 0 = r_3 := (hw_4.trans (if_neg hc_5)).symm
    refine lv_if_eq (tgt := 10) hx hb dX6_grow_4 (by decide) (fun c_7 => ?_) (fun c_7 => ?_)
    · refine lv_aload_n hx hb dX6_grow_10 rfl (lv_at hl 0 rfl) ?_
      refine lv_dup hx hb dX6_grow_11 rfl ?_
      refine va_get (D := (dC, dI)) (ci := 6) (v := .int (nI nz)) (C := RX6) (T := TX6) (N := 4) hx hb hts iw_r_grow_5_X6 hown hK hP 0 rfl rfl 3 (by decide) (hts (.fieldLink RX6 9 "ThriceCounted$Rows" "size" "I") (by decide +kernel)) (fun _ h9 => h9) rfl dX6_grow_12 ?_
      refine lv_iconst (v := 1) hx hb dX6_grow_15 (by decide) ?_
      refine lv_iadd hx hb dX6_grow_16 ?_
      refine tz_i (nI (nz + 1)) (nI_add nz 1) ?_
      refine va_put (D := (dC, dI)) (ci := 6) (v := .int (nI (nz + 1))) (ty := .int) (C := RX6) (T := TX6) (N := 4) hx hb hts iw_r_grow_5_X6 tyX6 tyX6_ok nmX6 hown hK hP hD hS 0 rfl rfl 3 (by decide) (hts (.fieldLink RX6 9 "ThriceCounted$Rows" "size" "I") (by decide +kernel)) (fun _ h9 => h9) rfl (by decide +kernel) rfl rfl (Nat.le_of_ble_eq_true rfl) dX6_grow_17 (fun H locs hP hD hS => ?_)
      have hP : va_P (dC, dI) vwCl [(ro, .inr (6, [.int 1, .int 5, .ref ca, .int (nI (nz + 1))]))] H := hP
      have hD : va_D A [(ro, .inr (6, [.int 1, .int 5, .ref ca, .int (nI (nz + 1))]))] := hD
      refine lv_aload_n hx hb dX6_grow_20 rfl (lv_at hl 0 rfl) ?_
      refine va_get (D := (dC, dI)) (ci := 6) (v := .int (nI (nz + 1))) (C := RX6) (T := TX6) (N := 4) hx hb hts iw_r_grow_5_X6 hown hK hP 0 rfl rfl 3 (by decide) (hts (.fieldLink RX6 9 "ThriceCounted$Rows" "size" "I") (by decide +kernel)) (fun _ h9 => h9) rfl dX6_grow_21 ?_
      refine lv_iconst (v := 1) hx hb dX6_grow_24 (by decide) ?_
      refine lv_isub hx hb dX6_grow_25 ?_
      have hP9 := hP.sub (ws' := [(ro, .inr (6, [.int 1, .int 5, .ref ca, .int (nI (nz + 1))]))]) [0] rfl
      have hD9 := hD.sub (ws' := [(ro, .inr (6, [.int 1, .int 5, .ref ca, .int (nI (nz + 1))]))]) [0] (by decide) rfl
      have hK9 := hK.sub (tys' := []) [] rfl
      exact W.iret (v := ((nI (nz + 1)) - 1)) hx hb hr (fun t ht hW => ⟨⟨((nI (nz + 1)) - 1), (), rfl, trivial, (nz + 1), by omega, by rw [ht]; exact hP9, va_K.moved hW.alike hK9, hD9⟩, hS.F ht⟩) hS.2.2 dX6_grow_26
    · exact absurd c_7 (by decide)
set_option maxRecDepth 20000 in
theorem ggX6_remove_X6_has : GoodIn wsX6_remove wsX6_has := goodIn_r _ [7, 1, 21, 22, 23, 24] (by decide +kernel) (by decide +kernel)
set_option maxRecDepth 20000 in
theorem gX6_remove_X6_has : GoodIn wsX6_remove (wsV RX6 39 RX6 yX6_has wsX6_has) := goodIn_app (goodIn_of _ (by decide +kernel)) ggX6_remove_X6_has
set_option maxRecDepth 20000 in
theorem ggX6_remove_X6_get : GoodIn wsX6_remove wsX6_get := goodIn_r _ [11, 12, 2, 13, 14, 15, 6, 16, 1, 21, 22, 23, 24] (by decide +kernel) (by decide +kernel)
set_option maxRecDepth 20000 in
theorem gX6_remove_X6_get : GoodIn wsX6_remove (wsV RX6 43 RX6 yX6_get wsX6_get) := goodIn_app (goodIn_of _ (by decide +kernel)) ggX6_remove_X6_get
set_option maxRecDepth 20000 in
theorem ggX6_remove_X6_put : GoodIn wsX6_remove wsX6_put := goodIn_r _ [20, 12, 2, 13, 14, 15, 6, 16, 1, 21, 22, 23, 24] (by decide +kernel) (by decide +kernel)
set_option maxRecDepth 20000 in
theorem gX6_remove_X6_put : GoodIn wsX6_remove (wsV RX6 46 RX6 yX6_put wsX6_put) := goodIn_app (goodIn_of _ (by decide +kernel)) ggX6_remove_X6_put
theorem dX6_remove_0 : decode cX6_remove 0 = .ok (.aload_n 0, 1) := by decide +kernel
theorem dX6_remove_1 : decode cX6_remove 1 = .ok (.iload_n 1, 1) := by decide +kernel
theorem dX6_remove_2 : decode cX6_remove 2 = .ok (.invokevirtual 39, 3) := by decide +kernel
theorem dX6_remove_5 : decode cX6_remove 5 = .ok (.ifCond .ne 4, 3) := by decide +kernel
theorem dX6_remove_9 : decode cX6_remove 9 = .ok (.iload_n 1, 1) := by decide +kernel
theorem dX6_remove_10 : decode cX6_remove 10 = .ok (.istore_n 2, 1) := by decide +kernel
theorem dX6_remove_11 : decode cX6_remove 11 = .ok (.iload_n 2, 1) := by decide +kernel
theorem dX6_remove_12 : decode cX6_remove 12 = .ok (.aload_n 0, 1) := by decide +kernel
theorem dX6_remove_13 : decode cX6_remove 13 = .ok (.getfield 9, 3) := by decide +kernel
theorem dX6_remove_16 : decode cX6_remove 16 = .ok (.iconst 1, 1) := by decide +kernel
theorem dX6_remove_17 : decode cX6_remove 17 = .ok (.isub, 1) := by decide +kernel
theorem dX6_remove_18 : decode cX6_remove 18 = .ok (.if_icmp .ge 39, 3) := by decide +kernel
theorem dX6_remove_57 : decode cX6_remove 57 = .ok (.aload_n 0, 1) := by decide +kernel
theorem dX6_remove_58 : decode cX6_remove 58 = .ok (.dup, 1) := by decide +kernel
theorem dX6_remove_59 : decode cX6_remove 59 = .ok (.getfield 9, 3) := by decide +kernel
theorem dX6_remove_62 : decode cX6_remove 62 = .ok (.iconst 1, 1) := by decide +kernel
theorem dX6_remove_63 : decode cX6_remove 63 = .ok (.isub, 1) := by decide +kernel
theorem dX6_remove_64 : decode cX6_remove 64 = .ok (.putfield 9, 3) := by decide +kernel
theorem dX6_remove_67 : decode cX6_remove 67 = .ok (.return_, 1) := by decide +kernel
theorem dX6_remove_21 : decode cX6_remove 21 = .ok (.iconst 0, 1) := by decide +kernel
theorem dX6_remove_22 : decode cX6_remove 22 = .ok (.istore_n 3, 1) := by decide +kernel
theorem dX6_remove_23 : decode cX6_remove 23 = .ok (.iload_n 3, 1) := by decide +kernel
theorem dX6_remove_24 : decode cX6_remove 24 = .ok (.aload_n 0, 1) := by decide +kernel
theorem dX6_remove_25 : decode cX6_remove 25 = .ok (.getfield 24, 3) := by decide +kernel
theorem dX6_remove_28 : decode cX6_remove 28 = .ok (.if_icmp .ge 23, 3) := by decide +kernel
theorem dX6_remove_31 : decode cX6_remove 31 = .ok (.aload_n 0, 1) := by decide +kernel
theorem dX6_remove_32 : decode cX6_remove 32 = .ok (.iload_n 2, 1) := by decide +kernel
theorem dX6_remove_33 : decode cX6_remove 33 = .ok (.iload_n 3, 1) := by decide +kernel
theorem dX6_remove_34 : decode cX6_remove 34 = .ok (.aload_n 0, 1) := by decide +kernel
theorem dX6_remove_35 : decode cX6_remove 35 = .ok (.iload_n 2, 1) := by decide +kernel
theorem dX6_remove_36 : decode cX6_remove 36 = .ok (.iconst 1, 1) := by decide +kernel
theorem dX6_remove_37 : decode cX6_remove 37 = .ok (.iadd, 1) := by decide +kernel
theorem dX6_remove_38 : decode cX6_remove 38 = .ok (.iload_n 3, 1) := by decide +kernel
theorem dX6_remove_39 : decode cX6_remove 39 = .ok (.invokevirtual 43, 3) := by decide +kernel
theorem dX6_remove_42 : decode cX6_remove 42 = .ok (.invokevirtual 46, 3) := by decide +kernel
theorem dX6_remove_45 : decode cX6_remove 45 = .ok (.iinc 3 1, 3) := by decide +kernel
theorem dX6_remove_48 : decode cX6_remove 48 = .ok (.goto (-25), 3) := by decide +kernel
theorem dX6_remove_51 : decode cX6_remove 51 = .ok (.iinc 2 1, 3) := by decide +kernel
theorem dX6_remove_54 : decode cX6_remove 54 = .ok (.goto (-43), 3) := by decide +kernel
theorem dX6_remove_8 : decode cX6_remove 8 = .ok (.return_, 1) := by decide +kernel
set_option maxRecDepth 20000 in
theorem iw_r_remove_5_X6 : ∀ w ∈ wsX60, w ∈ wsX6_remove := by decide +kernel
set_option maxHeartbeats 4000000 in
set_option maxRecDepth 100000 in
theorem r_remove_5 (l : Launch) (dC : Nat → ClassId) (dI : Nat → Nat → Nat) (ro : Nat) (ca : Nat) (nz : Nat) (cc0 : ClassId) (ff : Nat → Int32) (na : Int32) (sz : Nat) (hz : nz ≤ 5) : Met l yX6_remove wsX6_remove ({ frames := 2, cells := 0, slots := 0, locals := 45 }) (va_Pc [.ref ro, .int na] (fun U => U.heap.size = sz ∧ va_P (dC, dI) vwCl [(ro, .inr (6, [.int 1, .int 5, .ref ca, .int (nI nz)])), (ca, .inl (cc0, 5, .inl ff))] U.heap ∧ va_K (dC, dI) vwCl [(cc0, .int)] U ∧ va_D (fun _ => True) [(ro, .inr (6, [.int 1, .int 5, .ref ca, .int (nI nz)])), (ca, .inl (cc0, 5, .inl ff))])) (va_Qv (fun (_ : Unit) => True) (fun _ t => ∃ (zg : Nat) (fg : Nat → Int32), (zg ≤ 5) ∧ va_P (dC, dI) vwCl [(ro, .inr (6, [.int 1, .int 5, .ref ca, .int (nI zg)])), (ca, .inl (cc0, 5, .inl fg))] t.heap ∧ va_K (dC, dI) vwCl [(cc0, .int)] t ∧ va_D (va_A [(ro, .inr (6, [.int 1, .int 5, .ref ca, .int (nI nz)])), (ca, .inl (cc0, 5, .inl ff))] sz) [(ro, .inr (6, [.int 1, .int 5, .ref ca, .int (nI zg)])), (ca, .inl (cc0, 5, .inl fg))]) (va_A [(ro, .inr (6, [.int 1, .int 5, .ref ca, .int (nI nz)])), (ca, .inl (cc0, 5, .inl ff))] sz)) 0 0 (va_A [(ro, .inr (6, [.int 1, .int 5, .ref ca, .int (nI nz)])), (ca, .inl (cc0, 5, .inl ff))] sz) := by
  refine Met.ofW (cc := cX6_remove) (maxL := 4) (ret := none) (by decide) rfl ?_
  intro p e s m args below meth c s₁ B hml hv
  obtain ⟨rfl, hsz, hP, hK, hD0⟩ := hv
  have hx := B.exec
  have hb := B.bytes
  have hr := B.returns
  have hts := atoms_spec (ws := wsX6_remove) B.pre
  have hown : s.vm.findClass RX6 = some m.cls := findClass_of_methodNamed B.named
  have hlocks := B.notSynchronized
  subst hsz
  have hD := hD0.self (sz := s.heap.size)
  generalize hAe : va_A [(ro, .inr (6, [.int 1, .int 5, .ref ca, .int (nI nz)])), (ca, .inl (cc0, 5, .inl ff))] s.heap.size = A at hD ⊢
  have hA : ∀ q : Nat, s.heap.size ≤ q → A q := fun q h => by rw [← hAe]; exact Or.inr h
  have hS : va_S A s.heap s.heap [] := va_S.rf
  have hP : va_P (dC, dI) vwCl [(ro, .inr (6, [.int 1, .int 5, .ref ca, .int (nI nz)])), (ca, .inl (cc0, 5, .inl ff))] s.heap := hP
  have hl := lv_entry ([.ref ro, .int na]) (n := 4) (Nat.le_of_ble_eq_true rfl)
  rw [lg_entry_eq]
  generalize (lg_sl ([.ref ro, .int na]) ++ List.replicate (4 - (lg_sl ([.ref ro, .int na])).length) Slot.unset).toArray = ls at hl ⊢
  have hl : lv_has ls 4 [(0, .ref ro), (1, .int na)] := hl
  refine lv_aload_n hx hb dX6_remove_0 rfl (lv_at hl 0 rfl) ?_
  refine lv_iload_n hx hb dX6_remove_1 rfl (lv_at hl 1 rfl) ?_
  have hPc_1 := hP.sub (ws' := [(ro, .inr (6, [.int 1, .int 5, .ref ca, .int (nI nz)]))]) [0] rfl
  have hKc_2 := hK.sub (tys' := []) [] rfl
  refine vp_callSi (va_Run.run (va_runV (As := [.int na]) (rest := []) ⟨hx, hb, hml, hown, hts⟩ (r_has_5 l dC dI ro ca nz na) (cwV 1 hts gX6_remove_X6_has rfl rfl rfl (by decide +kernel) ⟨Nat.le_of_ble_eq_true rfl, Nat.le_of_ble_eq_true rfl⟩) ⟨fun a U g mk q => by obtain ⟨q0, qP, qK⟩ := q; exact ⟨q0, qP, va_K.moved (u := U) (U := U.calling g mk a) (Vm.Alike.refl U.vm) qK⟩, va_recv hK hP (ci := 6) (q0 := 0) rfl rfl, fun U hU hW => ⟨rfl, by rw [hU]; exact hPc_1, va_K.moved hW.alike hKc_2⟩⟩ rfl rfl hl.1 rfl (lv_room (Nat.le_of_ble_eq_true rfl)) dX6_remove_2 ⟨Nat.le_of_ble_eq_true rfl, Nat.le_of_ble_eq_true rfl⟩)) (fun r_3 hw_4 => ?_)
  by_cases hc_5 : 0 ≤ na ∧ na < nI nz
  · obtain rfl : 1 = r_3 := (hw_4.trans (if_pos hc_5)).symm
    obtain ⟨j1, hj1, rfl⟩ := tz_belowI hc_5 (by omega)
    refine lv_if_ne (tgt := 9) hx hb dX6_remove_5 (by decide) (fun c_6 => ?_) (fun c_6 => ?_)
    · refine lv_iload_n hx hb dX6_remove_9 rfl (lv_at hl 1 rfl) ?_
      refine lv_istore_n (lv' := [(2, .int (nI j1)), (0, .ref ro), (1, .int (nI j1))]) hx hb dX6_remove_10 rfl hl (by decide) rfl (fun ls hl => ?_)
      refine tz_while (σ := Nat × (Nat → Int32) × Heap × List Loc × Array Slot) (fun x => W p l e _ s m _ below meth c x.2.2.1 x.2.2.2.1 _ _ _ (F0 m 11 x.2.2.2.2 [])) (fun x => x.1 ≤ nz ∧ va_P (dC, dI) vwCl [(ro, .inr (6, [.int 1, .int 5, .ref ca, .int (nI nz)])), (ca, .inl (cc0, 5, .inl x.2.1))] x.2.2.1 ∧ va_D A [(ro, .inr (6, [.int 1, .int 5, .ref ca, .int (nI nz)])), (ca, .inl (cc0, 5, .inl x.2.1))] ∧ va_S A s.heap x.2.2.1 x.2.2.2.1 ∧ lv_has x.2.2.2.2 4 [(2, .int (nI x.1)), (0, .ref ro), (1, .int (nI j1))]) (fun x => nz - x.1) ?_ (j1, ff, s.heap, [], ls) ⟨by omega, hP, hD, hS, hl⟩
      rintro ⟨ii, fq, H, locs, ls⟩ ⟨hi_7_0, hP, hD, hS, hl⟩ ih_8
      dsimp only at hi_7_0 hP hD hS hl ih_8 ⊢
      refine lv_iload_n hx hb dX6_remove_11 rfl (lv_at hl 0 rfl) ?_
      refine lv_aload_n hx hb dX6_remove_12 rfl (lv_at hl 1 rfl) ?_
      refine va_get (D := (dC, dI)) (ci := 6) (v := .int (nI nz)) (C := RX6) (T := TX6) (N := 4) hx hb hts iw_r_remove_5_X6 hown hK hP 0 rfl rfl 3 (by decide) (hts (.fieldLink RX6 9 "ThriceCounted$Rows" "size" "I") (by decide +kernel)) (fun _ h9 => h9) rfl dX6_remove_13 ?_
      refine lv_iconst (v := 1) hx hb dX6_remove_16 (by decide) ?_
      refine lv_isub hx hb dX6_remove_17 ?_
      refine tz_i (nI (nz - 1)) (pk_sub (a := nz) (b := 1) (by omega)) ?_
      refine lv_icmp_ge (tgt := 57) hx hb dX6_remove_18 (by decide) (fun c_9 => ?_) (fun c_9 => ?_)
      · have hn_10 : (nz - 1) ≤ ii := (nI_leI (a := (nz - 1)) (b := ii) (by omega) (by omega)).mp c_9
        refine lv_aload_n hx hb dX6_remove_57 rfl (lv_at hl 1 rfl) ?_
        refine lv_dup hx hb dX6_remove_58 rfl ?_
        refine va_get (D := (dC, dI)) (ci := 6) (v := .int (nI nz)) (C := RX6) (T := TX6) (N := 4) hx hb hts iw_r_remove_5_X6 hown hK hP 0 rfl rfl 3 (by decide) (hts (.fieldLink RX6 9 "ThriceCounted$Rows" "size" "I") (by decide +kernel)) (fun _ h9 => h9) rfl dX6_remove_59 ?_
        refine lv_iconst (v := 1) hx hb dX6_remove_62 (by decide) ?_
        refine lv_isub hx hb dX6_remove_63 ?_
        refine tz_i (nI (nz - 1)) (pk_sub (a := nz) (b := 1) (by omega)) ?_
        refine va_put (D := (dC, dI)) (ci := 6) (v := .int (nI (nz - 1))) (ty := .int) (C := RX6) (T := TX6) (N := 4) hx hb hts iw_r_remove_5_X6 tyX6 tyX6_ok nmX6 hown hK hP hD hS 0 rfl rfl 3 (by decide) (hts (.fieldLink RX6 9 "ThriceCounted$Rows" "size" "I") (by decide +kernel)) (fun _ h9 => h9) rfl (by decide +kernel) rfl rfl (Nat.le_of_ble_eq_true rfl) dX6_remove_64 (fun H locs hP hD hS => ?_)
        have hP : va_P (dC, dI) vwCl [(ro, .inr (6, [.int 1, .int 5, .ref ca, .int (nI (nz - 1))])), (ca, .inl (cc0, 5, .inl fq))] H := hP
        have hD : va_D A [(ro, .inr (6, [.int 1, .int 5, .ref ca, .int (nI (nz - 1))])), (ca, .inl (cc0, 5, .inl fq))] := hD
        have hP9 := hP.sub (ws' := [(ro, .inr (6, [.int 1, .int 5, .ref ca, .int (nI (nz - 1))])), (ca, .inl (cc0, 5, .inl fq))]) [0, 1] rfl
        have hD9 := hD.sub (ws' := [(ro, .inr (6, [.int 1, .int 5, .ref ca, .int (nI (nz - 1))])), (ca, .inl (cc0, 5, .inl fq))]) [0, 1] (by decide) rfl
        have hK9 := hK.sub (tys' := [(cc0, .int)]) [0] rfl
        exact W.vret hx hb hr (fun t ht hW => ⟨⟨(), rfl, trivial, (nz - 1), fq, by omega, by rw [ht]; exact hP9, va_K.moved hW.alike hK9, hD9⟩, hS.F ht⟩) hS.2.2 dX6_remove_67
      · have hn_11 : ¬ (nz - 1) ≤ ii := fun q => c_9 ((nI_leI (a := (nz - 1)) (b := ii) (by omega) (by omega)).mpr q)
        refine lv_iconst (v := 0) hx hb dX6_remove_21 (by decide) ?_
        refine lv_istore_n (lv' := [(3, .int 0), (2, .int (nI ii)), (0, .ref ro), (1, .int (nI j1))]) hx hb dX6_remove_22 rfl hl (by decide) rfl (fun ls hl => ?_)
        refine lv_iload_n hx hb dX6_remove_23 rfl (lv_at hl 0 rfl) ?_
        refine lv_aload_n hx hb dX6_remove_24 rfl (lv_at hl 2 rfl) ?_
        refine va_get (D := (dC, dI)) (ci := 6) (v := .int 1) (C := RX6) (T := TX6) (N := 4) hx hb hts iw_r_remove_5_X6 hown hK hP 0 rfl rfl 0 (by decide) (hts (.fieldLink RX6 24 "ThriceCounted$Rows" "width" "I") (by decide +kernel)) (fun _ h9 => h9) rfl dX6_remove_25 ?_
        refine lv_icmp_ge (tgt := 51) hx hb dX6_remove_28 (by decide) (fun c_12 => ?_) (fun c_12 => ?_)
        · exact absurd c_12 (by decide)
        · refine lv_aload_n hx hb dX6_remove_31 rfl (lv_at hl 2 rfl) ?_
          refine lv_iload_n hx hb dX6_remove_32 rfl (lv_at hl 1 rfl) ?_
          refine lv_iload_n hx hb dX6_remove_33 rfl (lv_at hl 0 rfl) ?_
          refine lv_aload_n hx hb dX6_remove_34 rfl (lv_at hl 2 rfl) ?_
          refine lv_iload_n hx hb dX6_remove_35 rfl (lv_at hl 1 rfl) ?_
          refine lv_iconst (v := 1) hx hb dX6_remove_36 (by decide) ?_
          refine lv_iadd hx hb dX6_remove_37 ?_
          refine tz_i (nI (ii + 1)) (nI_add ii 1) ?_
          refine lv_iload_n hx hb dX6_remove_38 rfl (lv_at hl 0 rfl) ?_
          have hPc_13 := hP.sub (ws' := [(ro, .inr (6, [.int 1, .int 5, .ref ca, .int (nI nz)])), (ca, .inl (cc0, 5, .inl fq))]) [0, 1] rfl
          have hKc_14 := hK.sub (tys' := [(cc0, .int)]) [0] rfl
          refine vp_callSi (va_Run.run (va_runV (As := [.int (nI (ii + 1)), .int 0]) (rest := [.int 0, .int (nI ii), .ref ro]) ⟨hx, hb, hml, hown, hts⟩ (r_get_5 l dC dI ro ca nz cc0 fq (nI (ii + 1)) 0 hz) (cwV 2 hts gX6_remove_X6_get rfl rfl rfl (by decide +kernel) ⟨Nat.le_of_ble_eq_true rfl, Nat.le_of_ble_eq_true rfl⟩) ⟨fun a U g mk q => by obtain ⟨q0, qP, qK⟩ := q; exact ⟨q0, qP, va_K.moved (u := U) (U := U.calling g mk a) (Vm.Alike.refl U.vm) qK⟩, va_recv hK hP (ci := 6) (q0 := 0) rfl rfl, fun U hU hW => ⟨rfl, by rw [hU]; exact hPc_13, va_K.moved hW.alike hKc_14⟩⟩ rfl rfl hl.1 rfl (lv_room (Nat.le_of_ble_eq_true rfl)) dX6_remove_39 ⟨Nat.le_of_ble_eq_true rfl, Nat.le_of_ble_eq_true rfl⟩)) (fun r_15 hw_16 => ?_)
          have hPc := hP.sub (ws' := [(ro, .inr (6, [.int 1, .int 5, .ref ca, .int (nI nz)])), (ca, .inl (cc0, 5, .inl fq))]) [0, 1] rfl
          have hDc := hD.sub (ws' := [(ro, .inr (6, [.int 1, .int 5, .ref ca, .int (nI nz)])), (ca, .inl (cc0, 5, .inl fq))]) [0, 1] (by decide) rfl
          have hKc := hK.sub (tys' := [(cc0, .int)]) [0] rfl
          have hFc := va_free (wc := [(ro, .inr (6, [.int 1, .int 5, .ref ca, .int (nI nz)])), (ca, .inl (cc0, 5, .inl fq))]) hD hS hA [0, 1] rfl
          refine va_callv (va_runV (As := [.int (nI ii), .int 0, .int r_15]) (rest := []) ⟨hx, hb, hml, hown, hts⟩ (r_put_5 l dC dI ro ca nz cc0 fq (nI ii) 0 r_15 H.size hz) (cwV 3 hts gX6_remove_X6_put rfl rfl rfl (by decide +kernel) ⟨Nat.le_of_ble_eq_true rfl, Nat.le_of_ble_eq_true rfl⟩) ⟨fun a U g mk q => by obtain ⟨q0, q1, qP, qK, qD⟩ := q; exact ⟨q0, q1, qP, va_K.moved (u := U) (U := U.calling g mk a) (Vm.Alike.refl U.vm) qK, qD⟩, va_recv hK hP (ci := 6) (q0 := 0) rfl rfl, fun U hU hW => ⟨rfl, by rw [hU], by rw [hU]; exact hPc, va_K.moved hW.alike hKc, hDc.weaken (fun _ _ _ _ => trivial)⟩⟩ rfl rfl hl.1 rfl (lv_room (Nat.le_of_ble_eq_true rfl)) dX6_remove_42 ⟨Nat.le_of_ble_eq_true rfl, Nat.le_of_ble_eq_true rfl⟩) hS (fun q _ h => hFc q h) hFc (fun u_ t H1 locs ht hvm hw_18 hB hz1 hk1 hS => ?_)
          obtain ⟨fg_19, hP1, hK1, hD1⟩ := hB
          rw [ht] at hP1
          have hK1 := va_K.moved hvm.symm hK1
          obtain ⟨hP, hD⟩ := va_join (wr := []) (w1 := [(ro, .inr (6, [.int 1, .int 5, .ref ca, .int (nI nz)])), (ca, .inl (cc0, 5, .inl fg_19))]) hP hD [0, 1] [] rfl rfl (by decide) (by decide) hk1 hFc hP1 hD1
          generalize H1 = H at hP hS ⊢
          have hP : va_P (dC, dI) vwCl [(ro, .inr (6, [.int 1, .int 5, .ref ca, .int (nI nz)])), (ca, .inl (cc0, 5, .inl fg_19))] H := hP
          have hD : va_D A [(ro, .inr (6, [.int 1, .int 5, .ref ca, .int (nI nz)])), (ca, .inl (cc0, 5, .inl fg_19))] := hD
          refine lv_iinc (v := 1) (lv' := [(3, .int 1), (2, .int (nI ii)), (0, .ref ro), (1, .int (nI j1))]) hx hb dX6_remove_45 hl (k := 0) rfl (by decide) (by decide) rfl (fun ls hl => ?_)
          refine lv_goto (tgt := 23) hx hb dX6_remove_48 (by decide) ?_
          refine lv_iload_n hx hb dX6_remove_23 rfl (lv_at hl 0 rfl) ?_
          refine lv_aload_n hx hb dX6_remove_24 rfl (lv_at hl 2 rfl) ?_
          refine va_get (D := (dC, dI)) (ci := 6) (v := .int 1) (C := RX6) (T := TX6) (N := 4) hx hb hts iw_r_remove_5_X6 hown hK hP 0 rfl rfl 0 (by decide) (hts (.fieldLink RX6 24 "ThriceCounted$Rows" "width" "I") (by decide +kernel)) (fun _ h9 => h9) rfl dX6_remove_25 ?_
          refine lv_icmp_ge (tgt := 51) hx hb dX6_remove_28 (by decide) (fun c_20 => ?_) (fun c_20 => ?_)
          · refine lv_iinc (v := (nI (ii + 1))) (lv' := [(2, .int (nI (ii + 1))), (3, .int 1), (0, .ref ro), (1, .int (nI j1))]) hx hb dX6_remove_51 hl (k := 1) rfl (nI_add ii 1) (by decide) rfl (fun ls hl => ?_)
            refine lv_goto (tgt := 11) hx hb dX6_remove_54 (by decide) ?_
            exact ih_8 ((ii + 1), fg_19, H, locs, ls) ⟨by dsimp only; omega, hP, hD, hS, lv_sub hl [0, 2, 3] rfl⟩ (by dsimp only; omega)
          · exact absurd c_20 (by decide)
    · exact absurd c_6 (by decide)
  · obtain rfl : 0 = r_3 := (hw_4.trans (if_neg hc_5)).symm
    refine lv_if_ne (tgt := 9) hx hb dX6_remove_5 (by decide) (fun c_21 => ?_) (fun c_21 => ?_)
    · exact absurd c_21 (by decide)
    · have hP9 := hP.sub (ws' := [(ro, .inr (6, [.int 1, .int 5, .ref ca, .int (nI nz)])), (ca, .inl (cc0, 5, .inl ff))]) [0, 1] rfl
      have hD9 := hD.sub (ws' := [(ro, .inr (6, [.int 1, .int 5, .ref ca, .int (nI nz)])), (ca, .inl (cc0, 5, .inl ff))]) [0, 1] (by decide) rfl
      have hK9 := hK.sub (tys' := [(cc0, .int)]) [0] rfl
      exact W.vret hx hb hr (fun t ht hW => ⟨⟨(), rfl, trivial, nz, ff, hz, by rw [ht]; exact hP9, va_K.moved hW.alike hK9, hD9⟩, hS.F ht⟩) hS.2.2 dX6_remove_8
theorem dX6_mixInto_0 : decode cX6_mixInto 0 = .ok (.lload_n 1, 1) := by decide +kernel
theorem dX6_mixInto_1 : decode cX6_mixInto 1 = .ok (.lstore_n 3, 1) := by decide +kernel
theorem dX6_mixInto_2 : decode cX6_mixInto 2 = .ok (.iconst 0, 1) := by decide +kernel
theorem dX6_mixInto_3 : decode cX6_mixInto 3 = .ok (.istore 5, 2) := by decide +kernel
theorem dX6_mixInto_5 : decode cX6_mixInto 5 = .ok (.iload 5, 2) := by decide +kernel
theorem dX6_mixInto_7 : decode cX6_mixInto 7 = .ok (.aload_n 0, 1) := by decide +kernel
theorem dX6_mixInto_8 : decode cX6_mixInto 8 = .ok (.getfield 9, 3) := by decide +kernel
theorem dX6_mixInto_11 : decode cX6_mixInto 11 = .ok (.aload_n 0, 1) := by decide +kernel
theorem dX6_mixInto_12 : decode cX6_mixInto 12 = .ok (.getfield 24, 3) := by decide +kernel
theorem dX6_mixInto_15 : decode cX6_mixInto 15 = .ok (.imul, 1) := by decide +kernel
theorem dX6_mixInto_16 : decode cX6_mixInto 16 = .ok (.if_icmp .ge 34, 3) := by decide +kernel
theorem dX6_mixInto_50 : decode cX6_mixInto 50 = .ok (.lload_n 3, 1) := by decide +kernel
theorem dX6_mixInto_51 : decode cX6_mixInto 51 = .ok (.lreturn, 1) := by decide +kernel
theorem dX6_mixInto_19 : decode cX6_mixInto 19 = .ok (.iload 5, 2) := by decide +kernel
theorem dX6_mixInto_21 : decode cX6_mixInto 21 = .ok (.aload_n 0, 1) := by decide +kernel
theorem dX6_mixInto_22 : decode cX6_mixInto 22 = .ok (.getfield 27, 3) := by decide +kernel
theorem dX6_mixInto_25 : decode cX6_mixInto 25 = .ok (.arraylength, 1) := by decide +kernel
theorem dX6_mixInto_26 : decode cX6_mixInto 26 = .ok (.if_icmp .ge 24, 3) := by decide +kernel
theorem dX6_mixInto_29 : decode cX6_mixInto 29 = .ok (.ldc2_w 59, 3) := by decide +kernel
theorem dX6_mixInto_32 : decode cX6_mixInto 32 = .ok (.lload_n 3, 1) := by decide +kernel
theorem dX6_mixInto_33 : decode cX6_mixInto 33 = .ok (.lmul, 1) := by decide +kernel
theorem dX6_mixInto_34 : decode cX6_mixInto 34 = .ok (.aload_n 0, 1) := by decide +kernel
theorem dX6_mixInto_35 : decode cX6_mixInto 35 = .ok (.getfield 27, 3) := by decide +kernel
theorem dX6_mixInto_38 : decode cX6_mixInto 38 = .ok (.iload 5, 2) := by decide +kernel
theorem dX6_mixInto_40 : decode cX6_mixInto 40 = .ok (.iaload, 1) := by decide +kernel
theorem dX6_mixInto_41 : decode cX6_mixInto 41 = .ok (.i2l, 1) := by decide +kernel
theorem dX6_mixInto_42 : decode cX6_mixInto 42 = .ok (.ladd, 1) := by decide +kernel
theorem dX6_mixInto_43 : decode cX6_mixInto 43 = .ok (.lstore_n 3, 1) := by decide +kernel
theorem dX6_mixInto_44 : decode cX6_mixInto 44 = .ok (.iinc 5 1, 3) := by decide +kernel
theorem dX6_mixInto_47 : decode cX6_mixInto 47 = .ok (.goto (-42), 3) := by decide +kernel
set_option maxRecDepth 20000 in
theorem iw_r_mix_5_X6 : ∀ w ∈ wsX60, w ∈ wsX6_mixInto := by decide +kernel
set_option maxHeartbeats 4000000 in
set_option maxRecDepth 100000 in
theorem r_mix_5 (l : Launch) (dC : Nat → ClassId) (dI : Nat → Nat → Nat) (ro : Nat) (ca : Nat) (nz : Nat) (cc0 : ClassId) (ff : Nat → Int32) (hh : Int64) (hz : nz ≤ 5) : Met l yX6_mixInto wsX6_mixInto ({ frames := 0, cells := 0, slots := 0, locals := 0 }) (va_Pc [.ref ro, .long hh] (fun U => va_P (dC, dI) vwCl [(ro, .inr (6, [.int 1, .int 5, .ref ca, .int (nI nz)])), (ca, .inl (cc0, 5, .inl ff))] U.heap ∧ va_K (dC, dI) vwCl [(cc0, .int)] U)) (vp_Sl (fun r => True)) 0 0 (fun _ => False) := by
  refine Met.ofW (cc := cX6_mixInto) (maxL := 6) (ret := (some .long)) (by decide) rfl ?_
  intro p e s m args below meth c s₁ B hml hv
  obtain ⟨rfl, hP, hK⟩ := hv
  have hx := B.exec
  have hb := B.bytes
  have hr := B.returns
  have hts := atoms_spec (ws := wsX6_mixInto) B.pre
  have hown : s.vm.findClass RX6 = some m.cls := findClass_of_methodNamed B.named
  have hlocks := B.notSynchronized
  have hl := lv_entry ([.ref ro, .long hh]) (n := 6) (Nat.le_of_ble_eq_true rfl)
  rw [lg_entry_eq]
  generalize (lg_sl ([.ref ro, .long hh]) ++ List.replicate (6 - (lg_sl ([.ref ro, .long hh])).length) Slot.unset).toArray = ls at hl ⊢
  have hl : lv_has ls 6 [(0, .ref ro), (1, .long hh)] := hl
  refine lv_lload_n hx hb dX6_mixInto_0 rfl (lv_at hl 1 rfl) ?_
  refine lv_lstore_n (lv' := [(3, .long hh), (0, .ref ro), (1, .long hh)]) hx hb dX6_mixInto_1 rfl hl (by decide) rfl (fun ls hl => ?_)
  refine lv_iconst (v := 0) hx hb dX6_mixInto_2 (by decide) ?_
  refine lv_istore (lv' := [(5, .int 0), (3, .long hh), (0, .ref ro), (1, .long hh)]) hx hb dX6_mixInto_3 hl (by decide) rfl (fun ls hl => ?_)
  refine tz_while (σ := Nat × Int64 × Array Slot) (fun x => W p l e _ s m _ below meth c _ _ _ _ _ (F0 m 5 x.2.2 [])) (fun x => x.1 ≤ 64 ∧ lv_has x.2.2 6 [(5, .int (nI x.1)), (3, .long x.2.1), (0, .ref ro), (1, .long hh)]) (fun x => 65 - x.1) ?_ (0, hh, ls) ⟨by omega, hl⟩
  rintro ⟨kk, mh, ls⟩ ⟨hi_1_0, hl⟩ ih_2
  dsimp only at hi_1_0 hl ih_2 ⊢
  refine lv_iload hx hb dX6_mixInto_5 (lv_at hl 0 rfl) ?_
  refine lv_aload_n hx hb dX6_mixInto_7 rfl (lv_at hl 2 rfl) ?_
  refine va_get (D := (dC, dI)) (ci := 6) (v := .int (nI nz)) (C := RX6) (T := TX6) (N := 4) hx hb hts iw_r_mix_5_X6 hown hK hP 0 rfl rfl 3 (by decide) (hts (.fieldLink RX6 9 "ThriceCounted$Rows" "size" "I") (by decide +kernel)) (fun _ h9 => h9) rfl dX6_mixInto_8 ?_
  refine lv_aload_n hx hb dX6_mixInto_11 rfl (lv_at hl 2 rfl) ?_
  refine va_get (D := (dC, dI)) (ci := 6) (v := .int 1) (C := RX6) (T := TX6) (N := 4) hx hb hts iw_r_mix_5_X6 hown hK hP 0 rfl rfl 0 (by decide) (hts (.fieldLink RX6 24 "ThriceCounted$Rows" "width" "I") (by decide +kernel)) (fun _ h9 => h9) rfl dX6_mixInto_12 ?_
  refine lv_imul hx hb dX6_mixInto_15 ?_
  refine tz_i (nI (nz * 1)) (pk_mul nz 1) ?_
  refine lv_icmp_ge (tgt := 50) hx hb dX6_mixInto_16 (by decide) (fun c_3 => ?_) (fun c_3 => ?_)
  · have hn_4 : (nz * 1) ≤ kk := (nI_leI (a := (nz * 1)) (b := kk) (by omega) (by omega)).mp c_3
    refine lv_lload_n hx hb dX6_mixInto_50 rfl (lv_at hl 1 rfl) ?_
    exact W.lret (v := mh) hx hb hr (fun t ht hW => ⟨mh, rfl, trivial, ht⟩) (fun _ h => absurd h List.not_mem_nil) dX6_mixInto_51
  · have hn_5 : ¬ (nz * 1) ≤ kk := fun q => c_3 ((nI_leI (a := (nz * 1)) (b := kk) (by omega) (by omega)).mpr q)
    refine lv_iload hx hb dX6_mixInto_19 (lv_at hl 0 rfl) ?_
    refine lv_aload_n hx hb dX6_mixInto_21 rfl (lv_at hl 2 rfl) ?_
    refine va_get (D := (dC, dI)) (ci := 6) (v := .ref ca) (C := RX6) (T := TX6) (N := 4) hx hb hts iw_r_mix_5_X6 hown hK hP 0 rfl rfl 2 (by decide) (hts (.fieldLink RX6 27 "ThriceCounted$Rows" "cells" "[I") (by decide +kernel)) (fun _ h9 => h9) rfl dX6_mixInto_22 ?_
    refine va_alen (v := 5) hx hb hK hP 1 0 rfl rfl rfl dX6_mixInto_25 ?_
    refine lv_icmp_ge (tgt := 50) hx hb dX6_mixInto_26 (by decide) (fun c_6 => ?_) (fun c_6 => ?_)
    · have hn_7 : 5 ≤ kk := (nI_leI (a := 5) (b := kk) (by omega) (by omega)).mp c_6
      refine lv_lload_n hx hb dX6_mixInto_50 rfl (lv_at hl 1 rfl) ?_
      exact W.lret (v := mh) hx hb hr (fun t ht hW => ⟨mh, rfl, trivial, ht⟩) (fun _ h => absurd h List.not_mem_nil) dX6_mixInto_51
    · have hn_8 : ¬ 5 ≤ kk := fun q => c_6 ((nI_leI (a := 5) (b := kk) (by omega) (by omega)).mpr q)
      refine lv_ldc2 hx hb hown (hts (.constantLong RX6 59 (31)) (by decide +kernel)) dX6_mixInto_29 ?_
      refine lv_lload_n hx hb dX6_mixInto_32 rfl (lv_at hl 1 rfl) ?_
      refine lv_lmul hx hb dX6_mixInto_33 ?_
      refine lv_topl (fun x_9 _ => ?_)
      refine lv_aload_n hx hb dX6_mixInto_34 rfl (lv_at hl 2 rfl) ?_
      refine va_get (D := (dC, dI)) (ci := 6) (v := .ref ca) (C := RX6) (T := TX6) (N := 4) hx hb hts iw_r_mix_5_X6 hown hK hP 0 rfl rfl 2 (by decide) (hts (.fieldLink RX6 27 "ThriceCounted$Rows" "cells" "[I") (by decide +kernel)) (fun _ h9 => h9) rfl dX6_mixInto_35 ?_
      refine lv_iload hx hb dX6_mixInto_38 (lv_at hl 0 rfl) ?_
      refine va_iald hx hb hK hP 1 0 rfl rfl (vp_in_nI (n := kk) (N := 5) (by omega) (by decide)) dX6_mixInto_40 ?_
      refine lv_topi (fun x_10 _ => ?_)
      refine lv_i2l (v := x_10.toInt64) hx hb dX6_mixInto_41 rfl ?_
      refine lv_ladd hx hb dX6_mixInto_42 ?_
      refine lv_topl (fun x_11 _ => ?_)
      refine lv_lstore_n (lv' := [(3, .long x_11), (5, .int (nI kk)), (0, .ref ro), (1, .long hh)]) hx hb dX6_mixInto_43 rfl hl (by decide) rfl (fun ls hl => ?_)
      refine lv_iinc (v := (nI (kk + 1))) (lv' := [(5, .int (nI (kk + 1))), (3, .long x_11), (0, .ref ro), (1, .long hh)]) hx hb dX6_mixInto_44 hl (k := 1) rfl (nI_add kk 1) (by decide) rfl (fun ls hl => ?_)
      refine lv_goto (tgt := 5) hx hb dX6_mixInto_47 (by decide) ?_
      exact ih_2 ((kk + 1), x_11, ls) ⟨by dsimp only; omega, lv_sub hl [0, 1, 2, 3] rfl⟩ (by dsimp only; omega)
theorem dX6_copyFrom_0 : decode cX6_copyFrom 0 = .ok (.aload_n 0, 1) := by decide +kernel
theorem dX6_copyFrom_1 : decode cX6_copyFrom 1 = .ok (.aload_n 0, 1) := by decide +kernel
theorem dX6_copyFrom_2 : decode cX6_copyFrom 2 = .ok (.getfield 21, 3) := by decide +kernel
theorem dX6_copyFrom_5 : decode cX6_copyFrom 5 = .ok (.aload_n 1, 1) := by decide +kernel
theorem dX6_copyFrom_6 : decode cX6_copyFrom 6 = .ok (.getfield 9, 3) := by decide +kernel
theorem dX6_copyFrom_9 : decode cX6_copyFrom 9 = .ok (.invokestatic 50, 3) := by decide +kernel
theorem dX6_copyFrom_12 : decode cX6_copyFrom 12 = .ok (.putfield 9, 3) := by decide +kernel
theorem dX6_copyFrom_15 : decode cX6_copyFrom 15 = .ok (.aload_n 1, 1) := by decide +kernel
theorem dX6_copyFrom_16 : decode cX6_copyFrom 16 = .ok (.getfield 27, 3) := by decide +kernel
theorem dX6_copyFrom_19 : decode cX6_copyFrom 19 = .ok (.iconst 0, 1) := by decide +kernel
theorem dX6_copyFrom_20 : decode cX6_copyFrom 20 = .ok (.aload_n 0, 1) := by decide +kernel
theorem dX6_copyFrom_21 : decode cX6_copyFrom 21 = .ok (.getfield 27, 3) := by decide +kernel
theorem dX6_copyFrom_24 : decode cX6_copyFrom 24 = .ok (.iconst 0, 1) := by decide +kernel
theorem dX6_copyFrom_25 : decode cX6_copyFrom 25 = .ok (.aload_n 0, 1) := by decide +kernel
theorem dX6_copyFrom_26 : decode cX6_copyFrom 26 = .ok (.getfield 27, 3) := by decide +kernel
theorem dX6_copyFrom_29 : decode cX6_copyFrom 29 = .ok (.arraylength, 1) := by decide +kernel
theorem dX6_copyFrom_30 : decode cX6_copyFrom 30 = .ok (.aload_n 1, 1) := by decide +kernel
theorem dX6_copyFrom_31 : decode cX6_copyFrom 31 = .ok (.getfield 27, 3) := by decide +kernel
theorem dX6_copyFrom_34 : decode cX6_copyFrom 34 = .ok (.arraylength, 1) := by decide +kernel
theorem dX6_copyFrom_35 : decode cX6_copyFrom 35 = .ok (.invokestatic 50, 3) := by decide +kernel
theorem dX6_copyFrom_38 : decode cX6_copyFrom 38 = .ok (.invokestatic 53, 3) := by decide +kernel
theorem dX6_copyFrom_41 : decode cX6_copyFrom 41 = .ok (.return_, 1) := by decide +kernel
set_option maxRecDepth 20000 in
theorem iw_r_copy_5_X6 : ∀ w ∈ wsX60, w ∈ wsX6_copyFrom := by decide +kernel
set_option maxHeartbeats 4000000 in
set_option maxRecDepth 100000 in
theorem r_copy_5 (l : Launch) (dC : Nat → ClassId) (dI : Nat → Nat → Nat) (ro : Nat) (ca : Nat) (nz : Nat) (cc0 : ClassId) (ff : Nat → Int32) (rp : Nat) (cb : Nat) (ny : Nat) (cc1 : ClassId) (fb : Nat → Int32) (sz : Nat) (hz : nz ≤ 5) (hy : ny ≤ 5) : Met l yX6_copyFrom wsX6_copyFrom ({ frames := 1, cells := 0, slots := 0, locals := 40 }) (va_Pc [.ref ro, .ref rp] (fun U => U.heap.size = sz ∧ va_P (dC, dI) vwCl [(ro, .inr (6, [.int 1, .int 5, .ref ca, .int (nI nz)])), (ca, .inl (cc0, 5, .inl ff)), (rp, .inr (6, [.int 1, .int 5, .ref cb, .int (nI ny)])), (cb, .inl (cc1, 5, .inl fb))] U.heap ∧ va_K (dC, dI) vwCl [(cc0, .int), (cc1, .int)] U ∧ va_D (fun _ => True) [(ro, .inr (6, [.int 1, .int 5, .ref ca, .int (nI nz)])), (ca, .inl (cc0, 5, .inl ff)), (rp, .inr (6, [.int 1, .int 5, .ref cb, .int (nI ny)])), (cb, .inl (cc1, 5, .inl fb))])) (va_Qv (fun (_ : Unit) => True) (fun _ t => ∃ (fg : Nat → Int32), va_P (dC, dI) vwCl [(ro, .inr (6, [.int 1, .int 5, .ref ca, .int (nI ny)])), (ca, .inl (cc0, 5, .inl fg)), (rp, .inr (6, [.int 1, .int 5, .ref cb, .int (nI ny)])), (cb, .inl (cc1, 5, .inl fb))] t.heap ∧ va_K (dC, dI) vwCl [(cc0, .int), (cc1, .int)] t ∧ va_D (va_A [(ro, .inr (6, [.int 1, .int 5, .ref ca, .int (nI nz)])), (ca, .inl (cc0, 5, .inl ff)), (rp, .inr (6, [.int 1, .int 5, .ref cb, .int (nI ny)])), (cb, .inl (cc1, 5, .inl fb))] sz) [(ro, .inr (6, [.int 1, .int 5, .ref ca, .int (nI ny)])), (ca, .inl (cc0, 5, .inl fg)), (rp, .inr (6, [.int 1, .int 5, .ref cb, .int (nI ny)])), (cb, .inl (cc1, 5, .inl fb))]) (va_A [(ro, .inr (6, [.int 1, .int 5, .ref ca, .int (nI nz)])), (ca, .inl (cc0, 5, .inl ff)), (rp, .inr (6, [.int 1, .int 5, .ref cb, .int (nI ny)])), (cb, .inl (cc1, 5, .inl fb))] sz)) 0 0 (va_A [(ro, .inr (6, [.int 1, .int 5, .ref ca, .int (nI nz)])), (ca, .inl (cc0, 5, .inl ff)), (rp, .inr (6, [.int 1, .int 5, .ref cb, .int (nI ny)])), (cb, .inl (cc1, 5, .inl fb))] sz) := by
  refine Met.ofW (cc := cX6_copyFrom) (maxL := 2) (ret := none) (by decide) rfl ?_
  intro p e s m args below meth c s₁ B hml hv
  obtain ⟨rfl, hsz, hP, hK, hD0⟩ := hv
  have hx := B.exec
  have hb := B.bytes
  have hr := B.returns
  have hts := atoms_spec (ws := wsX6_copyFrom) B.pre
  have hown : s.vm.findClass RX6 = some m.cls := findClass_of_methodNamed B.named
  have hlocks := B.notSynchronized
  subst hsz
  have hD := hD0.self (sz := s.heap.size)
  generalize hAe : va_A [(ro, .inr (6, [.int 1, .int 5, .ref ca, .int (nI nz)])), (ca, .inl (cc0, 5, .inl ff)), (rp, .inr (6, [.int 1, .int 5, .ref cb, .int (nI ny)])), (cb, .inl (cc1, 5, .inl fb))] s.heap.size = A at hD ⊢
  have hA : ∀ q : Nat, s.heap.size ≤ q → A q := fun q h => by rw [← hAe]; exact Or.inr h
  have hS : va_S A s.heap s.heap [] := va_S.rf
  have hP : va_P (dC, dI) vwCl [(ro, .inr (6, [.int 1, .int 5, .ref ca, .int (nI nz)])), (ca, .inl (cc0, 5, .inl ff)), (rp, .inr (6, [.int 1, .int 5, .ref cb, .int (nI ny)])), (cb, .inl (cc1, 5, .inl fb))] s.heap := hP
  have hl := lv_entry ([.ref ro, .ref rp]) (n := 2) (Nat.le_of_ble_eq_true rfl)
  rw [lg_entry_eq]
  generalize (lg_sl ([.ref ro, .ref rp]) ++ List.replicate (2 - (lg_sl ([.ref ro, .ref rp])).length) Slot.unset).toArray = ls at hl ⊢
  have hl : lv_has ls 2 [(0, .ref ro), (1, .ref rp)] := hl
  refine lv_aload_n hx hb dX6_copyFrom_0 rfl (lv_at hl 0 rfl) ?_
  refine lv_aload_n hx hb dX6_copyFrom_1 rfl (lv_at hl 0 rfl) ?_
  refine va_get (D := (dC, dI)) (ci := 6) (v := .int 5) (C := RX6) (T := TX6) (N := 4) hx hb hts iw_r_copy_5_X6 hown hK hP 0 rfl rfl 1 (by decide) (hts (.fieldLink RX6 21 "ThriceCounted$Rows" "limit" "I") (by decide +kernel)) (fun _ h9 => h9) rfl dX6_copyFrom_2 ?_
  refine lv_aload_n hx hb dX6_copyFrom_5 rfl (lv_at hl 1 rfl) ?_
  refine va_get (D := (dC, dI)) (ci := 6) (v := .int (nI ny)) (C := RX6) (T := TX6) (N := 4) hx hb hts iw_r_copy_5_X6 hown hK hP 2 rfl rfl 3 (by decide) (hts (.fieldLink RX6 9 "ThriceCounted$Rows" "size" "I") (by decide +kernel)) (fun _ h9 => h9) rfl dX6_copyFrom_6 ?_
  refine va_mmin hx hb (hml.trans hl.1.symm) hown (hts (.methodLink RX6 50 Lib.Math.min.name) (by decide +kernel)) (hts (.static Lib.Math.min.name) (by decide +kernel)) (hts (.initialized "java/lang/Math") (by decide +kernel)) (hts (.code Lib.Math.min.name Lib.Math.min.code 2 (some .int)) (by decide +kernel)) (Nat.le_of_ble_eq_true rfl) (Nat.le_of_ble_eq_true rfl) (Nat.le_of_ble_eq_true rfl) (Nat.le_of_ble_eq_true rfl) dX6_copyFrom_9 ?_
  refine tz_i (nI ny) (tz_min (b := 5) (by omega) (by omega)) ?_
  refine va_put (D := (dC, dI)) (ci := 6) (v := .int (nI ny)) (ty := .int) (C := RX6) (T := TX6) (N := 4) hx hb hts iw_r_copy_5_X6 tyX6 tyX6_ok nmX6 hown hK hP hD hS 0 rfl rfl 3 (by decide) (hts (.fieldLink RX6 9 "ThriceCounted$Rows" "size" "I") (by decide +kernel)) (fun _ h9 => h9) rfl (by decide +kernel) rfl rfl (Nat.le_of_ble_eq_true rfl) dX6_copyFrom_12 (fun H locs hP hD hS => ?_)
  have hP : va_P (dC, dI) vwCl [(ro, .inr (6, [.int 1, .int 5, .ref ca, .int (nI ny)])), (ca, .inl (cc0, 5, .inl ff)), (rp, .inr (6, [.int 1, .int 5, .ref cb, .int (nI ny)])), (cb, .inl (cc1, 5, .inl fb))] H := hP
  have hD : va_D A [(ro, .inr (6, [.int 1, .int 5, .ref ca, .int (nI ny)])), (ca, .inl (cc0, 5, .inl ff)), (rp, .inr (6, [.int 1, .int 5, .ref cb, .int (nI ny)])), (cb, .inl (cc1, 5, .inl fb))] := hD
  refine lv_aload_n hx hb dX6_copyFrom_15 rfl (lv_at hl 1 rfl) ?_
  refine va_get (D := (dC, dI)) (ci := 6) (v := .ref cb) (C := RX6) (T := TX6) (N := 4) hx hb hts iw_r_copy_5_X6 hown hK hP 2 rfl rfl 2 (by decide) (hts (.fieldLink RX6 27 "ThriceCounted$Rows" "cells" "[I") (by decide +kernel)) (fun _ h9 => h9) rfl dX6_copyFrom_16 ?_
  refine lv_iconst (v := 0) hx hb dX6_copyFrom_19 (by decide) ?_
  refine lv_aload_n hx hb dX6_copyFrom_20 rfl (lv_at hl 0 rfl) ?_
  refine va_get (D := (dC, dI)) (ci := 6) (v := .ref ca) (C := RX6) (T := TX6) (N := 4) hx hb hts iw_r_copy_5_X6 hown hK hP 0 rfl rfl 2 (by decide) (hts (.fieldLink RX6 27 "ThriceCounted$Rows" "cells" "[I") (by decide +kernel)) (fun _ h9 => h9) rfl dX6_copyFrom_21 ?_
  refine lv_iconst (v := 0) hx hb dX6_copyFrom_24 (by decide) ?_
  refine lv_aload_n hx hb dX6_copyFrom_25 rfl (lv_at hl 0 rfl) ?_
  refine va_get (D := (dC, dI)) (ci := 6) (v := .ref ca) (C := RX6) (T := TX6) (N := 4) hx hb hts iw_r_copy_5_X6 hown hK hP 0 rfl rfl 2 (by decide) (hts (.fieldLink RX6 27 "ThriceCounted$Rows" "cells" "[I") (by decide +kernel)) (fun _ h9 => h9) rfl dX6_copyFrom_26 ?_
  refine va_alen (v := 5) hx hb hK hP 1 0 rfl rfl rfl dX6_copyFrom_29 ?_
  refine lv_aload_n hx hb dX6_copyFrom_30 rfl (lv_at hl 1 rfl) ?_
  refine va_get (D := (dC, dI)) (ci := 6) (v := .ref cb) (C := RX6) (T := TX6) (N := 4) hx hb hts iw_r_copy_5_X6 hown hK hP 2 rfl rfl 2 (by decide) (hts (.fieldLink RX6 27 "ThriceCounted$Rows" "cells" "[I") (by decide +kernel)) (fun _ h9 => h9) rfl dX6_copyFrom_31 ?_
  refine va_alen (v := 5) hx hb hK hP 3 1 rfl rfl rfl dX6_copyFrom_34 ?_
  refine va_mmin hx hb (hml.trans hl.1.symm) hown (hts (.methodLink RX6 50 Lib.Math.min.name) (by decide +kernel)) (hts (.static Lib.Math.min.name) (by decide +kernel)) (hts (.initialized "java/lang/Math") (by decide +kernel)) (hts (.code Lib.Math.min.name Lib.Math.min.code 2 (some .int)) (by decide +kernel)) (Nat.le_of_ble_eq_true rfl) (Nat.le_of_ble_eq_true rfl) (Nat.le_of_ble_eq_true rfl) (Nat.le_of_ble_eq_true rfl) dX6_copyFrom_35 ?_
  refine tz_i 5 (by decide) ?_
  refine va_copyi (ty := .int) hx hb (hml.trans hl.1.symm) hown (hts (.methodLink RX6 53 arraycopyName) (by decide +kernel)) (hts (.native arraycopyName) (by decide +kernel)) (hts (.static arraycopyName) (by decide +kernel)) (hts (.initialized "java/lang/System") (by decide +kernel)) hK hP hD hS 3 1 1 0 rfl rfl rfl rfl rfl (by decide) (by decide) (by decide) (by decide) (by decide) (fun _ _ => rfl) (Nat.le_of_ble_eq_true rfl) (Nat.le_of_ble_eq_true rfl) dX6_copyFrom_38 (fun H locs hP hD hS => ?_)
  generalize (va_cpy _ _ _ _ _) = f_1 at hP hD
  have hP : va_P (dC, dI) vwCl [(ro, .inr (6, [.int 1, .int 5, .ref ca, .int (nI ny)])), (ca, .inl (cc0, 5, .inl f_1)), (rp, .inr (6, [.int 1, .int 5, .ref cb, .int (nI ny)])), (cb, .inl (cc1, 5, .inl fb))] H := hP
  have hD : va_D A [(ro, .inr (6, [.int 1, .int 5, .ref ca, .int (nI ny)])), (ca, .inl (cc0, 5, .inl f_1)), (rp, .inr (6, [.int 1, .int 5, .ref cb, .int (nI ny)])), (cb, .inl (cc1, 5, .inl fb))] := hD
  have hP9 := hP.sub (ws' := [(ro, .inr (6, [.int 1, .int 5, .ref ca, .int (nI ny)])), (ca, .inl (cc0, 5, .inl f_1)), (rp, .inr (6, [.int 1, .int 5, .ref cb, .int (nI ny)])), (cb, .inl (cc1, 5, .inl fb))]) [0, 1, 2, 3] rfl
  have hD9 := hD.sub (ws' := [(ro, .inr (6, [.int 1, .int 5, .ref ca, .int (nI ny)])), (ca, .inl (cc0, 5, .inl f_1)), (rp, .inr (6, [.int 1, .int 5, .ref cb, .int (nI ny)])), (cb, .inl (cc1, 5, .inl fb))]) [0, 1, 2, 3] (by decide) rfl
  have hK9 := hK.sub (tys' := [(cc0, .int), (cc1, .int)]) [0, 1] rfl
  exact W.vret hx hb hr (fun t ht hW => ⟨⟨(), rfl, trivial, f_1, by rw [ht]; exact hP9, va_K.moved hW.alike hK9, hD9⟩, hS.F ht⟩) hS.2.2 dX6_copyFrom_41
set_option maxRecDepth 20000 in
theorem iw_r_grow_20_X6 : ∀ w ∈ wsX60, w ∈ wsX6_grow := by decide +kernel
set_option maxHeartbeats 4000000 in
set_option maxRecDepth 100000 in
theorem r_grow_20 (l : Launch) (dC : Nat → ClassId) (dI : Nat → Nat → Nat) (ro : Nat) (ca : Nat) (nz : Nat) (sz : Nat) (hz : nz ≤ 5) : Met l yX6_grow wsX6_grow ({ frames := 1, cells := 0, slots := 0, locals := 20 }) (va_Pc [.ref ro] (fun U => U.heap.size = sz ∧ va_P (dC, dI) vwCl [(ro, .inr (6, [.int 4, .int 5, .ref ca, .int (nI nz)]))] U.heap ∧ va_K (dC, dI) vwCl [] U ∧ va_D (fun _ => True) [(ro, .inr (6, [.int 4, .int 5, .ref ca, .int (nI nz)]))])) (va_Qi (fun (r : Int32) (_ : Unit) => True) (fun _ t => ∃ (zg : Nat), (zg ≤ 5) ∧ va_P (dC, dI) vwCl [(ro, .inr (6, [.int 4, .int 5, .ref ca, .int (nI zg)]))] t.heap ∧ va_K (dC, dI) vwCl [] t ∧ va_D (va_A [(ro, .inr (6, [.int 4, .int 5, .ref ca, .int (nI nz)]))] sz) [(ro, .inr (6, [.int 4, .int 5, .ref ca, .int (nI zg)]))]) (va_A [(ro, .inr (6, [.int 4, .int 5, .ref ca, .int (nI nz)]))] sz)) 0 0 (va_A [(ro, .inr (6, [.int 4, .int 5, .ref ca, .int (nI nz)]))] sz) := by
  refine Met.ofW (cc := cX6_grow) (maxL := 1) (ret := (some .int)) (by decide) rfl ?_
  intro p e s m args below meth c s₁ B hml hv
  obtain ⟨rfl, hsz, hP, hK, hD0⟩ := hv
  have hx := B.exec
  have hb := B.bytes
  have hr := B.returns
  have hts := atoms_spec (ws := wsX6_grow) B.pre
  have hown : s.vm.findClass RX6 = some m.cls := findClass_of_methodNamed B.named
  have hlocks := B.notSynchronized
  subst hsz
  have hD := hD0.self (sz := s.heap.size)
  generalize hAe : va_A [(ro, .inr (6, [.int 4, .int 5, .ref ca, .int (nI nz)]))] s.heap.size = A at hD ⊢
  have hA : ∀ q : Nat, s.heap.size ≤ q → A q := fun q h => by rw [← hAe]; exact Or.inr h
  have hS : va_S A s.heap s.heap [] := va_S.rf
  have hP : va_P (dC, dI) vwCl [(ro, .inr (6, [.int 4, .int 5, .ref ca, .int (nI nz)]))] s.heap := hP
  have hl := lv_entry ([.ref ro]) (n := 1) (Nat.le_of_ble_eq_true rfl)
  rw [lg_entry_eq]
  generalize (lg_sl ([.ref ro]) ++ List.replicate (1 - (lg_sl ([.ref ro])).length) Slot.unset).toArray = ls at hl ⊢
  have hl : lv_has ls 1 [(0, .ref ro)] := hl
  refine lv_aload_n hx hb dX6_grow_0 rfl (lv_at hl 0 rfl) ?_
  have hPc_1 := hP.sub (ws' := [(ro, .inr (6, [.int 4, .int 5, .ref ca, .int (nI nz)]))]) [0] rfl
  have hKc_2 := hK.sub (tys' := []) [] rfl
  refine vp_callSi (va_Run.run (va_runV (As := []) (rest := []) ⟨hx, hb, hml, hown, hts⟩ (r_isFull_20 l dC dI ro ca nz hz) (cwV 0 hts gX6_grow_X6_isFull rfl rfl rfl (by decide +kernel) ⟨Nat.le_of_ble_eq_true rfl, Nat.le_of_ble_eq_true rfl⟩) ⟨fun a U g mk q => by obtain ⟨q0, qP, qK⟩ := q; exact ⟨q0, qP, va_K.moved (u := U) (U := U.calling g mk a) (Vm.Alike.refl U.vm) qK⟩, va_recv hK hP (ci := 6) (q0 := 0) rfl rfl, fun U hU hW => ⟨rfl, by rw [hU]; exact hPc_1, va_K.moved hW.alike hKc_2⟩⟩ rfl rfl hl.1 rfl (lv_room (Nat.le_of_ble_eq_true rfl)) dX6_grow_1 ⟨Nat.le_of_ble_eq_true rfl, Nat.le_of_ble_eq_true rfl⟩)) (fun r_3 hw_4 => ?_)
  by_cases hc_5 : 5 ≤ nz
  · obtain rfl : 1 = r_3 := (hw_4.trans (if_pos hc_5)).symm
    refine lv_if_eq (tgt := 10) hx hb dX6_grow_4 (by decide) (fun c_6 => ?_) (fun c_6 => ?_)
    · exact absurd c_6 (by decide)
    · refine lv_bipush (v := (-4)) hx hb dX6_grow_7 (by decide) ?_
      have hP9 := hP.sub (ws' := [(ro, .inr (6, [.int 4, .int 5, .ref ca, .int (nI nz)]))]) [0] rfl
      have hD9 := hD.sub (ws' := [(ro, .inr (6, [.int 4, .int 5, .ref ca, .int (nI nz)]))]) [0] (by decide) rfl
      have hK9 := hK.sub (tys' := []) [] rfl
      exact W.iret (v := (-4)) hx hb hr (fun t ht hW => ⟨⟨(-4), (), rfl, trivial, nz, hz, by rw [ht]; exact hP9, va_K.moved hW.alike hK9, hD9⟩, hS.F ht⟩) hS.2.2 dX6_grow_9
  · obtain rfl : 0 = r_3 := (hw_4.trans (if_neg hc_5)).symm
    refine lv_if_eq (tgt := 10) hx hb dX6_grow_4 (by decide) (fun c_7 => ?_) (fun c_7 => ?_)
    · refine lv_aload_n hx hb dX6_grow_10 rfl (lv_at hl 0 rfl) ?_
      refine lv_dup hx hb dX6_grow_11 rfl ?_
      refine va_get (D := (dC, dI)) (ci := 6) (v := .int (nI nz)) (C := RX6) (T := TX6) (N := 4) hx hb hts iw_r_grow_20_X6 hown hK hP 0 rfl rfl 3 (by decide) (hts (.fieldLink RX6 9 "ThriceCounted$Rows" "size" "I") (by decide +kernel)) (fun _ h9 => h9) rfl dX6_grow_12 ?_
      refine lv_iconst (v := 1) hx hb dX6_grow_15 (by decide) ?_
      refine lv_iadd hx hb dX6_grow_16 ?_
      refine tz_i (nI (nz + 1)) (nI_add nz 1) ?_
      refine va_put (D := (dC, dI)) (ci := 6) (v := .int (nI (nz + 1))) (ty := .int) (C := RX6) (T := TX6) (N := 4) hx hb hts iw_r_grow_20_X6 tyX6 tyX6_ok nmX6 hown hK hP hD hS 0 rfl rfl 3 (by decide) (hts (.fieldLink RX6 9 "ThriceCounted$Rows" "size" "I") (by decide +kernel)) (fun _ h9 => h9) rfl (by decide +kernel) rfl rfl (Nat.le_of_ble_eq_true rfl) dX6_grow_17 (fun H locs hP hD hS => ?_)
      have hP : va_P (dC, dI) vwCl [(ro, .inr (6, [.int 4, .int 5, .ref ca, .int (nI (nz + 1))]))] H := hP
      have hD : va_D A [(ro, .inr (6, [.int 4, .int 5, .ref ca, .int (nI (nz + 1))]))] := hD
      refine lv_aload_n hx hb dX6_grow_20 rfl (lv_at hl 0 rfl) ?_
      refine va_get (D := (dC, dI)) (ci := 6) (v := .int (nI (nz + 1))) (C := RX6) (T := TX6) (N := 4) hx hb hts iw_r_grow_20_X6 hown hK hP 0 rfl rfl 3 (by decide) (hts (.fieldLink RX6 9 "ThriceCounted$Rows" "size" "I") (by decide +kernel)) (fun _ h9 => h9) rfl dX6_grow_21 ?_
      refine lv_iconst (v := 1) hx hb dX6_grow_24 (by decide) ?_
      refine lv_isub hx hb dX6_grow_25 ?_
      have hP9 := hP.sub (ws' := [(ro, .inr (6, [.int 4, .int 5, .ref ca, .int (nI (nz + 1))]))]) [0] rfl
      have hD9 := hD.sub (ws' := [(ro, .inr (6, [.int 4, .int 5, .ref ca, .int (nI (nz + 1))]))]) [0] (by decide) rfl
      have hK9 := hK.sub (tys' := []) [] rfl
      exact W.iret (v := ((nI (nz + 1)) - 1)) hx hb hr (fun t ht hW => ⟨⟨((nI (nz + 1)) - 1), (), rfl, trivial, (nz + 1), by omega, by rw [ht]; exact hP9, va_K.moved hW.alike hK9, hD9⟩, hS.F ht⟩) hS.2.2 dX6_grow_26
    · exact absurd c_7 (by decide)
set_option maxRecDepth 20000 in
theorem iw_r_remove_20_X6 : ∀ w ∈ wsX60, w ∈ wsX6_remove := by decide +kernel
set_option maxHeartbeats 4000000 in
set_option maxRecDepth 100000 in
theorem r_remove_20 (l : Launch) (dC : Nat → ClassId) (dI : Nat → Nat → Nat) (ro : Nat) (ca : Nat) (nz : Nat) (cc0 : ClassId) (ff : Nat → Int32) (na : Int32) (sz : Nat) (hz : nz ≤ 5) : Met l yX6_remove wsX6_remove ({ frames := 2, cells := 0, slots := 0, locals := 45 }) (va_Pc [.ref ro, .int na] (fun U => U.heap.size = sz ∧ va_P (dC, dI) vwCl [(ro, .inr (6, [.int 4, .int 5, .ref ca, .int (nI nz)])), (ca, .inl (cc0, 20, .inl ff))] U.heap ∧ va_K (dC, dI) vwCl [(cc0, .int)] U ∧ va_D (fun _ => True) [(ro, .inr (6, [.int 4, .int 5, .ref ca, .int (nI nz)])), (ca, .inl (cc0, 20, .inl ff))])) (va_Qv (fun (_ : Unit) => True) (fun _ t => ∃ (zg : Nat) (fg : Nat → Int32), (zg ≤ 5) ∧ va_P (dC, dI) vwCl [(ro, .inr (6, [.int 4, .int 5, .ref ca, .int (nI zg)])), (ca, .inl (cc0, 20, .inl fg))] t.heap ∧ va_K (dC, dI) vwCl [(cc0, .int)] t ∧ va_D (va_A [(ro, .inr (6, [.int 4, .int 5, .ref ca, .int (nI nz)])), (ca, .inl (cc0, 20, .inl ff))] sz) [(ro, .inr (6, [.int 4, .int 5, .ref ca, .int (nI zg)])), (ca, .inl (cc0, 20, .inl fg))]) (va_A [(ro, .inr (6, [.int 4, .int 5, .ref ca, .int (nI nz)])), (ca, .inl (cc0, 20, .inl ff))] sz)) 0 0 (va_A [(ro, .inr (6, [.int 4, .int 5, .ref ca, .int (nI nz)])), (ca, .inl (cc0, 20, .inl ff))] sz) := by
  refine Met.ofW (cc := cX6_remove) (maxL := 4) (ret := none) (by decide) rfl ?_
  intro p e s m args below meth c s₁ B hml hv
  obtain ⟨rfl, hsz, hP, hK, hD0⟩ := hv
  have hx := B.exec
  have hb := B.bytes
  have hr := B.returns
  have hts := atoms_spec (ws := wsX6_remove) B.pre
  have hown : s.vm.findClass RX6 = some m.cls := findClass_of_methodNamed B.named
  have hlocks := B.notSynchronized
  subst hsz
  have hD := hD0.self (sz := s.heap.size)
  generalize hAe : va_A [(ro, .inr (6, [.int 4, .int 5, .ref ca, .int (nI nz)])), (ca, .inl (cc0, 20, .inl ff))] s.heap.size = A at hD ⊢
  have hA : ∀ q : Nat, s.heap.size ≤ q → A q := fun q h => by rw [← hAe]; exact Or.inr h
  have hS : va_S A s.heap s.heap [] := va_S.rf
  have hP : va_P (dC, dI) vwCl [(ro, .inr (6, [.int 4, .int 5, .ref ca, .int (nI nz)])), (ca, .inl (cc0, 20, .inl ff))] s.heap := hP
  have hl := lv_entry ([.ref ro, .int na]) (n := 4) (Nat.le_of_ble_eq_true rfl)
  rw [lg_entry_eq]
  generalize (lg_sl ([.ref ro, .int na]) ++ List.replicate (4 - (lg_sl ([.ref ro, .int na])).length) Slot.unset).toArray = ls at hl ⊢
  have hl : lv_has ls 4 [(0, .ref ro), (1, .int na)] := hl
  refine lv_aload_n hx hb dX6_remove_0 rfl (lv_at hl 0 rfl) ?_
  refine lv_iload_n hx hb dX6_remove_1 rfl (lv_at hl 1 rfl) ?_
  have hPc_1 := hP.sub (ws' := [(ro, .inr (6, [.int 4, .int 5, .ref ca, .int (nI nz)]))]) [0] rfl
  have hKc_2 := hK.sub (tys' := []) [] rfl
  refine vp_callSi (va_Run.run (va_runV (As := [.int na]) (rest := []) ⟨hx, hb, hml, hown, hts⟩ (r_has_20 l dC dI ro ca nz na) (cwV 1 hts gX6_remove_X6_has rfl rfl rfl (by decide +kernel) ⟨Nat.le_of_ble_eq_true rfl, Nat.le_of_ble_eq_true rfl⟩) ⟨fun a U g mk q => by obtain ⟨q0, qP, qK⟩ := q; exact ⟨q0, qP, va_K.moved (u := U) (U := U.calling g mk a) (Vm.Alike.refl U.vm) qK⟩, va_recv hK hP (ci := 6) (q0 := 0) rfl rfl, fun U hU hW => ⟨rfl, by rw [hU]; exact hPc_1, va_K.moved hW.alike hKc_2⟩⟩ rfl rfl hl.1 rfl (lv_room (Nat.le_of_ble_eq_true rfl)) dX6_remove_2 ⟨Nat.le_of_ble_eq_true rfl, Nat.le_of_ble_eq_true rfl⟩)) (fun r_3 hw_4 => ?_)
  by_cases hc_5 : 0 ≤ na ∧ na < nI nz
  · obtain rfl : 1 = r_3 := (hw_4.trans (if_pos hc_5)).symm
    obtain ⟨j1, hj1, rfl⟩ := tz_belowI hc_5 (by omega)
    refine lv_if_ne (tgt := 9) hx hb dX6_remove_5 (by decide) (fun c_6 => ?_) (fun c_6 => ?_)
    · refine lv_iload_n hx hb dX6_remove_9 rfl (lv_at hl 1 rfl) ?_
      refine lv_istore_n (lv' := [(2, .int (nI j1)), (0, .ref ro), (1, .int (nI j1))]) hx hb dX6_remove_10 rfl hl (by decide) rfl (fun ls hl => ?_)
      refine tz_while (σ := Nat × (Nat → Int32) × Heap × List Loc × Array Slot) (fun x => W p l e _ s m _ below meth c x.2.2.1 x.2.2.2.1 _ _ _ (F0 m 11 x.2.2.2.2 [])) (fun x => x.1 ≤ nz ∧ va_P (dC, dI) vwCl [(ro, .inr (6, [.int 4, .int 5, .ref ca, .int (nI nz)])), (ca, .inl (cc0, 20, .inl x.2.1))] x.2.2.1 ∧ va_D A [(ro, .inr (6, [.int 4, .int 5, .ref ca, .int (nI nz)])), (ca, .inl (cc0, 20, .inl x.2.1))] ∧ va_S A s.heap x.2.2.1 x.2.2.2.1 ∧ lv_has x.2.2.2.2 4 [(2, .int (nI x.1)), (0, .ref ro), (1, .int (nI j1))]) (fun x => nz - x.1) ?_ (j1, ff, s.heap, [], ls) ⟨by omega, hP, hD, hS, hl⟩
      rintro ⟨ii, fq, H, locs, ls⟩ ⟨hi_7_0, hP, hD, hS, hl⟩ ih_8
      dsimp only at hi_7_0 hP hD hS hl ih_8 ⊢
      refine lv_iload_n hx hb dX6_remove_11 rfl (lv_at hl 0 rfl) ?_
      refine lv_aload_n hx hb dX6_remove_12 rfl (lv_at hl 1 rfl) ?_
      refine va_get (D := (dC, dI)) (ci := 6) (v := .int (nI nz)) (C := RX6) (T := TX6) (N := 4) hx hb hts iw_r_remove_20_X6 hown hK hP 0 rfl rfl 3 (by decide) (hts (.fieldLink RX6 9 "ThriceCounted$Rows" "size" "I") (by decide +kernel)) (fun _ h9 => h9) rfl dX6_remove_13 ?_
      refine lv_iconst (v := 1) hx hb dX6_remove_16 (by decide) ?_
      refine lv_isub hx hb dX6_remove_17 ?_
      refine tz_i (nI (nz - 1)) (pk_sub (a := nz) (b := 1) (by omega)) ?_
      refine lv_icmp_ge (tgt := 57) hx hb dX6_remove_18 (by decide) (fun c_9 => ?_) (fun c_9 => ?_)
      · have hn_10 : (nz - 1) ≤ ii := (nI_leI (a := (nz - 1)) (b := ii) (by omega) (by omega)).mp c_9
        refine lv_aload_n hx hb dX6_remove_57 rfl (lv_at hl 1 rfl) ?_
        refine lv_dup hx hb dX6_remove_58 rfl ?_
        refine va_get (D := (dC, dI)) (ci := 6) (v := .int (nI nz)) (C := RX6) (T := TX6) (N := 4) hx hb hts iw_r_remove_20_X6 hown hK hP 0 rfl rfl 3 (by decide) (hts (.fieldLink RX6 9 "ThriceCounted$Rows" "size" "I") (by decide +kernel)) (fun _ h9 => h9) rfl dX6_remove_59 ?_
        refine lv_iconst (v := 1) hx hb dX6_remove_62 (by decide) ?_
        refine lv_isub hx hb dX6_remove_63 ?_
        refine tz_i (nI (nz - 1)) (pk_sub (a := nz) (b := 1) (by omega)) ?_
        refine va_put (D := (dC, dI)) (ci := 6) (v := .int (nI (nz - 1))) (ty := .int) (C := RX6) (T := TX6) (N := 4) hx hb hts iw_r_remove_20_X6 tyX6 tyX6_ok nmX6 hown hK hP hD hS 0 rfl rfl 3 (by decide) (hts (.fieldLink RX6 9 "ThriceCounted$Rows" "size" "I") (by decide +kernel)) (fun _ h9 => h9) rfl (by decide +kernel) rfl rfl (Nat.le_of_ble_eq_true rfl) dX6_remove_64 (fun H locs hP hD hS => ?_)
        have hP : va_P (dC, dI) vwCl [(ro, .inr (6, [.int 4, .int 5, .ref ca, .int (nI (nz - 1))])), (ca, .inl (cc0, 20, .inl fq))] H := hP
        have hD : va_D A [(ro, .inr (6, [.int 4, .int 5, .ref ca, .int (nI (nz - 1))])), (ca, .inl (cc0, 20, .inl fq))] := hD
        have hP9 := hP.sub (ws' := [(ro, .inr (6, [.int 4, .int 5, .ref ca, .int (nI (nz - 1))])), (ca, .inl (cc0, 20, .inl fq))]) [0, 1] rfl
        have hD9 := hD.sub (ws' := [(ro, .inr (6, [.int 4, .int 5, .ref ca, .int (nI (nz - 1))])), (ca, .inl (cc0, 20, .inl fq))]) [0, 1] (by decide) rfl
        have hK9 := hK.sub (tys' := [(cc0, .int)]) [0] rfl
        exact W.vret hx hb hr (fun t ht hW => ⟨⟨(), rfl, trivial, (nz - 1), fq, by omega, by rw [ht]; exact hP9, va_K.moved hW.alike hK9, hD9⟩, hS.F ht⟩) hS.2.2 dX6_remove_67
      · have hn_11 : ¬ (nz - 1) ≤ ii := fun q => c_9 ((nI_leI (a := (nz - 1)) (b := ii) (by omega) (by omega)).mpr q)
        refine lv_iconst (v := 0) hx hb dX6_remove_21 (by decide) ?_
        refine lv_istore_n (lv' := [(3, .int 0), (2, .int (nI ii)), (0, .ref ro), (1, .int (nI j1))]) hx hb dX6_remove_22 rfl hl (by decide) rfl (fun ls hl => ?_)
        refine lv_iload_n hx hb dX6_remove_23 rfl (lv_at hl 0 rfl) ?_
        refine lv_aload_n hx hb dX6_remove_24 rfl (lv_at hl 2 rfl) ?_
        refine va_get (D := (dC, dI)) (ci := 6) (v := .int 4) (C := RX6) (T := TX6) (N := 4) hx hb hts iw_r_remove_20_X6 hown hK hP 0 rfl rfl 0 (by decide) (hts (.fieldLink RX6 24 "ThriceCounted$Rows" "width" "I") (by decide +kernel)) (fun _ h9 => h9) rfl dX6_remove_25 ?_
        refine lv_icmp_ge (tgt := 51) hx hb dX6_remove_28 (by decide) (fun c_12 => ?_) (fun c_12 => ?_)
        · exact absurd c_12 (by decide)
        · refine lv_aload_n hx hb dX6_remove_31 rfl (lv_at hl 2 rfl) ?_
          refine lv_iload_n hx hb dX6_remove_32 rfl (lv_at hl 1 rfl) ?_
          refine lv_iload_n hx hb dX6_remove_33 rfl (lv_at hl 0 rfl) ?_
          refine lv_aload_n hx hb dX6_remove_34 rfl (lv_at hl 2 rfl) ?_
          refine lv_iload_n hx hb dX6_remove_35 rfl (lv_at hl 1 rfl) ?_
          refine lv_iconst (v := 1) hx hb dX6_remove_36 (by decide) ?_
          refine lv_iadd hx hb dX6_remove_37 ?_
          refine tz_i (nI (ii + 1)) (nI_add ii 1) ?_
          refine lv_iload_n hx hb dX6_remove_38 rfl (lv_at hl 0 rfl) ?_
          have hPc_13 := hP.sub (ws' := [(ro, .inr (6, [.int 4, .int 5, .ref ca, .int (nI nz)])), (ca, .inl (cc0, 20, .inl fq))]) [0, 1] rfl
          have hKc_14 := hK.sub (tys' := [(cc0, .int)]) [0] rfl
          refine vp_callSi (va_Run.run (va_runV (As := [.int (nI (ii + 1)), .int 0]) (rest := [.int 0, .int (nI ii), .ref ro]) ⟨hx, hb, hml, hown, hts⟩ (r_get_20 l dC dI ro ca nz cc0 fq (nI (ii + 1)) 0 hz) (cwV 2 hts gX6_remove_X6_get rfl rfl rfl (by decide +kernel) ⟨Nat.le_of_ble_eq_true rfl, Nat.le_of_ble_eq_true rfl⟩) ⟨fun a U g mk q => by obtain ⟨q0, qP, qK⟩ := q; exact ⟨q0, qP, va_K.moved (u := U) (U := U.calling g mk a) (Vm.Alike.refl U.vm) qK⟩, va_recv hK hP (ci := 6) (q0 := 0) rfl rfl, fun U hU hW => ⟨rfl, by rw [hU]; exact hPc_13, va_K.moved hW.alike hKc_14⟩⟩ rfl rfl hl.1 rfl (lv_room (Nat.le_of_ble_eq_true rfl)) dX6_remove_39 ⟨Nat.le_of_ble_eq_true rfl, Nat.le_of_ble_eq_true rfl⟩)) (fun r_15 hw_16 => ?_)
          have hPc := hP.sub (ws' := [(ro, .inr (6, [.int 4, .int 5, .ref ca, .int (nI nz)])), (ca, .inl (cc0, 20, .inl fq))]) [0, 1] rfl
          have hDc := hD.sub (ws' := [(ro, .inr (6, [.int 4, .int 5, .ref ca, .int (nI nz)])), (ca, .inl (cc0, 20, .inl fq))]) [0, 1] (by decide) rfl
          have hKc := hK.sub (tys' := [(cc0, .int)]) [0] rfl
          have hFc := va_free (wc := [(ro, .inr (6, [.int 4, .int 5, .ref ca, .int (nI nz)])), (ca, .inl (cc0, 20, .inl fq))]) hD hS hA [0, 1] rfl
          refine va_callv (va_runV (As := [.int (nI ii), .int 0, .int r_15]) (rest := []) ⟨hx, hb, hml, hown, hts⟩ (r_put_20 l dC dI ro ca nz cc0 fq (nI ii) 0 r_15 H.size hz) (cwV 3 hts gX6_remove_X6_put rfl rfl rfl (by decide +kernel) ⟨Nat.le_of_ble_eq_true rfl, Nat.le_of_ble_eq_true rfl⟩) ⟨fun a U g mk q => by obtain ⟨q0, q1, qP, qK, qD⟩ := q; exact ⟨q0, q1, qP, va_K.moved (u := U) (U := U.calling g mk a) (Vm.Alike.refl U.vm) qK, qD⟩, va_recv hK hP (ci := 6) (q0 := 0) rfl rfl, fun U hU hW => ⟨rfl, by rw [hU], by rw [hU]; exact hPc, va_K.moved hW.alike hKc, hDc.weaken (fun _ _ _ _ => trivial)⟩⟩ rfl rfl hl.1 rfl (lv_room (Nat.le_of_ble_eq_true rfl)) dX6_remove_42 ⟨Nat.le_of_ble_eq_true rfl, Nat.le_of_ble_eq_true rfl⟩) hS (fun q _ h => hFc q h) hFc (fun u_ t H1 locs ht hvm hw_18 hB hz1 hk1 hS => ?_)
          obtain ⟨fg_19, hP1, hK1, hD1⟩ := hB
          rw [ht] at hP1
          have hK1 := va_K.moved hvm.symm hK1
          obtain ⟨hP, hD⟩ := va_join (wr := []) (w1 := [(ro, .inr (6, [.int 4, .int 5, .ref ca, .int (nI nz)])), (ca, .inl (cc0, 20, .inl fg_19))]) hP hD [0, 1] [] rfl rfl (by decide) (by decide) hk1 hFc hP1 hD1
          generalize H1 = H at hP hS ⊢
          have hP : va_P (dC, dI) vwCl [(ro, .inr (6, [.int 4, .int 5, .ref ca, .int (nI nz)])), (ca, .inl (cc0, 20, .inl fg_19))] H := hP
          have hD : va_D A [(ro, .inr (6, [.int 4, .int 5, .ref ca, .int (nI nz)])), (ca, .inl (cc0, 20, .inl fg_19))] := hD
          refine lv_iinc (v := 1) (lv' := [(3, .int 1), (2, .int (nI ii)), (0, .ref ro), (1, .int (nI j1))]) hx hb dX6_remove_45 hl (k := 0) rfl (by decide) (by decide) rfl (fun ls hl => ?_)
          refine lv_goto (tgt := 23) hx hb dX6_remove_48 (by decide) ?_
          refine lv_iload_n hx hb dX6_remove_23 rfl (lv_at hl 0 rfl) ?_
          refine lv_aload_n hx hb dX6_remove_24 rfl (lv_at hl 2 rfl) ?_
          refine va_get (D := (dC, dI)) (ci := 6) (v := .int 4) (C := RX6) (T := TX6) (N := 4) hx hb hts iw_r_remove_20_X6 hown hK hP 0 rfl rfl 0 (by decide) (hts (.fieldLink RX6 24 "ThriceCounted$Rows" "width" "I") (by decide +kernel)) (fun _ h9 => h9) rfl dX6_remove_25 ?_
          refine lv_icmp_ge (tgt := 51) hx hb dX6_remove_28 (by decide) (fun c_20 => ?_) (fun c_20 => ?_)
          · exact absurd c_20 (by decide)
          · refine lv_aload_n hx hb dX6_remove_31 rfl (lv_at hl 2 rfl) ?_
            refine lv_iload_n hx hb dX6_remove_32 rfl (lv_at hl 1 rfl) ?_
            refine lv_iload_n hx hb dX6_remove_33 rfl (lv_at hl 0 rfl) ?_
            refine lv_aload_n hx hb dX6_remove_34 rfl (lv_at hl 2 rfl) ?_
            refine lv_iload_n hx hb dX6_remove_35 rfl (lv_at hl 1 rfl) ?_
            refine lv_iconst (v := 1) hx hb dX6_remove_36 (by decide) ?_
            refine lv_iadd hx hb dX6_remove_37 ?_
            refine tz_i (nI (ii + 1)) (nI_add ii 1) ?_
            refine lv_iload_n hx hb dX6_remove_38 rfl (lv_at hl 0 rfl) ?_
            have hPc_21 := hP.sub (ws' := [(ro, .inr (6, [.int 4, .int 5, .ref ca, .int (nI nz)])), (ca, .inl (cc0, 20, .inl fg_19))]) [0, 1] rfl
            have hKc_22 := hK.sub (tys' := [(cc0, .int)]) [0] rfl
            refine vp_callSi (va_Run.run (va_runV (As := [.int (nI (ii + 1)), .int 1]) (rest := [.int 1, .int (nI ii), .ref ro]) ⟨hx, hb, hml, hown, hts⟩ (r_get_20 l dC dI ro ca nz cc0 fg_19 (nI (ii + 1)) 1 hz) (cwV 2 hts gX6_remove_X6_get rfl rfl rfl (by decide +kernel) ⟨Nat.le_of_ble_eq_true rfl, Nat.le_of_ble_eq_true rfl⟩) ⟨fun a U g mk q => by obtain ⟨q0, qP, qK⟩ := q; exact ⟨q0, qP, va_K.moved (u := U) (U := U.calling g mk a) (Vm.Alike.refl U.vm) qK⟩, va_recv hK hP (ci := 6) (q0 := 0) rfl rfl, fun U hU hW => ⟨rfl, by rw [hU]; exact hPc_21, va_K.moved hW.alike hKc_22⟩⟩ rfl rfl hl.1 rfl (lv_room (Nat.le_of_ble_eq_true rfl)) dX6_remove_39 ⟨Nat.le_of_ble_eq_true rfl, Nat.le_of_ble_eq_true rfl⟩)) (fun r_23 hw_24 => ?_)
            have hPc := hP.sub (ws' := [(ro, .inr (6, [.int 4, .int 5, .ref ca, .int (nI nz)])), (ca, .inl (cc0, 20, .inl fg_19))]) [0, 1] rfl
            have hDc := hD.sub (ws' := [(ro, .inr (6, [.int 4, .int 5, .ref ca, .int (nI nz)])), (ca, .inl (cc0, 20, .inl fg_19))]) [0, 1] (by decide) rfl
            have hKc := hK.sub (tys' := [(cc0, .int)]) [0] rfl
            have hFc := va_free (wc := [(ro, .inr (6, [.int 4, .int 5, .ref ca, .int (nI nz)])), (ca, .inl (cc0, 20, .inl fg_19))]) hD hS hA [0, 1] rfl
            refine va_callv (va_runV (As := [.int (nI ii), .int 1, .int r_23]) (rest := []) ⟨hx, hb, hml, hown, hts⟩ (r_put_20 l dC dI ro ca nz cc0 fg_19 (nI ii) 1 r_23 H.size hz) (cwV 3 hts gX6_remove_X6_put rfl rfl rfl (by decide +kernel) ⟨Nat.le_of_ble_eq_true rfl, Nat.le_of_ble_eq_true rfl⟩) ⟨fun a U g mk q => by obtain ⟨q0, q1, qP, qK, qD⟩ := q; exact ⟨q0, q1, qP, va_K.moved (u := U) (U := U.calling g mk a) (Vm.Alike.refl U.vm) qK, qD⟩, va_recv hK hP (ci := 6) (q0 := 0) rfl rfl, fun U hU hW => ⟨rfl, by rw [hU], by rw [hU]; exact hPc, va_K.moved hW.alike hKc, hDc.weaken (fun _ _ _ _ => trivial)⟩⟩ rfl rfl hl.1 rfl (lv_room (Nat.le_of_ble_eq_true rfl)) dX6_remove_42 ⟨Nat.le_of_ble_eq_true rfl, Nat.le_of_ble_eq_true rfl⟩) hS (fun q _ h => hFc q h) hFc (fun u_ t H1 locs ht hvm hw_26 hB hz1 hk1 hS => ?_)
            obtain ⟨fg_27, hP1, hK1, hD1⟩ := hB
            rw [ht] at hP1
            have hK1 := va_K.moved hvm.symm hK1
            obtain ⟨hP, hD⟩ := va_join (wr := []) (w1 := [(ro, .inr (6, [.int 4, .int 5, .ref ca, .int (nI nz)])), (ca, .inl (cc0, 20, .inl fg_27))]) hP hD [0, 1] [] rfl rfl (by decide) (by decide) hk1 hFc hP1 hD1
            generalize H1 = H at hP hS ⊢
            have hP : va_P (dC, dI) vwCl [(ro, .inr (6, [.int 4, .int 5, .ref ca, .int (nI nz)])), (ca, .inl (cc0, 20, .inl fg_27))] H := hP
            have hD : va_D A [(ro, .inr (6, [.int 4, .int 5, .ref ca, .int (nI nz)])), (ca, .inl (cc0, 20, .inl fg_27))] := hD
            refine lv_iinc (v := 2) (lv' := [(3, .int 2), (2, .int (nI ii)), (0, .ref ro), (1, .int (nI j1))]) hx hb dX6_remove_45 hl (k := 0) rfl (by decide) (by decide) rfl (fun ls hl => ?_)
            refine lv_goto (tgt := 23) hx hb dX6_remove_48 (by decide) ?_
            refine lv_iload_n hx hb dX6_remove_23 rfl (lv_at hl 0 rfl) ?_
            refine lv_aload_n hx hb dX6_remove_24 rfl (lv_at hl 2 rfl) ?_
            refine va_get (D := (dC, dI)) (ci := 6) (v := .int 4) (C := RX6) (T := TX6) (N := 4) hx hb hts iw_r_remove_20_X6 hown hK hP 0 rfl rfl 0 (by decide) (hts (.fieldLink RX6 24 "ThriceCounted$Rows" "width" "I") (by decide +kernel)) (fun _ h9 => h9) rfl dX6_remove_25 ?_
            refine lv_icmp_ge (tgt := 51) hx hb dX6_remove_28 (by decide) (fun c_28 => ?_) (fun c_28 => ?_)
            · exact absurd c_28 (by decide)
            · refine lv_aload_n hx hb dX6_remove_31 rfl (lv_at hl 2 rfl) ?_
              refine lv_iload_n hx hb dX6_remove_32 rfl (lv_at hl 1 rfl) ?_
              refine lv_iload_n hx hb dX6_remove_33 rfl (lv_at hl 0 rfl) ?_
              refine lv_aload_n hx hb dX6_remove_34 rfl (lv_at hl 2 rfl) ?_
              refine lv_iload_n hx hb dX6_remove_35 rfl (lv_at hl 1 rfl) ?_
              refine lv_iconst (v := 1) hx hb dX6_remove_36 (by decide) ?_
              refine lv_iadd hx hb dX6_remove_37 ?_
              refine tz_i (nI (ii + 1)) (nI_add ii 1) ?_
              refine lv_iload_n hx hb dX6_remove_38 rfl (lv_at hl 0 rfl) ?_
              have hPc_29 := hP.sub (ws' := [(ro, .inr (6, [.int 4, .int 5, .ref ca, .int (nI nz)])), (ca, .inl (cc0, 20, .inl fg_27))]) [0, 1] rfl
              have hKc_30 := hK.sub (tys' := [(cc0, .int)]) [0] rfl
              refine vp_callSi (va_Run.run (va_runV (As := [.int (nI (ii + 1)), .int 2]) (rest := [.int 2, .int (nI ii), .ref ro]) ⟨hx, hb, hml, hown, hts⟩ (r_get_20 l dC dI ro ca nz cc0 fg_27 (nI (ii + 1)) 2 hz) (cwV 2 hts gX6_remove_X6_get rfl rfl rfl (by decide +kernel) ⟨Nat.le_of_ble_eq_true rfl, Nat.le_of_ble_eq_true rfl⟩) ⟨fun a U g mk q => by obtain ⟨q0, qP, qK⟩ := q; exact ⟨q0, qP, va_K.moved (u := U) (U := U.calling g mk a) (Vm.Alike.refl U.vm) qK⟩, va_recv hK hP (ci := 6) (q0 := 0) rfl rfl, fun U hU hW => ⟨rfl, by rw [hU]; exact hPc_29, va_K.moved hW.alike hKc_30⟩⟩ rfl rfl hl.1 rfl (lv_room (Nat.le_of_ble_eq_true rfl)) dX6_remove_39 ⟨Nat.le_of_ble_eq_true rfl, Nat.le_of_ble_eq_true rfl⟩)) (fun r_31 hw_32 => ?_)
              have hPc := hP.sub (ws' := [(ro, .inr (6, [.int 4, .int 5, .ref ca, .int (nI nz)])), (ca, .inl (cc0, 20, .inl fg_27))]) [0, 1] rfl
              have hDc := hD.sub (ws' := [(ro, .inr (6, [.int 4, .int 5, .ref ca, .int (nI nz)])), (ca, .inl (cc0, 20, .inl fg_27))]) [0, 1] (by decide) rfl
              have hKc := hK.sub (tys' := [(cc0, .int)]) [0] rfl
              have hFc := va_free (wc := [(ro, .inr (6, [.int 4, .int 5, .ref ca, .int (nI nz)])), (ca, .inl (cc0, 20, .inl fg_27))]) hD hS hA [0, 1] rfl
              refine va_callv (va_runV (As := [.int (nI ii), .int 2, .int r_31]) (rest := []) ⟨hx, hb, hml, hown, hts⟩ (r_put_20 l dC dI ro ca nz cc0 fg_27 (nI ii) 2 r_31 H.size hz) (cwV 3 hts gX6_remove_X6_put rfl rfl rfl (by decide +kernel) ⟨Nat.le_of_ble_eq_true rfl, Nat.le_of_ble_eq_true rfl⟩) ⟨fun a U g mk q => by obtain ⟨q0, q1, qP, qK, qD⟩ := q; exact ⟨q0, q1, qP, va_K.moved (u := U) (U := U.calling g mk a) (Vm.Alike.refl U.vm) qK, qD⟩, va_recv hK hP (ci := 6) (q0 := 0) rfl rfl, fun U hU hW => ⟨rfl, by rw [hU], by rw [hU]; exact hPc, va_K.moved hW.alike hKc, hDc.weaken (fun _ _ _ _ => trivial)⟩⟩ rfl rfl hl.1 rfl (lv_room (Nat.le_of_ble_eq_true rfl)) dX6_remove_42 ⟨Nat.le_of_ble_eq_true rfl, Nat.le_of_ble_eq_true rfl⟩) hS (fun q _ h => hFc q h) hFc (fun u_ t H1 locs ht hvm hw_34 hB hz1 hk1 hS => ?_)
              obtain ⟨fg_35, hP1, hK1, hD1⟩ := hB
              rw [ht] at hP1
              have hK1 := va_K.moved hvm.symm hK1
              obtain ⟨hP, hD⟩ := va_join (wr := []) (w1 := [(ro, .inr (6, [.int 4, .int 5, .ref ca, .int (nI nz)])), (ca, .inl (cc0, 20, .inl fg_35))]) hP hD [0, 1] [] rfl rfl (by decide) (by decide) hk1 hFc hP1 hD1
              generalize H1 = H at hP hS ⊢
              have hP : va_P (dC, dI) vwCl [(ro, .inr (6, [.int 4, .int 5, .ref ca, .int (nI nz)])), (ca, .inl (cc0, 20, .inl fg_35))] H := hP
              have hD : va_D A [(ro, .inr (6, [.int 4, .int 5, .ref ca, .int (nI nz)])), (ca, .inl (cc0, 20, .inl fg_35))] := hD
              refine lv_iinc (v := 3) (lv' := [(3, .int 3), (2, .int (nI ii)), (0, .ref ro), (1, .int (nI j1))]) hx hb dX6_remove_45 hl (k := 0) rfl (by decide) (by decide) rfl (fun ls hl => ?_)
              refine lv_goto (tgt := 23) hx hb dX6_remove_48 (by decide) ?_
              refine lv_iload_n hx hb dX6_remove_23 rfl (lv_at hl 0 rfl) ?_
              refine lv_aload_n hx hb dX6_remove_24 rfl (lv_at hl 2 rfl) ?_
              refine va_get (D := (dC, dI)) (ci := 6) (v := .int 4) (C := RX6) (T := TX6) (N := 4) hx hb hts iw_r_remove_20_X6 hown hK hP 0 rfl rfl 0 (by decide) (hts (.fieldLink RX6 24 "ThriceCounted$Rows" "width" "I") (by decide +kernel)) (fun _ h9 => h9) rfl dX6_remove_25 ?_
              refine lv_icmp_ge (tgt := 51) hx hb dX6_remove_28 (by decide) (fun c_36 => ?_) (fun c_36 => ?_)
              · exact absurd c_36 (by decide)
              · refine lv_aload_n hx hb dX6_remove_31 rfl (lv_at hl 2 rfl) ?_
                refine lv_iload_n hx hb dX6_remove_32 rfl (lv_at hl 1 rfl) ?_
                refine lv_iload_n hx hb dX6_remove_33 rfl (lv_at hl 0 rfl) ?_
                refine lv_aload_n hx hb dX6_remove_34 rfl (lv_at hl 2 rfl) ?_
                refine lv_iload_n hx hb dX6_remove_35 rfl (lv_at hl 1 rfl) ?_
                refine lv_iconst (v := 1) hx hb dX6_remove_36 (by decide) ?_
                refine lv_iadd hx hb dX6_remove_37 ?_
                refine tz_i (nI (ii + 1)) (nI_add ii 1) ?_
                refine lv_iload_n hx hb dX6_remove_38 rfl (lv_at hl 0 rfl) ?_
                have hPc_37 := hP.sub (ws' := [(ro, .inr (6, [.int 4, .int 5, .ref ca, .int (nI nz)])), (ca, .inl (cc0, 20, .inl fg_35))]) [0, 1] rfl
                have hKc_38 := hK.sub (tys' := [(cc0, .int)]) [0] rfl
                refine vp_callSi (va_Run.run (va_runV (As := [.int (nI (ii + 1)), .int 3]) (rest := [.int 3, .int (nI ii), .ref ro]) ⟨hx, hb, hml, hown, hts⟩ (r_get_20 l dC dI ro ca nz cc0 fg_35 (nI (ii + 1)) 3 hz) (cwV 2 hts gX6_remove_X6_get rfl rfl rfl (by decide +kernel) ⟨Nat.le_of_ble_eq_true rfl, Nat.le_of_ble_eq_true rfl⟩) ⟨fun a U g mk q => by obtain ⟨q0, qP, qK⟩ := q; exact ⟨q0, qP, va_K.moved (u := U) (U := U.calling g mk a) (Vm.Alike.refl U.vm) qK⟩, va_recv hK hP (ci := 6) (q0 := 0) rfl rfl, fun U hU hW => ⟨rfl, by rw [hU]; exact hPc_37, va_K.moved hW.alike hKc_38⟩⟩ rfl rfl hl.1 rfl (lv_room (Nat.le_of_ble_eq_true rfl)) dX6_remove_39 ⟨Nat.le_of_ble_eq_true rfl, Nat.le_of_ble_eq_true rfl⟩)) (fun r_39 hw_40 => ?_)
                have hPc := hP.sub (ws' := [(ro, .inr (6, [.int 4, .int 5, .ref ca, .int (nI nz)])), (ca, .inl (cc0, 20, .inl fg_35))]) [0, 1] rfl
                have hDc := hD.sub (ws' := [(ro, .inr (6, [.int 4, .int 5, .ref ca, .int (nI nz)])), (ca, .inl (cc0, 20, .inl fg_35))]) [0, 1] (by decide) rfl
                have hKc := hK.sub (tys' := [(cc0, .int)]) [0] rfl
                have hFc := va_free (wc := [(ro, .inr (6, [.int 4, .int 5, .ref ca, .int (nI nz)])), (ca, .inl (cc0, 20, .inl fg_35))]) hD hS hA [0, 1] rfl
                refine va_callv (va_runV (As := [.int (nI ii), .int 3, .int r_39]) (rest := []) ⟨hx, hb, hml, hown, hts⟩ (r_put_20 l dC dI ro ca nz cc0 fg_35 (nI ii) 3 r_39 H.size hz) (cwV 3 hts gX6_remove_X6_put rfl rfl rfl (by decide +kernel) ⟨Nat.le_of_ble_eq_true rfl, Nat.le_of_ble_eq_true rfl⟩) ⟨fun a U g mk q => by obtain ⟨q0, q1, qP, qK, qD⟩ := q; exact ⟨q0, q1, qP, va_K.moved (u := U) (U := U.calling g mk a) (Vm.Alike.refl U.vm) qK, qD⟩, va_recv hK hP (ci := 6) (q0 := 0) rfl rfl, fun U hU hW => ⟨rfl, by rw [hU], by rw [hU]; exact hPc, va_K.moved hW.alike hKc, hDc.weaken (fun _ _ _ _ => trivial)⟩⟩ rfl rfl hl.1 rfl (lv_room (Nat.le_of_ble_eq_true rfl)) dX6_remove_42 ⟨Nat.le_of_ble_eq_true rfl, Nat.le_of_ble_eq_true rfl⟩) hS (fun q _ h => hFc q h) hFc (fun u_ t H1 locs ht hvm hw_42 hB hz1 hk1 hS => ?_)
                obtain ⟨fg_43, hP1, hK1, hD1⟩ := hB
                rw [ht] at hP1
                have hK1 := va_K.moved hvm.symm hK1
                obtain ⟨hP, hD⟩ := va_join (wr := []) (w1 := [(ro, .inr (6, [.int 4, .int 5, .ref ca, .int (nI nz)])), (ca, .inl (cc0, 20, .inl fg_43))]) hP hD [0, 1] [] rfl rfl (by decide) (by decide) hk1 hFc hP1 hD1
                generalize H1 = H at hP hS ⊢
                have hP : va_P (dC, dI) vwCl [(ro, .inr (6, [.int 4, .int 5, .ref ca, .int (nI nz)])), (ca, .inl (cc0, 20, .inl fg_43))] H := hP
                have hD : va_D A [(ro, .inr (6, [.int 4, .int 5, .ref ca, .int (nI nz)])), (ca, .inl (cc0, 20, .inl fg_43))] := hD
                refine lv_iinc (v := 4) (lv' := [(3, .int 4), (2, .int (nI ii)), (0, .ref ro), (1, .int (nI j1))]) hx hb dX6_remove_45 hl (k := 0) rfl (by decide) (by decide) rfl (fun ls hl => ?_)
                refine lv_goto (tgt := 23) hx hb dX6_remove_48 (by decide) ?_
                refine lv_iload_n hx hb dX6_remove_23 rfl (lv_at hl 0 rfl) ?_
                refine lv_aload_n hx hb dX6_remove_24 rfl (lv_at hl 2 rfl) ?_
                refine va_get (D := (dC, dI)) (ci := 6) (v := .int 4) (C := RX6) (T := TX6) (N := 4) hx hb hts iw_r_remove_20_X6 hown hK hP 0 rfl rfl 0 (by decide) (hts (.fieldLink RX6 24 "ThriceCounted$Rows" "width" "I") (by decide +kernel)) (fun _ h9 => h9) rfl dX6_remove_25 ?_
                refine lv_icmp_ge (tgt := 51) hx hb dX6_remove_28 (by decide) (fun c_44 => ?_) (fun c_44 => ?_)
                · refine lv_iinc (v := (nI (ii + 1))) (lv' := [(2, .int (nI (ii + 1))), (3, .int 4), (0, .ref ro), (1, .int (nI j1))]) hx hb dX6_remove_51 hl (k := 1) rfl (nI_add ii 1) (by decide) rfl (fun ls hl => ?_)
                  refine lv_goto (tgt := 11) hx hb dX6_remove_54 (by decide) ?_
                  exact ih_8 ((ii + 1), fg_43, H, locs, ls) ⟨by dsimp only; omega, hP, hD, hS, lv_sub hl [0, 2, 3] rfl⟩ (by dsimp only; omega)
                · exact absurd c_44 (by decide)
    · exact absurd c_6 (by decide)
  · obtain rfl : 0 = r_3 := (hw_4.trans (if_neg hc_5)).symm
    refine lv_if_ne (tgt := 9) hx hb dX6_remove_5 (by decide) (fun c_45 => ?_) (fun c_45 => ?_)
    · exact absurd c_45 (by decide)
    · have hP9 := hP.sub (ws' := [(ro, .inr (6, [.int 4, .int 5, .ref ca, .int (nI nz)])), (ca, .inl (cc0, 20, .inl ff))]) [0, 1] rfl
      have hD9 := hD.sub (ws' := [(ro, .inr (6, [.int 4, .int 5, .ref ca, .int (nI nz)])), (ca, .inl (cc0, 20, .inl ff))]) [0, 1] (by decide) rfl
      have hK9 := hK.sub (tys' := [(cc0, .int)]) [0] rfl
      exact W.vret hx hb hr (fun t ht hW => ⟨⟨(), rfl, trivial, nz, ff, hz, by rw [ht]; exact hP9, va_K.moved hW.alike hK9, hD9⟩, hS.F ht⟩) hS.2.2 dX6_remove_8
set_option maxRecDepth 20000 in
theorem iw_r_mix_20_X6 : ∀ w ∈ wsX60, w ∈ wsX6_mixInto := by decide +kernel
set_option maxHeartbeats 4000000 in
set_option maxRecDepth 100000 in
theorem r_mix_20 (l : Launch) (dC : Nat → ClassId) (dI : Nat → Nat → Nat) (ro : Nat) (ca : Nat) (nz : Nat) (cc0 : ClassId) (ff : Nat → Int32) (hh : Int64) (hz : nz ≤ 5) : Met l yX6_mixInto wsX6_mixInto ({ frames := 0, cells := 0, slots := 0, locals := 0 }) (va_Pc [.ref ro, .long hh] (fun U => va_P (dC, dI) vwCl [(ro, .inr (6, [.int 4, .int 5, .ref ca, .int (nI nz)])), (ca, .inl (cc0, 20, .inl ff))] U.heap ∧ va_K (dC, dI) vwCl [(cc0, .int)] U)) (vp_Sl (fun r => True)) 0 0 (fun _ => False) := by
  refine Met.ofW (cc := cX6_mixInto) (maxL := 6) (ret := (some .long)) (by decide) rfl ?_
  intro p e s m args below meth c s₁ B hml hv
  obtain ⟨rfl, hP, hK⟩ := hv
  have hx := B.exec
  have hb := B.bytes
  have hr := B.returns
  have hts := atoms_spec (ws := wsX6_mixInto) B.pre
  have hown : s.vm.findClass RX6 = some m.cls := findClass_of_methodNamed B.named
  have hlocks := B.notSynchronized
  have hl := lv_entry ([.ref ro, .long hh]) (n := 6) (Nat.le_of_ble_eq_true rfl)
  rw [lg_entry_eq]
  generalize (lg_sl ([.ref ro, .long hh]) ++ List.replicate (6 - (lg_sl ([.ref ro, .long hh])).length) Slot.unset).toArray = ls at hl ⊢
  have hl : lv_has ls 6 [(0, .ref ro), (1, .long hh)] := hl
  refine lv_lload_n hx hb dX6_mixInto_0 rfl (lv_at hl 1 rfl) ?_
  refine lv_lstore_n (lv' := [(3, .long hh), (0, .ref ro), (1, .long hh)]) hx hb dX6_mixInto_1 rfl hl (by decide) rfl (fun ls hl => ?_)
  refine lv_iconst (v := 0) hx hb dX6_mixInto_2 (by decide) ?_
  refine lv_istore (lv' := [(5, .int 0), (3, .long hh), (0, .ref ro), (1, .long hh)]) hx hb dX6_mixInto_3 hl (by decide) rfl (fun ls hl => ?_)
  refine tz_while (σ := Nat × Int64 × Array Slot) (fun x => W p l e _ s m _ below meth c _ _ _ _ _ (F0 m 5 x.2.2 [])) (fun x => x.1 ≤ 64 ∧ lv_has x.2.2 6 [(5, .int (nI x.1)), (3, .long x.2.1), (0, .ref ro), (1, .long hh)]) (fun x => 65 - x.1) ?_ (0, hh, ls) ⟨by omega, hl⟩
  rintro ⟨kk, mh, ls⟩ ⟨hi_1_0, hl⟩ ih_2
  dsimp only at hi_1_0 hl ih_2 ⊢
  refine lv_iload hx hb dX6_mixInto_5 (lv_at hl 0 rfl) ?_
  refine lv_aload_n hx hb dX6_mixInto_7 rfl (lv_at hl 2 rfl) ?_
  refine va_get (D := (dC, dI)) (ci := 6) (v := .int (nI nz)) (C := RX6) (T := TX6) (N := 4) hx hb hts iw_r_mix_20_X6 hown hK hP 0 rfl rfl 3 (by decide) (hts (.fieldLink RX6 9 "ThriceCounted$Rows" "size" "I") (by decide +kernel)) (fun _ h9 => h9) rfl dX6_mixInto_8 ?_
  refine lv_aload_n hx hb dX6_mixInto_11 rfl (lv_at hl 2 rfl) ?_
  refine va_get (D := (dC, dI)) (ci := 6) (v := .int 4) (C := RX6) (T := TX6) (N := 4) hx hb hts iw_r_mix_20_X6 hown hK hP 0 rfl rfl 0 (by decide) (hts (.fieldLink RX6 24 "ThriceCounted$Rows" "width" "I") (by decide +kernel)) (fun _ h9 => h9) rfl dX6_mixInto_12 ?_
  refine lv_imul hx hb dX6_mixInto_15 ?_
  refine tz_i (nI (nz * 4)) (pk_mul nz 4) ?_
  refine lv_icmp_ge (tgt := 50) hx hb dX6_mixInto_16 (by decide) (fun c_3 => ?_) (fun c_3 => ?_)
  · have hn_4 : (nz * 4) ≤ kk := (nI_leI (a := (nz * 4)) (b := kk) (by omega) (by omega)).mp c_3
    refine lv_lload_n hx hb dX6_mixInto_50 rfl (lv_at hl 1 rfl) ?_
    exact W.lret (v := mh) hx hb hr (fun t ht hW => ⟨mh, rfl, trivial, ht⟩) (fun _ h => absurd h List.not_mem_nil) dX6_mixInto_51
  · have hn_5 : ¬ (nz * 4) ≤ kk := fun q => c_3 ((nI_leI (a := (nz * 4)) (b := kk) (by omega) (by omega)).mpr q)
    refine lv_iload hx hb dX6_mixInto_19 (lv_at hl 0 rfl) ?_
    refine lv_aload_n hx hb dX6_mixInto_21 rfl (lv_at hl 2 rfl) ?_
    refine va_get (D := (dC, dI)) (ci := 6) (v := .ref ca) (C := RX6) (T := TX6) (N := 4) hx hb hts iw_r_mix_20_X6 hown hK hP 0 rfl rfl 2 (by decide) (hts (.fieldLink RX6 27 "ThriceCounted$Rows" "cells" "[I") (by decide +kernel)) (fun _ h9 => h9) rfl dX6_mixInto_22 ?_
    refine va_alen (v := 20) hx hb hK hP 1 0 rfl rfl rfl dX6_mixInto_25 ?_
    refine lv_icmp_ge (tgt := 50) hx hb dX6_mixInto_26 (by decide) (fun c_6 => ?_) (fun c_6 => ?_)
    · have hn_7 : 20 ≤ kk := (nI_leI (a := 20) (b := kk) (by omega) (by omega)).mp c_6
      refine lv_lload_n hx hb dX6_mixInto_50 rfl (lv_at hl 1 rfl) ?_
      exact W.lret (v := mh) hx hb hr (fun t ht hW => ⟨mh, rfl, trivial, ht⟩) (fun _ h => absurd h List.not_mem_nil) dX6_mixInto_51
    · have hn_8 : ¬ 20 ≤ kk := fun q => c_6 ((nI_leI (a := 20) (b := kk) (by omega) (by omega)).mpr q)
      refine lv_ldc2 hx hb hown (hts (.constantLong RX6 59 (31)) (by decide +kernel)) dX6_mixInto_29 ?_
      refine lv_lload_n hx hb dX6_mixInto_32 rfl (lv_at hl 1 rfl) ?_
      refine lv_lmul hx hb dX6_mixInto_33 ?_
      refine lv_topl (fun x_9 _ => ?_)
      refine lv_aload_n hx hb dX6_mixInto_34 rfl (lv_at hl 2 rfl) ?_
      refine va_get (D := (dC, dI)) (ci := 6) (v := .ref ca) (C := RX6) (T := TX6) (N := 4) hx hb hts iw_r_mix_20_X6 hown hK hP 0 rfl rfl 2 (by decide) (hts (.fieldLink RX6 27 "ThriceCounted$Rows" "cells" "[I") (by decide +kernel)) (fun _ h9 => h9) rfl dX6_mixInto_35 ?_
      refine lv_iload hx hb dX6_mixInto_38 (lv_at hl 0 rfl) ?_
      refine va_iald hx hb hK hP 1 0 rfl rfl (vp_in_nI (n := kk) (N := 20) (by omega) (by decide)) dX6_mixInto_40 ?_
      refine lv_topi (fun x_10 _ => ?_)
      refine lv_i2l (v := x_10.toInt64) hx hb dX6_mixInto_41 rfl ?_
      refine lv_ladd hx hb dX6_mixInto_42 ?_
      refine lv_topl (fun x_11 _ => ?_)
      refine lv_lstore_n (lv' := [(3, .long x_11), (5, .int (nI kk)), (0, .ref ro), (1, .long hh)]) hx hb dX6_mixInto_43 rfl hl (by decide) rfl (fun ls hl => ?_)
      refine lv_iinc (v := (nI (kk + 1))) (lv' := [(5, .int (nI (kk + 1))), (3, .long x_11), (0, .ref ro), (1, .long hh)]) hx hb dX6_mixInto_44 hl (k := 1) rfl (nI_add kk 1) (by decide) rfl (fun ls hl => ?_)
      refine lv_goto (tgt := 5) hx hb dX6_mixInto_47 (by decide) ?_
      exact ih_2 ((kk + 1), x_11, ls) ⟨by dsimp only; omega, lv_sub hl [0, 1, 2, 3] rfl⟩ (by dsimp only; omega)
set_option maxRecDepth 20000 in
theorem iw_r_copy_20_X6 : ∀ w ∈ wsX60, w ∈ wsX6_copyFrom := by decide +kernel
set_option maxHeartbeats 4000000 in
set_option maxRecDepth 100000 in
theorem r_copy_20 (l : Launch) (dC : Nat → ClassId) (dI : Nat → Nat → Nat) (ro : Nat) (ca : Nat) (nz : Nat) (cc0 : ClassId) (ff : Nat → Int32) (rp : Nat) (cb : Nat) (ny : Nat) (cc1 : ClassId) (fb : Nat → Int32) (sz : Nat) (hz : nz ≤ 5) (hy : ny ≤ 5) : Met l yX6_copyFrom wsX6_copyFrom ({ frames := 1, cells := 0, slots := 0, locals := 40 }) (va_Pc [.ref ro, .ref rp] (fun U => U.heap.size = sz ∧ va_P (dC, dI) vwCl [(ro, .inr (6, [.int 4, .int 5, .ref ca, .int (nI nz)])), (ca, .inl (cc0, 20, .inl ff)), (rp, .inr (6, [.int 4, .int 5, .ref cb, .int (nI ny)])), (cb, .inl (cc1, 20, .inl fb))] U.heap ∧ va_K (dC, dI) vwCl [(cc0, .int), (cc1, .int)] U ∧ va_D (fun _ => True) [(ro, .inr (6, [.int 4, .int 5, .ref ca, .int (nI nz)])), (ca, .inl (cc0, 20, .inl ff)), (rp, .inr (6, [.int 4, .int 5, .ref cb, .int (nI ny)])), (cb, .inl (cc1, 20, .inl fb))])) (va_Qv (fun (_ : Unit) => True) (fun _ t => ∃ (fg : Nat → Int32), va_P (dC, dI) vwCl [(ro, .inr (6, [.int 4, .int 5, .ref ca, .int (nI ny)])), (ca, .inl (cc0, 20, .inl fg)), (rp, .inr (6, [.int 4, .int 5, .ref cb, .int (nI ny)])), (cb, .inl (cc1, 20, .inl fb))] t.heap ∧ va_K (dC, dI) vwCl [(cc0, .int), (cc1, .int)] t ∧ va_D (va_A [(ro, .inr (6, [.int 4, .int 5, .ref ca, .int (nI nz)])), (ca, .inl (cc0, 20, .inl ff)), (rp, .inr (6, [.int 4, .int 5, .ref cb, .int (nI ny)])), (cb, .inl (cc1, 20, .inl fb))] sz) [(ro, .inr (6, [.int 4, .int 5, .ref ca, .int (nI ny)])), (ca, .inl (cc0, 20, .inl fg)), (rp, .inr (6, [.int 4, .int 5, .ref cb, .int (nI ny)])), (cb, .inl (cc1, 20, .inl fb))]) (va_A [(ro, .inr (6, [.int 4, .int 5, .ref ca, .int (nI nz)])), (ca, .inl (cc0, 20, .inl ff)), (rp, .inr (6, [.int 4, .int 5, .ref cb, .int (nI ny)])), (cb, .inl (cc1, 20, .inl fb))] sz)) 0 0 (va_A [(ro, .inr (6, [.int 4, .int 5, .ref ca, .int (nI nz)])), (ca, .inl (cc0, 20, .inl ff)), (rp, .inr (6, [.int 4, .int 5, .ref cb, .int (nI ny)])), (cb, .inl (cc1, 20, .inl fb))] sz) := by
  refine Met.ofW (cc := cX6_copyFrom) (maxL := 2) (ret := none) (by decide) rfl ?_
  intro p e s m args below meth c s₁ B hml hv
  obtain ⟨rfl, hsz, hP, hK, hD0⟩ := hv
  have hx := B.exec
  have hb := B.bytes
  have hr := B.returns
  have hts := atoms_spec (ws := wsX6_copyFrom) B.pre
  have hown : s.vm.findClass RX6 = some m.cls := findClass_of_methodNamed B.named
  have hlocks := B.notSynchronized
  subst hsz
  have hD := hD0.self (sz := s.heap.size)
  generalize hAe : va_A [(ro, .inr (6, [.int 4, .int 5, .ref ca, .int (nI nz)])), (ca, .inl (cc0, 20, .inl ff)), (rp, .inr (6, [.int 4, .int 5, .ref cb, .int (nI ny)])), (cb, .inl (cc1, 20, .inl fb))] s.heap.size = A at hD ⊢
  have hA : ∀ q : Nat, s.heap.size ≤ q → A q := fun q h => by rw [← hAe]; exact Or.inr h
  have hS : va_S A s.heap s.heap [] := va_S.rf
  have hP : va_P (dC, dI) vwCl [(ro, .inr (6, [.int 4, .int 5, .ref ca, .int (nI nz)])), (ca, .inl (cc0, 20, .inl ff)), (rp, .inr (6, [.int 4, .int 5, .ref cb, .int (nI ny)])), (cb, .inl (cc1, 20, .inl fb))] s.heap := hP
  have hl := lv_entry ([.ref ro, .ref rp]) (n := 2) (Nat.le_of_ble_eq_true rfl)
  rw [lg_entry_eq]
  generalize (lg_sl ([.ref ro, .ref rp]) ++ List.replicate (2 - (lg_sl ([.ref ro, .ref rp])).length) Slot.unset).toArray = ls at hl ⊢
  have hl : lv_has ls 2 [(0, .ref ro), (1, .ref rp)] := hl
  refine lv_aload_n hx hb dX6_copyFrom_0 rfl (lv_at hl 0 rfl) ?_
  refine lv_aload_n hx hb dX6_copyFrom_1 rfl (lv_at hl 0 rfl) ?_
  refine va_get (D := (dC, dI)) (ci := 6) (v := .int 5) (C := RX6) (T := TX6) (N := 4) hx hb hts iw_r_copy_20_X6 hown hK hP 0 rfl rfl 1 (by decide) (hts (.fieldLink RX6 21 "ThriceCounted$Rows" "limit" "I") (by decide +kernel)) (fun _ h9 => h9) rfl dX6_copyFrom_2 ?_
  refine lv_aload_n hx hb dX6_copyFrom_5 rfl (lv_at hl 1 rfl) ?_
  refine va_get (D := (dC, dI)) (ci := 6) (v := .int (nI ny)) (C := RX6) (T := TX6) (N := 4) hx hb hts iw_r_copy_20_X6 hown hK hP 2 rfl rfl 3 (by decide) (hts (.fieldLink RX6 9 "ThriceCounted$Rows" "size" "I") (by decide +kernel)) (fun _ h9 => h9) rfl dX6_copyFrom_6 ?_
  refine va_mmin hx hb (hml.trans hl.1.symm) hown (hts (.methodLink RX6 50 Lib.Math.min.name) (by decide +kernel)) (hts (.static Lib.Math.min.name) (by decide +kernel)) (hts (.initialized "java/lang/Math") (by decide +kernel)) (hts (.code Lib.Math.min.name Lib.Math.min.code 2 (some .int)) (by decide +kernel)) (Nat.le_of_ble_eq_true rfl) (Nat.le_of_ble_eq_true rfl) (Nat.le_of_ble_eq_true rfl) (Nat.le_of_ble_eq_true rfl) dX6_copyFrom_9 ?_
  refine tz_i (nI ny) (tz_min (b := 5) (by omega) (by omega)) ?_
  refine va_put (D := (dC, dI)) (ci := 6) (v := .int (nI ny)) (ty := .int) (C := RX6) (T := TX6) (N := 4) hx hb hts iw_r_copy_20_X6 tyX6 tyX6_ok nmX6 hown hK hP hD hS 0 rfl rfl 3 (by decide) (hts (.fieldLink RX6 9 "ThriceCounted$Rows" "size" "I") (by decide +kernel)) (fun _ h9 => h9) rfl (by decide +kernel) rfl rfl (Nat.le_of_ble_eq_true rfl) dX6_copyFrom_12 (fun H locs hP hD hS => ?_)
  have hP : va_P (dC, dI) vwCl [(ro, .inr (6, [.int 4, .int 5, .ref ca, .int (nI ny)])), (ca, .inl (cc0, 20, .inl ff)), (rp, .inr (6, [.int 4, .int 5, .ref cb, .int (nI ny)])), (cb, .inl (cc1, 20, .inl fb))] H := hP
  have hD : va_D A [(ro, .inr (6, [.int 4, .int 5, .ref ca, .int (nI ny)])), (ca, .inl (cc0, 20, .inl ff)), (rp, .inr (6, [.int 4, .int 5, .ref cb, .int (nI ny)])), (cb, .inl (cc1, 20, .inl fb))] := hD
  refine lv_aload_n hx hb dX6_copyFrom_15 rfl (lv_at hl 1 rfl) ?_
  refine va_get (D := (dC, dI)) (ci := 6) (v := .ref cb) (C := RX6) (T := TX6) (N := 4) hx hb hts iw_r_copy_20_X6 hown hK hP 2 rfl rfl 2 (by decide) (hts (.fieldLink RX6 27 "ThriceCounted$Rows" "cells" "[I") (by decide +kernel)) (fun _ h9 => h9) rfl dX6_copyFrom_16 ?_
  refine lv_iconst (v := 0) hx hb dX6_copyFrom_19 (by decide) ?_
  refine lv_aload_n hx hb dX6_copyFrom_20 rfl (lv_at hl 0 rfl) ?_
  refine va_get (D := (dC, dI)) (ci := 6) (v := .ref ca) (C := RX6) (T := TX6) (N := 4) hx hb hts iw_r_copy_20_X6 hown hK hP 0 rfl rfl 2 (by decide) (hts (.fieldLink RX6 27 "ThriceCounted$Rows" "cells" "[I") (by decide +kernel)) (fun _ h9 => h9) rfl dX6_copyFrom_21 ?_
  refine lv_iconst (v := 0) hx hb dX6_copyFrom_24 (by decide) ?_
  refine lv_aload_n hx hb dX6_copyFrom_25 rfl (lv_at hl 0 rfl) ?_
  refine va_get (D := (dC, dI)) (ci := 6) (v := .ref ca) (C := RX6) (T := TX6) (N := 4) hx hb hts iw_r_copy_20_X6 hown hK hP 0 rfl rfl 2 (by decide) (hts (.fieldLink RX6 27 "ThriceCounted$Rows" "cells" "[I") (by decide +kernel)) (fun _ h9 => h9) rfl dX6_copyFrom_26 ?_
  refine va_alen (v := 20) hx hb hK hP 1 0 rfl rfl rfl dX6_copyFrom_29 ?_
  refine lv_aload_n hx hb dX6_copyFrom_30 rfl (lv_at hl 1 rfl) ?_
  refine va_get (D := (dC, dI)) (ci := 6) (v := .ref cb) (C := RX6) (T := TX6) (N := 4) hx hb hts iw_r_copy_20_X6 hown hK hP 2 rfl rfl 2 (by decide) (hts (.fieldLink RX6 27 "ThriceCounted$Rows" "cells" "[I") (by decide +kernel)) (fun _ h9 => h9) rfl dX6_copyFrom_31 ?_
  refine va_alen (v := 20) hx hb hK hP 3 1 rfl rfl rfl dX6_copyFrom_34 ?_
  refine va_mmin hx hb (hml.trans hl.1.symm) hown (hts (.methodLink RX6 50 Lib.Math.min.name) (by decide +kernel)) (hts (.static Lib.Math.min.name) (by decide +kernel)) (hts (.initialized "java/lang/Math") (by decide +kernel)) (hts (.code Lib.Math.min.name Lib.Math.min.code 2 (some .int)) (by decide +kernel)) (Nat.le_of_ble_eq_true rfl) (Nat.le_of_ble_eq_true rfl) (Nat.le_of_ble_eq_true rfl) (Nat.le_of_ble_eq_true rfl) dX6_copyFrom_35 ?_
  refine tz_i 20 (by decide) ?_
  refine va_copyi (ty := .int) hx hb (hml.trans hl.1.symm) hown (hts (.methodLink RX6 53 arraycopyName) (by decide +kernel)) (hts (.native arraycopyName) (by decide +kernel)) (hts (.static arraycopyName) (by decide +kernel)) (hts (.initialized "java/lang/System") (by decide +kernel)) hK hP hD hS 3 1 1 0 rfl rfl rfl rfl rfl (by decide) (by decide) (by decide) (by decide) (by decide) (fun _ _ => rfl) (Nat.le_of_ble_eq_true rfl) (Nat.le_of_ble_eq_true rfl) dX6_copyFrom_38 (fun H locs hP hD hS => ?_)
  generalize (va_cpy _ _ _ _ _) = f_1 at hP hD
  have hP : va_P (dC, dI) vwCl [(ro, .inr (6, [.int 4, .int 5, .ref ca, .int (nI ny)])), (ca, .inl (cc0, 20, .inl f_1)), (rp, .inr (6, [.int 4, .int 5, .ref cb, .int (nI ny)])), (cb, .inl (cc1, 20, .inl fb))] H := hP
  have hD : va_D A [(ro, .inr (6, [.int 4, .int 5, .ref ca, .int (nI ny)])), (ca, .inl (cc0, 20, .inl f_1)), (rp, .inr (6, [.int 4, .int 5, .ref cb, .int (nI ny)])), (cb, .inl (cc1, 20, .inl fb))] := hD
  have hP9 := hP.sub (ws' := [(ro, .inr (6, [.int 4, .int 5, .ref ca, .int (nI ny)])), (ca, .inl (cc0, 20, .inl f_1)), (rp, .inr (6, [.int 4, .int 5, .ref cb, .int (nI ny)])), (cb, .inl (cc1, 20, .inl fb))]) [0, 1, 2, 3] rfl
  have hD9 := hD.sub (ws' := [(ro, .inr (6, [.int 4, .int 5, .ref ca, .int (nI ny)])), (ca, .inl (cc0, 20, .inl f_1)), (rp, .inr (6, [.int 4, .int 5, .ref cb, .int (nI ny)])), (cb, .inl (cc1, 20, .inl fb))]) [0, 1, 2, 3] (by decide) rfl
  have hK9 := hK.sub (tys' := [(cc0, .int), (cc1, .int)]) [0, 1] rfl
  exact W.vret hx hb hr (fun t ht hW => ⟨⟨(), rfl, trivial, f_1, by rw [ht]; exact hP9, va_K.moved hW.alike hK9, hD9⟩, hS.F ht⟩) hS.2.2 dX6_copyFrom_41
set_option maxRecDepth 20000 in
theorem iw_r_grow_32_X6 : ∀ w ∈ wsX60, w ∈ wsX6_grow := by decide +kernel
set_option maxHeartbeats 4000000 in
set_option maxRecDepth 100000 in
theorem r_grow_32 (l : Launch) (dC : Nat → ClassId) (dI : Nat → Nat → Nat) (ro : Nat) (ca : Nat) (nz : Nat) (sz : Nat) (hz : nz ≤ 8) : Met l yX6_grow wsX6_grow ({ frames := 1, cells := 0, slots := 0, locals := 20 }) (va_Pc [.ref ro] (fun U => U.heap.size = sz ∧ va_P (dC, dI) vwCl [(ro, .inr (6, [.int 4, .int 8, .ref ca, .int (nI nz)]))] U.heap ∧ va_K (dC, dI) vwCl [] U ∧ va_D (fun _ => True) [(ro, .inr (6, [.int 4, .int 8, .ref ca, .int (nI nz)]))])) (va_Qi (fun (r : Int32) (_ : Unit) => True) (fun _ t => ∃ (zg : Nat), (zg ≤ 8) ∧ va_P (dC, dI) vwCl [(ro, .inr (6, [.int 4, .int 8, .ref ca, .int (nI zg)]))] t.heap ∧ va_K (dC, dI) vwCl [] t ∧ va_D (va_A [(ro, .inr (6, [.int 4, .int 8, .ref ca, .int (nI nz)]))] sz) [(ro, .inr (6, [.int 4, .int 8, .ref ca, .int (nI zg)]))]) (va_A [(ro, .inr (6, [.int 4, .int 8, .ref ca, .int (nI nz)]))] sz)) 0 0 (va_A [(ro, .inr (6, [.int 4, .int 8, .ref ca, .int (nI nz)]))] sz) := by
  refine Met.ofW (cc := cX6_grow) (maxL := 1) (ret := (some .int)) (by decide) rfl ?_
  intro p e s m args below meth c s₁ B hml hv
  obtain ⟨rfl, hsz, hP, hK, hD0⟩ := hv
  have hx := B.exec
  have hb := B.bytes
  have hr := B.returns
  have hts := atoms_spec (ws := wsX6_grow) B.pre
  have hown : s.vm.findClass RX6 = some m.cls := findClass_of_methodNamed B.named
  have hlocks := B.notSynchronized
  subst hsz
  have hD := hD0.self (sz := s.heap.size)
  generalize hAe : va_A [(ro, .inr (6, [.int 4, .int 8, .ref ca, .int (nI nz)]))] s.heap.size = A at hD ⊢
  have hA : ∀ q : Nat, s.heap.size ≤ q → A q := fun q h => by rw [← hAe]; exact Or.inr h
  have hS : va_S A s.heap s.heap [] := va_S.rf
  have hP : va_P (dC, dI) vwCl [(ro, .inr (6, [.int 4, .int 8, .ref ca, .int (nI nz)]))] s.heap := hP
  have hl := lv_entry ([.ref ro]) (n := 1) (Nat.le_of_ble_eq_true rfl)
  rw [lg_entry_eq]
  generalize (lg_sl ([.ref ro]) ++ List.replicate (1 - (lg_sl ([.ref ro])).length) Slot.unset).toArray = ls at hl ⊢
  have hl : lv_has ls 1 [(0, .ref ro)] := hl
  refine lv_aload_n hx hb dX6_grow_0 rfl (lv_at hl 0 rfl) ?_
  have hPc_1 := hP.sub (ws' := [(ro, .inr (6, [.int 4, .int 8, .ref ca, .int (nI nz)]))]) [0] rfl
  have hKc_2 := hK.sub (tys' := []) [] rfl
  refine vp_callSi (va_Run.run (va_runV (As := []) (rest := []) ⟨hx, hb, hml, hown, hts⟩ (r_isFull_32 l dC dI ro ca nz hz) (cwV 0 hts gX6_grow_X6_isFull rfl rfl rfl (by decide +kernel) ⟨Nat.le_of_ble_eq_true rfl, Nat.le_of_ble_eq_true rfl⟩) ⟨fun a U g mk q => by obtain ⟨q0, qP, qK⟩ := q; exact ⟨q0, qP, va_K.moved (u := U) (U := U.calling g mk a) (Vm.Alike.refl U.vm) qK⟩, va_recv hK hP (ci := 6) (q0 := 0) rfl rfl, fun U hU hW => ⟨rfl, by rw [hU]; exact hPc_1, va_K.moved hW.alike hKc_2⟩⟩ rfl rfl hl.1 rfl (lv_room (Nat.le_of_ble_eq_true rfl)) dX6_grow_1 ⟨Nat.le_of_ble_eq_true rfl, Nat.le_of_ble_eq_true rfl⟩)) (fun r_3 hw_4 => ?_)
  by_cases hc_5 : 8 ≤ nz
  · obtain rfl : 1 = r_3 := (hw_4.trans (if_pos hc_5)).symm
    refine lv_if_eq (tgt := 10) hx hb dX6_grow_4 (by decide) (fun c_6 => ?_) (fun c_6 => ?_)
    · exact absurd c_6 (by decide)
    · refine lv_bipush (v := (-4)) hx hb dX6_grow_7 (by decide) ?_
      have hP9 := hP.sub (ws' := [(ro, .inr (6, [.int 4, .int 8, .ref ca, .int (nI nz)]))]) [0] rfl
      have hD9 := hD.sub (ws' := [(ro, .inr (6, [.int 4, .int 8, .ref ca, .int (nI nz)]))]) [0] (by decide) rfl
      have hK9 := hK.sub (tys' := []) [] rfl
      exact W.iret (v := (-4)) hx hb hr (fun t ht hW => ⟨⟨(-4), (), rfl, trivial, nz, hz, by rw [ht]; exact hP9, va_K.moved hW.alike hK9, hD9⟩, hS.F ht⟩) hS.2.2 dX6_grow_9
  · obtain rfl : 0 = r_3 := (hw_4.trans (if_neg hc_5)).symm
    refine lv_if_eq (tgt := 10) hx hb dX6_grow_4 (by decide) (fun c_7 => ?_) (fun c_7 => ?_)
    · refine lv_aload_n hx hb dX6_grow_10 rfl (lv_at hl 0 rfl) ?_
      refine lv_dup hx hb dX6_grow_11 rfl ?_
      refine va_get (D := (dC, dI)) (ci := 6) (v := .int (nI nz)) (C := RX6) (T := TX6) (N := 4) hx hb hts iw_r_grow_32_X6 hown hK hP 0 rfl rfl 3 (by decide) (hts (.fieldLink RX6 9 "ThriceCounted$Rows" "size" "I") (by decide +kernel)) (fun _ h9 => h9) rfl dX6_grow_12 ?_
      refine lv_iconst (v := 1) hx hb dX6_grow_15 (by decide) ?_
      refine lv_iadd hx hb dX6_grow_16 ?_
      refine tz_i (nI (nz + 1)) (nI_add nz 1) ?_
      refine va_put (D := (dC, dI)) (ci := 6) (v := .int (nI (nz + 1))) (ty := .int) (C := RX6) (T := TX6) (N := 4) hx hb hts iw_r_grow_32_X6 tyX6 tyX6_ok nmX6 hown hK hP hD hS 0 rfl rfl 3 (by decide) (hts (.fieldLink RX6 9 "ThriceCounted$Rows" "size" "I") (by decide +kernel)) (fun _ h9 => h9) rfl (by decide +kernel) rfl rfl (Nat.le_of_ble_eq_true rfl) dX6_grow_17 (fun H locs hP hD hS => ?_)
      have hP : va_P (dC, dI) vwCl [(ro, .inr (6, [.int 4, .int 8, .ref ca, .int (nI (nz + 1))]))] H := hP
      have hD : va_D A [(ro, .inr (6, [.int 4, .int 8, .ref ca, .int (nI (nz + 1))]))] := hD
      refine lv_aload_n hx hb dX6_grow_20 rfl (lv_at hl 0 rfl) ?_
      refine va_get (D := (dC, dI)) (ci := 6) (v := .int (nI (nz + 1))) (C := RX6) (T := TX6) (N := 4) hx hb hts iw_r_grow_32_X6 hown hK hP 0 rfl rfl 3 (by decide) (hts (.fieldLink RX6 9 "ThriceCounted$Rows" "size" "I") (by decide +kernel)) (fun _ h9 => h9) rfl dX6_grow_21 ?_
      refine lv_iconst (v := 1) hx hb dX6_grow_24 (by decide) ?_
      refine lv_isub hx hb dX6_grow_25 ?_
      have hP9 := hP.sub (ws' := [(ro, .inr (6, [.int 4, .int 8, .ref ca, .int (nI (nz + 1))]))]) [0] rfl
      have hD9 := hD.sub (ws' := [(ro, .inr (6, [.int 4, .int 8, .ref ca, .int (nI (nz + 1))]))]) [0] (by decide) rfl
      have hK9 := hK.sub (tys' := []) [] rfl
      exact W.iret (v := ((nI (nz + 1)) - 1)) hx hb hr (fun t ht hW => ⟨⟨((nI (nz + 1)) - 1), (), rfl, trivial, (nz + 1), by omega, by rw [ht]; exact hP9, va_K.moved hW.alike hK9, hD9⟩, hS.F ht⟩) hS.2.2 dX6_grow_26
    · exact absurd c_7 (by decide)
set_option maxRecDepth 20000 in
theorem iw_r_remove_32_X6 : ∀ w ∈ wsX60, w ∈ wsX6_remove := by decide +kernel
set_option maxHeartbeats 4000000 in
set_option maxRecDepth 100000 in
theorem r_remove_32 (l : Launch) (dC : Nat → ClassId) (dI : Nat → Nat → Nat) (ro : Nat) (ca : Nat) (nz : Nat) (cc0 : ClassId) (ff : Nat → Int32) (na : Int32) (sz : Nat) (hz : nz ≤ 8) : Met l yX6_remove wsX6_remove ({ frames := 2, cells := 0, slots := 0, locals := 45 }) (va_Pc [.ref ro, .int na] (fun U => U.heap.size = sz ∧ va_P (dC, dI) vwCl [(ro, .inr (6, [.int 4, .int 8, .ref ca, .int (nI nz)])), (ca, .inl (cc0, 32, .inl ff))] U.heap ∧ va_K (dC, dI) vwCl [(cc0, .int)] U ∧ va_D (fun _ => True) [(ro, .inr (6, [.int 4, .int 8, .ref ca, .int (nI nz)])), (ca, .inl (cc0, 32, .inl ff))])) (va_Qv (fun (_ : Unit) => True) (fun _ t => ∃ (zg : Nat) (fg : Nat → Int32), (zg ≤ 8) ∧ va_P (dC, dI) vwCl [(ro, .inr (6, [.int 4, .int 8, .ref ca, .int (nI zg)])), (ca, .inl (cc0, 32, .inl fg))] t.heap ∧ va_K (dC, dI) vwCl [(cc0, .int)] t ∧ va_D (va_A [(ro, .inr (6, [.int 4, .int 8, .ref ca, .int (nI nz)])), (ca, .inl (cc0, 32, .inl ff))] sz) [(ro, .inr (6, [.int 4, .int 8, .ref ca, .int (nI zg)])), (ca, .inl (cc0, 32, .inl fg))]) (va_A [(ro, .inr (6, [.int 4, .int 8, .ref ca, .int (nI nz)])), (ca, .inl (cc0, 32, .inl ff))] sz)) 0 0 (va_A [(ro, .inr (6, [.int 4, .int 8, .ref ca, .int (nI nz)])), (ca, .inl (cc0, 32, .inl ff))] sz) := by
  refine Met.ofW (cc := cX6_remove) (maxL := 4) (ret := none) (by decide) rfl ?_
  intro p e s m args below meth c s₁ B hml hv
  obtain ⟨rfl, hsz, hP, hK, hD0⟩ := hv
  have hx := B.exec
  have hb := B.bytes
  have hr := B.returns
  have hts := atoms_spec (ws := wsX6_remove) B.pre
  have hown : s.vm.findClass RX6 = some m.cls := findClass_of_methodNamed B.named
  have hlocks := B.notSynchronized
  subst hsz
  have hD := hD0.self (sz := s.heap.size)
  generalize hAe : va_A [(ro, .inr (6, [.int 4, .int 8, .ref ca, .int (nI nz)])), (ca, .inl (cc0, 32, .inl ff))] s.heap.size = A at hD ⊢
  have hA : ∀ q : Nat, s.heap.size ≤ q → A q := fun q h => by rw [← hAe]; exact Or.inr h
  have hS : va_S A s.heap s.heap [] := va_S.rf
  have hP : va_P (dC, dI) vwCl [(ro, .inr (6, [.int 4, .int 8, .ref ca, .int (nI nz)])), (ca, .inl (cc0, 32, .inl ff))] s.heap := hP
  have hl := lv_entry ([.ref ro, .int na]) (n := 4) (Nat.le_of_ble_eq_true rfl)
  rw [lg_entry_eq]
  generalize (lg_sl ([.ref ro, .int na]) ++ List.replicate (4 - (lg_sl ([.ref ro, .int na])).length) Slot.unset).toArray = ls at hl ⊢
  have hl : lv_has ls 4 [(0, .ref ro), (1, .int na)] := hl
  refine lv_aload_n hx hb dX6_remove_0 rfl (lv_at hl 0 rfl) ?_
  refine lv_iload_n hx hb dX6_remove_1 rfl (lv_at hl 1 rfl) ?_
  have hPc_1 := hP.sub (ws' := [(ro, .inr (6, [.int 4, .int 8, .ref ca, .int (nI nz)]))]) [0] rfl
  have hKc_2 := hK.sub (tys' := []) [] rfl
  refine vp_callSi (va_Run.run (va_runV (As := [.int na]) (rest := []) ⟨hx, hb, hml, hown, hts⟩ (r_has_32 l dC dI ro ca nz na) (cwV 1 hts gX6_remove_X6_has rfl rfl rfl (by decide +kernel) ⟨Nat.le_of_ble_eq_true rfl, Nat.le_of_ble_eq_true rfl⟩) ⟨fun a U g mk q => by obtain ⟨q0, qP, qK⟩ := q; exact ⟨q0, qP, va_K.moved (u := U) (U := U.calling g mk a) (Vm.Alike.refl U.vm) qK⟩, va_recv hK hP (ci := 6) (q0 := 0) rfl rfl, fun U hU hW => ⟨rfl, by rw [hU]; exact hPc_1, va_K.moved hW.alike hKc_2⟩⟩ rfl rfl hl.1 rfl (lv_room (Nat.le_of_ble_eq_true rfl)) dX6_remove_2 ⟨Nat.le_of_ble_eq_true rfl, Nat.le_of_ble_eq_true rfl⟩)) (fun r_3 hw_4 => ?_)
  by_cases hc_5 : 0 ≤ na ∧ na < nI nz
  · obtain rfl : 1 = r_3 := (hw_4.trans (if_pos hc_5)).symm
    obtain ⟨j1, hj1, rfl⟩ := tz_belowI hc_5 (by omega)
    refine lv_if_ne (tgt := 9) hx hb dX6_remove_5 (by decide) (fun c_6 => ?_) (fun c_6 => ?_)
    · refine lv_iload_n hx hb dX6_remove_9 rfl (lv_at hl 1 rfl) ?_
      refine lv_istore_n (lv' := [(2, .int (nI j1)), (0, .ref ro), (1, .int (nI j1))]) hx hb dX6_remove_10 rfl hl (by decide) rfl (fun ls hl => ?_)
      refine tz_while (σ := Nat × (Nat → Int32) × Heap × List Loc × Array Slot) (fun x => W p l e _ s m _ below meth c x.2.2.1 x.2.2.2.1 _ _ _ (F0 m 11 x.2.2.2.2 [])) (fun x => x.1 ≤ nz ∧ va_P (dC, dI) vwCl [(ro, .inr (6, [.int 4, .int 8, .ref ca, .int (nI nz)])), (ca, .inl (cc0, 32, .inl x.2.1))] x.2.2.1 ∧ va_D A [(ro, .inr (6, [.int 4, .int 8, .ref ca, .int (nI nz)])), (ca, .inl (cc0, 32, .inl x.2.1))] ∧ va_S A s.heap x.2.2.1 x.2.2.2.1 ∧ lv_has x.2.2.2.2 4 [(2, .int (nI x.1)), (0, .ref ro), (1, .int (nI j1))]) (fun x => nz - x.1) ?_ (j1, ff, s.heap, [], ls) ⟨by omega, hP, hD, hS, hl⟩
      rintro ⟨ii, fq, H, locs, ls⟩ ⟨hi_7_0, hP, hD, hS, hl⟩ ih_8
      dsimp only at hi_7_0 hP hD hS hl ih_8 ⊢
      refine lv_iload_n hx hb dX6_remove_11 rfl (lv_at hl 0 rfl) ?_
      refine lv_aload_n hx hb dX6_remove_12 rfl (lv_at hl 1 rfl) ?_
      refine va_get (D := (dC, dI)) (ci := 6) (v := .int (nI nz)) (C := RX6) (T := TX6) (N := 4) hx hb hts iw_r_remove_32_X6 hown hK hP 0 rfl rfl 3 (by decide) (hts (.fieldLink RX6 9 "ThriceCounted$Rows" "size" "I") (by decide +kernel)) (fun _ h9 => h9) rfl dX6_remove_13 ?_
      refine lv_iconst (v := 1) hx hb dX6_remove_16 (by decide) ?_
      refine lv_isub hx hb dX6_remove_17 ?_
      refine tz_i (nI (nz - 1)) (pk_sub (a := nz) (b := 1) (by omega)) ?_
      refine lv_icmp_ge (tgt := 57) hx hb dX6_remove_18 (by decide) (fun c_9 => ?_) (fun c_9 => ?_)
      · have hn_10 : (nz - 1) ≤ ii := (nI_leI (a := (nz - 1)) (b := ii) (by omega) (by omega)).mp c_9
        refine lv_aload_n hx hb dX6_remove_57 rfl (lv_at hl 1 rfl) ?_
        refine lv_dup hx hb dX6_remove_58 rfl ?_
        refine va_get (D := (dC, dI)) (ci := 6) (v := .int (nI nz)) (C := RX6) (T := TX6) (N := 4) hx hb hts iw_r_remove_32_X6 hown hK hP 0 rfl rfl 3 (by decide) (hts (.fieldLink RX6 9 "ThriceCounted$Rows" "size" "I") (by decide +kernel)) (fun _ h9 => h9) rfl dX6_remove_59 ?_
        refine lv_iconst (v := 1) hx hb dX6_remove_62 (by decide) ?_
        refine lv_isub hx hb dX6_remove_63 ?_
        refine tz_i (nI (nz - 1)) (pk_sub (a := nz) (b := 1) (by omega)) ?_
        refine va_put (D := (dC, dI)) (ci := 6) (v := .int (nI (nz - 1))) (ty := .int) (C := RX6) (T := TX6) (N := 4) hx hb hts iw_r_remove_32_X6 tyX6 tyX6_ok nmX6 hown hK hP hD hS 0 rfl rfl 3 (by decide) (hts (.fieldLink RX6 9 "ThriceCounted$Rows" "size" "I") (by decide +kernel)) (fun _ h9 => h9) rfl (by decide +kernel) rfl rfl (Nat.le_of_ble_eq_true rfl) dX6_remove_64 (fun H locs hP hD hS => ?_)
        have hP : va_P (dC, dI) vwCl [(ro, .inr (6, [.int 4, .int 8, .ref ca, .int (nI (nz - 1))])), (ca, .inl (cc0, 32, .inl fq))] H := hP
        have hD : va_D A [(ro, .inr (6, [.int 4, .int 8, .ref ca, .int (nI (nz - 1))])), (ca, .inl (cc0, 32, .inl fq))] := hD
        have hP9 := hP.sub (ws' := [(ro, .inr (6, [.int 4, .int 8, .ref ca, .int (nI (nz - 1))])), (ca, .inl (cc0, 32, .inl fq))]) [0, 1] rfl
        have hD9 := hD.sub (ws' := [(ro, .inr (6, [.int 4, .int 8, .ref ca, .int (nI (nz - 1))])), (ca, .inl (cc0, 32, .inl fq))]) [0, 1] (by decide) rfl
        have hK9 := hK.sub (tys' := [(cc0, .int)]) [0] rfl
        exact W.vret hx hb hr (fun t ht hW => ⟨⟨(), rfl, trivial, (nz - 1), fq, by omega, by rw [ht]; exact hP9, va_K.moved hW.alike hK9, hD9⟩, hS.F ht⟩) hS.2.2 dX6_remove_67
      · have hn_11 : ¬ (nz - 1) ≤ ii := fun q => c_9 ((nI_leI (a := (nz - 1)) (b := ii) (by omega) (by omega)).mpr q)
        refine lv_iconst (v := 0) hx hb dX6_remove_21 (by decide) ?_
        refine lv_istore_n (lv' := [(3, .int 0), (2, .int (nI ii)), (0, .ref ro), (1, .int (nI j1))]) hx hb dX6_remove_22 rfl hl (by decide) rfl (fun ls hl => ?_)
        refine lv_iload_n hx hb dX6_remove_23 rfl (lv_at hl 0 rfl) ?_
        refine lv_aload_n hx hb dX6_remove_24 rfl (lv_at hl 2 rfl) ?_
        refine va_get (D := (dC, dI)) (ci := 6) (v := .int 4) (C := RX6) (T := TX6) (N := 4) hx hb hts iw_r_remove_32_X6 hown hK hP 0 rfl rfl 0 (by decide) (hts (.fieldLink RX6 24 "ThriceCounted$Rows" "width" "I") (by decide +kernel)) (fun _ h9 => h9) rfl dX6_remove_25 ?_
        refine lv_icmp_ge (tgt := 51) hx hb dX6_remove_28 (by decide) (fun c_12 => ?_) (fun c_12 => ?_)
        · exact absurd c_12 (by decide)
        · refine lv_aload_n hx hb dX6_remove_31 rfl (lv_at hl 2 rfl) ?_
          refine lv_iload_n hx hb dX6_remove_32 rfl (lv_at hl 1 rfl) ?_
          refine lv_iload_n hx hb dX6_remove_33 rfl (lv_at hl 0 rfl) ?_
          refine lv_aload_n hx hb dX6_remove_34 rfl (lv_at hl 2 rfl) ?_
          refine lv_iload_n hx hb dX6_remove_35 rfl (lv_at hl 1 rfl) ?_
          refine lv_iconst (v := 1) hx hb dX6_remove_36 (by decide) ?_
          refine lv_iadd hx hb dX6_remove_37 ?_
          refine tz_i (nI (ii + 1)) (nI_add ii 1) ?_
          refine lv_iload_n hx hb dX6_remove_38 rfl (lv_at hl 0 rfl) ?_
          have hPc_13 := hP.sub (ws' := [(ro, .inr (6, [.int 4, .int 8, .ref ca, .int (nI nz)])), (ca, .inl (cc0, 32, .inl fq))]) [0, 1] rfl
          have hKc_14 := hK.sub (tys' := [(cc0, .int)]) [0] rfl
          refine vp_callSi (va_Run.run (va_runV (As := [.int (nI (ii + 1)), .int 0]) (rest := [.int 0, .int (nI ii), .ref ro]) ⟨hx, hb, hml, hown, hts⟩ (r_get_32 l dC dI ro ca nz cc0 fq (nI (ii + 1)) 0 hz) (cwV 2 hts gX6_remove_X6_get rfl rfl rfl (by decide +kernel) ⟨Nat.le_of_ble_eq_true rfl, Nat.le_of_ble_eq_true rfl⟩) ⟨fun a U g mk q => by obtain ⟨q0, qP, qK⟩ := q; exact ⟨q0, qP, va_K.moved (u := U) (U := U.calling g mk a) (Vm.Alike.refl U.vm) qK⟩, va_recv hK hP (ci := 6) (q0 := 0) rfl rfl, fun U hU hW => ⟨rfl, by rw [hU]; exact hPc_13, va_K.moved hW.alike hKc_14⟩⟩ rfl rfl hl.1 rfl (lv_room (Nat.le_of_ble_eq_true rfl)) dX6_remove_39 ⟨Nat.le_of_ble_eq_true rfl, Nat.le_of_ble_eq_true rfl⟩)) (fun r_15 hw_16 => ?_)
          have hPc := hP.sub (ws' := [(ro, .inr (6, [.int 4, .int 8, .ref ca, .int (nI nz)])), (ca, .inl (cc0, 32, .inl fq))]) [0, 1] rfl
          have hDc := hD.sub (ws' := [(ro, .inr (6, [.int 4, .int 8, .ref ca, .int (nI nz)])), (ca, .inl (cc0, 32, .inl fq))]) [0, 1] (by decide) rfl
          have hKc := hK.sub (tys' := [(cc0, .int)]) [0] rfl
          have hFc := va_free (wc := [(ro, .inr (6, [.int 4, .int 8, .ref ca, .int (nI nz)])), (ca, .inl (cc0, 32, .inl fq))]) hD hS hA [0, 1] rfl
          refine va_callv (va_runV (As := [.int (nI ii), .int 0, .int r_15]) (rest := []) ⟨hx, hb, hml, hown, hts⟩ (r_put_32 l dC dI ro ca nz cc0 fq (nI ii) 0 r_15 H.size hz) (cwV 3 hts gX6_remove_X6_put rfl rfl rfl (by decide +kernel) ⟨Nat.le_of_ble_eq_true rfl, Nat.le_of_ble_eq_true rfl⟩) ⟨fun a U g mk q => by obtain ⟨q0, q1, qP, qK, qD⟩ := q; exact ⟨q0, q1, qP, va_K.moved (u := U) (U := U.calling g mk a) (Vm.Alike.refl U.vm) qK, qD⟩, va_recv hK hP (ci := 6) (q0 := 0) rfl rfl, fun U hU hW => ⟨rfl, by rw [hU], by rw [hU]; exact hPc, va_K.moved hW.alike hKc, hDc.weaken (fun _ _ _ _ => trivial)⟩⟩ rfl rfl hl.1 rfl (lv_room (Nat.le_of_ble_eq_true rfl)) dX6_remove_42 ⟨Nat.le_of_ble_eq_true rfl, Nat.le_of_ble_eq_true rfl⟩) hS (fun q _ h => hFc q h) hFc (fun u_ t H1 locs ht hvm hw_18 hB hz1 hk1 hS => ?_)
          obtain ⟨fg_19, hP1, hK1, hD1⟩ := hB
          rw [ht] at hP1
          have hK1 := va_K.moved hvm.symm hK1
          obtain ⟨hP, hD⟩ := va_join (wr := []) (w1 := [(ro, .inr (6, [.int 4, .int 8, .ref ca, .int (nI nz)])), (ca, .inl (cc0, 32, .inl fg_19))]) hP hD [0, 1] [] rfl rfl (by decide) (by decide) hk1 hFc hP1 hD1
          generalize H1 = H at hP hS ⊢
          have hP : va_P (dC, dI) vwCl [(ro, .inr (6, [.int 4, .int 8, .ref ca, .int (nI nz)])), (ca, .inl (cc0, 32, .inl fg_19))] H := hP
          have hD : va_D A [(ro, .inr (6, [.int 4, .int 8, .ref ca, .int (nI nz)])), (ca, .inl (cc0, 32, .inl fg_19))] := hD
          refine lv_iinc (v := 1) (lv' := [(3, .int 1), (2, .int (nI ii)), (0, .ref ro), (1, .int (nI j1))]) hx hb dX6_remove_45 hl (k := 0) rfl (by decide) (by decide) rfl (fun ls hl => ?_)
          refine lv_goto (tgt := 23) hx hb dX6_remove_48 (by decide) ?_
          refine lv_iload_n hx hb dX6_remove_23 rfl (lv_at hl 0 rfl) ?_
          refine lv_aload_n hx hb dX6_remove_24 rfl (lv_at hl 2 rfl) ?_
          refine va_get (D := (dC, dI)) (ci := 6) (v := .int 4) (C := RX6) (T := TX6) (N := 4) hx hb hts iw_r_remove_32_X6 hown hK hP 0 rfl rfl 0 (by decide) (hts (.fieldLink RX6 24 "ThriceCounted$Rows" "width" "I") (by decide +kernel)) (fun _ h9 => h9) rfl dX6_remove_25 ?_
          refine lv_icmp_ge (tgt := 51) hx hb dX6_remove_28 (by decide) (fun c_20 => ?_) (fun c_20 => ?_)
          · exact absurd c_20 (by decide)
          · refine lv_aload_n hx hb dX6_remove_31 rfl (lv_at hl 2 rfl) ?_
            refine lv_iload_n hx hb dX6_remove_32 rfl (lv_at hl 1 rfl) ?_
            refine lv_iload_n hx hb dX6_remove_33 rfl (lv_at hl 0 rfl) ?_
            refine lv_aload_n hx hb dX6_remove_34 rfl (lv_at hl 2 rfl) ?_
            refine lv_iload_n hx hb dX6_remove_35 rfl (lv_at hl 1 rfl) ?_
            refine lv_iconst (v := 1) hx hb dX6_remove_36 (by decide) ?_
            refine lv_iadd hx hb dX6_remove_37 ?_
            refine tz_i (nI (ii + 1)) (nI_add ii 1) ?_
            refine lv_iload_n hx hb dX6_remove_38 rfl (lv_at hl 0 rfl) ?_
            have hPc_21 := hP.sub (ws' := [(ro, .inr (6, [.int 4, .int 8, .ref ca, .int (nI nz)])), (ca, .inl (cc0, 32, .inl fg_19))]) [0, 1] rfl
            have hKc_22 := hK.sub (tys' := [(cc0, .int)]) [0] rfl
            refine vp_callSi (va_Run.run (va_runV (As := [.int (nI (ii + 1)), .int 1]) (rest := [.int 1, .int (nI ii), .ref ro]) ⟨hx, hb, hml, hown, hts⟩ (r_get_32 l dC dI ro ca nz cc0 fg_19 (nI (ii + 1)) 1 hz) (cwV 2 hts gX6_remove_X6_get rfl rfl rfl (by decide +kernel) ⟨Nat.le_of_ble_eq_true rfl, Nat.le_of_ble_eq_true rfl⟩) ⟨fun a U g mk q => by obtain ⟨q0, qP, qK⟩ := q; exact ⟨q0, qP, va_K.moved (u := U) (U := U.calling g mk a) (Vm.Alike.refl U.vm) qK⟩, va_recv hK hP (ci := 6) (q0 := 0) rfl rfl, fun U hU hW => ⟨rfl, by rw [hU]; exact hPc_21, va_K.moved hW.alike hKc_22⟩⟩ rfl rfl hl.1 rfl (lv_room (Nat.le_of_ble_eq_true rfl)) dX6_remove_39 ⟨Nat.le_of_ble_eq_true rfl, Nat.le_of_ble_eq_true rfl⟩)) (fun r_23 hw_24 => ?_)
            have hPc := hP.sub (ws' := [(ro, .inr (6, [.int 4, .int 8, .ref ca, .int (nI nz)])), (ca, .inl (cc0, 32, .inl fg_19))]) [0, 1] rfl
            have hDc := hD.sub (ws' := [(ro, .inr (6, [.int 4, .int 8, .ref ca, .int (nI nz)])), (ca, .inl (cc0, 32, .inl fg_19))]) [0, 1] (by decide) rfl
            have hKc := hK.sub (tys' := [(cc0, .int)]) [0] rfl
            have hFc := va_free (wc := [(ro, .inr (6, [.int 4, .int 8, .ref ca, .int (nI nz)])), (ca, .inl (cc0, 32, .inl fg_19))]) hD hS hA [0, 1] rfl
            refine va_callv (va_runV (As := [.int (nI ii), .int 1, .int r_23]) (rest := []) ⟨hx, hb, hml, hown, hts⟩ (r_put_32 l dC dI ro ca nz cc0 fg_19 (nI ii) 1 r_23 H.size hz) (cwV 3 hts gX6_remove_X6_put rfl rfl rfl (by decide +kernel) ⟨Nat.le_of_ble_eq_true rfl, Nat.le_of_ble_eq_true rfl⟩) ⟨fun a U g mk q => by obtain ⟨q0, q1, qP, qK, qD⟩ := q; exact ⟨q0, q1, qP, va_K.moved (u := U) (U := U.calling g mk a) (Vm.Alike.refl U.vm) qK, qD⟩, va_recv hK hP (ci := 6) (q0 := 0) rfl rfl, fun U hU hW => ⟨rfl, by rw [hU], by rw [hU]; exact hPc, va_K.moved hW.alike hKc, hDc.weaken (fun _ _ _ _ => trivial)⟩⟩ rfl rfl hl.1 rfl (lv_room (Nat.le_of_ble_eq_true rfl)) dX6_remove_42 ⟨Nat.le_of_ble_eq_true rfl, Nat.le_of_ble_eq_true rfl⟩) hS (fun q _ h => hFc q h) hFc (fun u_ t H1 locs ht hvm hw_26 hB hz1 hk1 hS => ?_)
            obtain ⟨fg_27, hP1, hK1, hD1⟩ := hB
            rw [ht] at hP1
            have hK1 := va_K.moved hvm.symm hK1
            obtain ⟨hP, hD⟩ := va_join (wr := []) (w1 := [(ro, .inr (6, [.int 4, .int 8, .ref ca, .int (nI nz)])), (ca, .inl (cc0, 32, .inl fg_27))]) hP hD [0, 1] [] rfl rfl (by decide) (by decide) hk1 hFc hP1 hD1
            generalize H1 = H at hP hS ⊢
            have hP : va_P (dC, dI) vwCl [(ro, .inr (6, [.int 4, .int 8, .ref ca, .int (nI nz)])), (ca, .inl (cc0, 32, .inl fg_27))] H := hP
            have hD : va_D A [(ro, .inr (6, [.int 4, .int 8, .ref ca, .int (nI nz)])), (ca, .inl (cc0, 32, .inl fg_27))] := hD
            refine lv_iinc (v := 2) (lv' := [(3, .int 2), (2, .int (nI ii)), (0, .ref ro), (1, .int (nI j1))]) hx hb dX6_remove_45 hl (k := 0) rfl (by decide) (by decide) rfl (fun ls hl => ?_)
            refine lv_goto (tgt := 23) hx hb dX6_remove_48 (by decide) ?_
            refine lv_iload_n hx hb dX6_remove_23 rfl (lv_at hl 0 rfl) ?_
            refine lv_aload_n hx hb dX6_remove_24 rfl (lv_at hl 2 rfl) ?_
            refine va_get (D := (dC, dI)) (ci := 6) (v := .int 4) (C := RX6) (T := TX6) (N := 4) hx hb hts iw_r_remove_32_X6 hown hK hP 0 rfl rfl 0 (by decide) (hts (.fieldLink RX6 24 "ThriceCounted$Rows" "width" "I") (by decide +kernel)) (fun _ h9 => h9) rfl dX6_remove_25 ?_
            refine lv_icmp_ge (tgt := 51) hx hb dX6_remove_28 (by decide) (fun c_28 => ?_) (fun c_28 => ?_)
            · exact absurd c_28 (by decide)
            · refine lv_aload_n hx hb dX6_remove_31 rfl (lv_at hl 2 rfl) ?_
              refine lv_iload_n hx hb dX6_remove_32 rfl (lv_at hl 1 rfl) ?_
              refine lv_iload_n hx hb dX6_remove_33 rfl (lv_at hl 0 rfl) ?_
              refine lv_aload_n hx hb dX6_remove_34 rfl (lv_at hl 2 rfl) ?_
              refine lv_iload_n hx hb dX6_remove_35 rfl (lv_at hl 1 rfl) ?_
              refine lv_iconst (v := 1) hx hb dX6_remove_36 (by decide) ?_
              refine lv_iadd hx hb dX6_remove_37 ?_
              refine tz_i (nI (ii + 1)) (nI_add ii 1) ?_
              refine lv_iload_n hx hb dX6_remove_38 rfl (lv_at hl 0 rfl) ?_
              have hPc_29 := hP.sub (ws' := [(ro, .inr (6, [.int 4, .int 8, .ref ca, .int (nI nz)])), (ca, .inl (cc0, 32, .inl fg_27))]) [0, 1] rfl
              have hKc_30 := hK.sub (tys' := [(cc0, .int)]) [0] rfl
              refine vp_callSi (va_Run.run (va_runV (As := [.int (nI (ii + 1)), .int 2]) (rest := [.int 2, .int (nI ii), .ref ro]) ⟨hx, hb, hml, hown, hts⟩ (r_get_32 l dC dI ro ca nz cc0 fg_27 (nI (ii + 1)) 2 hz) (cwV 2 hts gX6_remove_X6_get rfl rfl rfl (by decide +kernel) ⟨Nat.le_of_ble_eq_true rfl, Nat.le_of_ble_eq_true rfl⟩) ⟨fun a U g mk q => by obtain ⟨q0, qP, qK⟩ := q; exact ⟨q0, qP, va_K.moved (u := U) (U := U.calling g mk a) (Vm.Alike.refl U.vm) qK⟩, va_recv hK hP (ci := 6) (q0 := 0) rfl rfl, fun U hU hW => ⟨rfl, by rw [hU]; exact hPc_29, va_K.moved hW.alike hKc_30⟩⟩ rfl rfl hl.1 rfl (lv_room (Nat.le_of_ble_eq_true rfl)) dX6_remove_39 ⟨Nat.le_of_ble_eq_true rfl, Nat.le_of_ble_eq_true rfl⟩)) (fun r_31 hw_32 => ?_)
              have hPc := hP.sub (ws' := [(ro, .inr (6, [.int 4, .int 8, .ref ca, .int (nI nz)])), (ca, .inl (cc0, 32, .inl fg_27))]) [0, 1] rfl
              have hDc := hD.sub (ws' := [(ro, .inr (6, [.int 4, .int 8, .ref ca, .int (nI nz)])), (ca, .inl (cc0, 32, .inl fg_27))]) [0, 1] (by decide) rfl
              have hKc := hK.sub (tys' := [(cc0, .int)]) [0] rfl
              have hFc := va_free (wc := [(ro, .inr (6, [.int 4, .int 8, .ref ca, .int (nI nz)])), (ca, .inl (cc0, 32, .inl fg_27))]) hD hS hA [0, 1] rfl
              refine va_callv (va_runV (As := [.int (nI ii), .int 2, .int r_31]) (rest := []) ⟨hx, hb, hml, hown, hts⟩ (r_put_32 l dC dI ro ca nz cc0 fg_27 (nI ii) 2 r_31 H.size hz) (cwV 3 hts gX6_remove_X6_put rfl rfl rfl (by decide +kernel) ⟨Nat.le_of_ble_eq_true rfl, Nat.le_of_ble_eq_true rfl⟩) ⟨fun a U g mk q => by obtain ⟨q0, q1, qP, qK, qD⟩ := q; exact ⟨q0, q1, qP, va_K.moved (u := U) (U := U.calling g mk a) (Vm.Alike.refl U.vm) qK, qD⟩, va_recv hK hP (ci := 6) (q0 := 0) rfl rfl, fun U hU hW => ⟨rfl, by rw [hU], by rw [hU]; exact hPc, va_K.moved hW.alike hKc, hDc.weaken (fun _ _ _ _ => trivial)⟩⟩ rfl rfl hl.1 rfl (lv_room (Nat.le_of_ble_eq_true rfl)) dX6_remove_42 ⟨Nat.le_of_ble_eq_true rfl, Nat.le_of_ble_eq_true rfl⟩) hS (fun q _ h => hFc q h) hFc (fun u_ t H1 locs ht hvm hw_34 hB hz1 hk1 hS => ?_)
              obtain ⟨fg_35, hP1, hK1, hD1⟩ := hB
              rw [ht] at hP1
              have hK1 := va_K.moved hvm.symm hK1
              obtain ⟨hP, hD⟩ := va_join (wr := []) (w1 := [(ro, .inr (6, [.int 4, .int 8, .ref ca, .int (nI nz)])), (ca, .inl (cc0, 32, .inl fg_35))]) hP hD [0, 1] [] rfl rfl (by decide) (by decide) hk1 hFc hP1 hD1
              generalize H1 = H at hP hS ⊢
              have hP : va_P (dC, dI) vwCl [(ro, .inr (6, [.int 4, .int 8, .ref ca, .int (nI nz)])), (ca, .inl (cc0, 32, .inl fg_35))] H := hP
              have hD : va_D A [(ro, .inr (6, [.int 4, .int 8, .ref ca, .int (nI nz)])), (ca, .inl (cc0, 32, .inl fg_35))] := hD
              refine lv_iinc (v := 3) (lv' := [(3, .int 3), (2, .int (nI ii)), (0, .ref ro), (1, .int (nI j1))]) hx hb dX6_remove_45 hl (k := 0) rfl (by decide) (by decide) rfl (fun ls hl => ?_)
              refine lv_goto (tgt := 23) hx hb dX6_remove_48 (by decide) ?_
              refine lv_iload_n hx hb dX6_remove_23 rfl (lv_at hl 0 rfl) ?_
              refine lv_aload_n hx hb dX6_remove_24 rfl (lv_at hl 2 rfl) ?_
              refine va_get (D := (dC, dI)) (ci := 6) (v := .int 4) (C := RX6) (T := TX6) (N := 4) hx hb hts iw_r_remove_32_X6 hown hK hP 0 rfl rfl 0 (by decide) (hts (.fieldLink RX6 24 "ThriceCounted$Rows" "width" "I") (by decide +kernel)) (fun _ h9 => h9) rfl dX6_remove_25 ?_
              refine lv_icmp_ge (tgt := 51) hx hb dX6_remove_28 (by decide) (fun c_36 => ?_) (fun c_36 => ?_)
              · exact absurd c_36 (by decide)
              · refine lv_aload_n hx hb dX6_remove_31 rfl (lv_at hl 2 rfl) ?_
                refine lv_iload_n hx hb dX6_remove_32 rfl (lv_at hl 1 rfl) ?_
                refine lv_iload_n hx hb dX6_remove_33 rfl (lv_at hl 0 rfl) ?_
                refine lv_aload_n hx hb dX6_remove_34 rfl (lv_at hl 2 rfl) ?_
                refine lv_iload_n hx hb dX6_remove_35 rfl (lv_at hl 1 rfl) ?_
                refine lv_iconst (v := 1) hx hb dX6_remove_36 (by decide) ?_
                refine lv_iadd hx hb dX6_remove_37 ?_
                refine tz_i (nI (ii + 1)) (nI_add ii 1) ?_
                refine lv_iload_n hx hb dX6_remove_38 rfl (lv_at hl 0 rfl) ?_
                have hPc_37 := hP.sub (ws' := [(ro, .inr (6, [.int 4, .int 8, .ref ca, .int (nI nz)])), (ca, .inl (cc0, 32, .inl fg_35))]) [0, 1] rfl
                have hKc_38 := hK.sub (tys' := [(cc0, .int)]) [0] rfl
                refine vp_callSi (va_Run.run (va_runV (As := [.int (nI (ii + 1)), .int 3]) (rest := [.int 3, .int (nI ii), .ref ro]) ⟨hx, hb, hml, hown, hts⟩ (r_get_32 l dC dI ro ca nz cc0 fg_35 (nI (ii + 1)) 3 hz) (cwV 2 hts gX6_remove_X6_get rfl rfl rfl (by decide +kernel) ⟨Nat.le_of_ble_eq_true rfl, Nat.le_of_ble_eq_true rfl⟩) ⟨fun a U g mk q => by obtain ⟨q0, qP, qK⟩ := q; exact ⟨q0, qP, va_K.moved (u := U) (U := U.calling g mk a) (Vm.Alike.refl U.vm) qK⟩, va_recv hK hP (ci := 6) (q0 := 0) rfl rfl, fun U hU hW => ⟨rfl, by rw [hU]; exact hPc_37, va_K.moved hW.alike hKc_38⟩⟩ rfl rfl hl.1 rfl (lv_room (Nat.le_of_ble_eq_true rfl)) dX6_remove_39 ⟨Nat.le_of_ble_eq_true rfl, Nat.le_of_ble_eq_true rfl⟩)) (fun r_39 hw_40 => ?_)
                have hPc := hP.sub (ws' := [(ro, .inr (6, [.int 4, .int 8, .ref ca, .int (nI nz)])), (ca, .inl (cc0, 32, .inl fg_35))]) [0, 1] rfl
                have hDc := hD.sub (ws' := [(ro, .inr (6, [.int 4, .int 8, .ref ca, .int (nI nz)])), (ca, .inl (cc0, 32, .inl fg_35))]) [0, 1] (by decide) rfl
                have hKc := hK.sub (tys' := [(cc0, .int)]) [0] rfl
                have hFc := va_free (wc := [(ro, .inr (6, [.int 4, .int 8, .ref ca, .int (nI nz)])), (ca, .inl (cc0, 32, .inl fg_35))]) hD hS hA [0, 1] rfl
                refine va_callv (va_runV (As := [.int (nI ii), .int 3, .int r_39]) (rest := []) ⟨hx, hb, hml, hown, hts⟩ (r_put_32 l dC dI ro ca nz cc0 fg_35 (nI ii) 3 r_39 H.size hz) (cwV 3 hts gX6_remove_X6_put rfl rfl rfl (by decide +kernel) ⟨Nat.le_of_ble_eq_true rfl, Nat.le_of_ble_eq_true rfl⟩) ⟨fun a U g mk q => by obtain ⟨q0, q1, qP, qK, qD⟩ := q; exact ⟨q0, q1, qP, va_K.moved (u := U) (U := U.calling g mk a) (Vm.Alike.refl U.vm) qK, qD⟩, va_recv hK hP (ci := 6) (q0 := 0) rfl rfl, fun U hU hW => ⟨rfl, by rw [hU], by rw [hU]; exact hPc, va_K.moved hW.alike hKc, hDc.weaken (fun _ _ _ _ => trivial)⟩⟩ rfl rfl hl.1 rfl (lv_room (Nat.le_of_ble_eq_true rfl)) dX6_remove_42 ⟨Nat.le_of_ble_eq_true rfl, Nat.le_of_ble_eq_true rfl⟩) hS (fun q _ h => hFc q h) hFc (fun u_ t H1 locs ht hvm hw_42 hB hz1 hk1 hS => ?_)
                obtain ⟨fg_43, hP1, hK1, hD1⟩ := hB
                rw [ht] at hP1
                have hK1 := va_K.moved hvm.symm hK1
                obtain ⟨hP, hD⟩ := va_join (wr := []) (w1 := [(ro, .inr (6, [.int 4, .int 8, .ref ca, .int (nI nz)])), (ca, .inl (cc0, 32, .inl fg_43))]) hP hD [0, 1] [] rfl rfl (by decide) (by decide) hk1 hFc hP1 hD1
                generalize H1 = H at hP hS ⊢
                have hP : va_P (dC, dI) vwCl [(ro, .inr (6, [.int 4, .int 8, .ref ca, .int (nI nz)])), (ca, .inl (cc0, 32, .inl fg_43))] H := hP
                have hD : va_D A [(ro, .inr (6, [.int 4, .int 8, .ref ca, .int (nI nz)])), (ca, .inl (cc0, 32, .inl fg_43))] := hD
                refine lv_iinc (v := 4) (lv' := [(3, .int 4), (2, .int (nI ii)), (0, .ref ro), (1, .int (nI j1))]) hx hb dX6_remove_45 hl (k := 0) rfl (by decide) (by decide) rfl (fun ls hl => ?_)
                refine lv_goto (tgt := 23) hx hb dX6_remove_48 (by decide) ?_
                refine lv_iload_n hx hb dX6_remove_23 rfl (lv_at hl 0 rfl) ?_
                refine lv_aload_n hx hb dX6_remove_24 rfl (lv_at hl 2 rfl) ?_
                refine va_get (D := (dC, dI)) (ci := 6) (v := .int 4) (C := RX6) (T := TX6) (N := 4) hx hb hts iw_r_remove_32_X6 hown hK hP 0 rfl rfl 0 (by decide) (hts (.fieldLink RX6 24 "ThriceCounted$Rows" "width" "I") (by decide +kernel)) (fun _ h9 => h9) rfl dX6_remove_25 ?_
                refine lv_icmp_ge (tgt := 51) hx hb dX6_remove_28 (by decide) (fun c_44 => ?_) (fun c_44 => ?_)
                · refine lv_iinc (v := (nI (ii + 1))) (lv' := [(2, .int (nI (ii + 1))), (3, .int 4), (0, .ref ro), (1, .int (nI j1))]) hx hb dX6_remove_51 hl (k := 1) rfl (nI_add ii 1) (by decide) rfl (fun ls hl => ?_)
                  refine lv_goto (tgt := 11) hx hb dX6_remove_54 (by decide) ?_
                  exact ih_8 ((ii + 1), fg_43, H, locs, ls) ⟨by dsimp only; omega, hP, hD, hS, lv_sub hl [0, 2, 3] rfl⟩ (by dsimp only; omega)
                · exact absurd c_44 (by decide)
    · exact absurd c_6 (by decide)
  · obtain rfl : 0 = r_3 := (hw_4.trans (if_neg hc_5)).symm
    refine lv_if_ne (tgt := 9) hx hb dX6_remove_5 (by decide) (fun c_45 => ?_) (fun c_45 => ?_)
    · exact absurd c_45 (by decide)
    · have hP9 := hP.sub (ws' := [(ro, .inr (6, [.int 4, .int 8, .ref ca, .int (nI nz)])), (ca, .inl (cc0, 32, .inl ff))]) [0, 1] rfl
      have hD9 := hD.sub (ws' := [(ro, .inr (6, [.int 4, .int 8, .ref ca, .int (nI nz)])), (ca, .inl (cc0, 32, .inl ff))]) [0, 1] (by decide) rfl
      have hK9 := hK.sub (tys' := [(cc0, .int)]) [0] rfl
      exact W.vret hx hb hr (fun t ht hW => ⟨⟨(), rfl, trivial, nz, ff, hz, by rw [ht]; exact hP9, va_K.moved hW.alike hK9, hD9⟩, hS.F ht⟩) hS.2.2 dX6_remove_8
set_option maxRecDepth 20000 in
theorem iw_r_mix_32_X6 : ∀ w ∈ wsX60, w ∈ wsX6_mixInto := by decide +kernel
set_option maxHeartbeats 4000000 in
set_option maxRecDepth 100000 in
theorem r_mix_32 (l : Launch) (dC : Nat → ClassId) (dI : Nat → Nat → Nat) (ro : Nat) (ca : Nat) (nz : Nat) (cc0 : ClassId) (ff : Nat → Int32) (hh : Int64) (hz : nz ≤ 8) : Met l yX6_mixInto wsX6_mixInto ({ frames := 0, cells := 0, slots := 0, locals := 0 }) (va_Pc [.ref ro, .long hh] (fun U => va_P (dC, dI) vwCl [(ro, .inr (6, [.int 4, .int 8, .ref ca, .int (nI nz)])), (ca, .inl (cc0, 32, .inl ff))] U.heap ∧ va_K (dC, dI) vwCl [(cc0, .int)] U)) (vp_Sl (fun r => True)) 0 0 (fun _ => False) := by
  refine Met.ofW (cc := cX6_mixInto) (maxL := 6) (ret := (some .long)) (by decide) rfl ?_
  intro p e s m args below meth c s₁ B hml hv
  obtain ⟨rfl, hP, hK⟩ := hv
  have hx := B.exec
  have hb := B.bytes
  have hr := B.returns
  have hts := atoms_spec (ws := wsX6_mixInto) B.pre
  have hown : s.vm.findClass RX6 = some m.cls := findClass_of_methodNamed B.named
  have hlocks := B.notSynchronized
  have hl := lv_entry ([.ref ro, .long hh]) (n := 6) (Nat.le_of_ble_eq_true rfl)
  rw [lg_entry_eq]
  generalize (lg_sl ([.ref ro, .long hh]) ++ List.replicate (6 - (lg_sl ([.ref ro, .long hh])).length) Slot.unset).toArray = ls at hl ⊢
  have hl : lv_has ls 6 [(0, .ref ro), (1, .long hh)] := hl
  refine lv_lload_n hx hb dX6_mixInto_0 rfl (lv_at hl 1 rfl) ?_
  refine lv_lstore_n (lv' := [(3, .long hh), (0, .ref ro), (1, .long hh)]) hx hb dX6_mixInto_1 rfl hl (by decide) rfl (fun ls hl => ?_)
  refine lv_iconst (v := 0) hx hb dX6_mixInto_2 (by decide) ?_
  refine lv_istore (lv' := [(5, .int 0), (3, .long hh), (0, .ref ro), (1, .long hh)]) hx hb dX6_mixInto_3 hl (by decide) rfl (fun ls hl => ?_)
  refine tz_while (σ := Nat × Int64 × Array Slot) (fun x => W p l e _ s m _ below meth c _ _ _ _ _ (F0 m 5 x.2.2 [])) (fun x => x.1 ≤ 64 ∧ lv_has x.2.2 6 [(5, .int (nI x.1)), (3, .long x.2.1), (0, .ref ro), (1, .long hh)]) (fun x => 65 - x.1) ?_ (0, hh, ls) ⟨by omega, hl⟩
  rintro ⟨kk, mh, ls⟩ ⟨hi_1_0, hl⟩ ih_2
  dsimp only at hi_1_0 hl ih_2 ⊢
  refine lv_iload hx hb dX6_mixInto_5 (lv_at hl 0 rfl) ?_
  refine lv_aload_n hx hb dX6_mixInto_7 rfl (lv_at hl 2 rfl) ?_
  refine va_get (D := (dC, dI)) (ci := 6) (v := .int (nI nz)) (C := RX6) (T := TX6) (N := 4) hx hb hts iw_r_mix_32_X6 hown hK hP 0 rfl rfl 3 (by decide) (hts (.fieldLink RX6 9 "ThriceCounted$Rows" "size" "I") (by decide +kernel)) (fun _ h9 => h9) rfl dX6_mixInto_8 ?_
  refine lv_aload_n hx hb dX6_mixInto_11 rfl (lv_at hl 2 rfl) ?_
  refine va_get (D := (dC, dI)) (ci := 6) (v := .int 4) (C := RX6) (T := TX6) (N := 4) hx hb hts iw_r_mix_32_X6 hown hK hP 0 rfl rfl 0 (by decide) (hts (.fieldLink RX6 24 "ThriceCounted$Rows" "width" "I") (by decide +kernel)) (fun _ h9 => h9) rfl dX6_mixInto_12 ?_
  refine lv_imul hx hb dX6_mixInto_15 ?_
  refine tz_i (nI (nz * 4)) (pk_mul nz 4) ?_
  refine lv_icmp_ge (tgt := 50) hx hb dX6_mixInto_16 (by decide) (fun c_3 => ?_) (fun c_3 => ?_)
  · have hn_4 : (nz * 4) ≤ kk := (nI_leI (a := (nz * 4)) (b := kk) (by omega) (by omega)).mp c_3
    refine lv_lload_n hx hb dX6_mixInto_50 rfl (lv_at hl 1 rfl) ?_
    exact W.lret (v := mh) hx hb hr (fun t ht hW => ⟨mh, rfl, trivial, ht⟩) (fun _ h => absurd h List.not_mem_nil) dX6_mixInto_51
  · have hn_5 : ¬ (nz * 4) ≤ kk := fun q => c_3 ((nI_leI (a := (nz * 4)) (b := kk) (by omega) (by omega)).mpr q)
    refine lv_iload hx hb dX6_mixInto_19 (lv_at hl 0 rfl) ?_
    refine lv_aload_n hx hb dX6_mixInto_21 rfl (lv_at hl 2 rfl) ?_
    refine va_get (D := (dC, dI)) (ci := 6) (v := .ref ca) (C := RX6) (T := TX6) (N := 4) hx hb hts iw_r_mix_32_X6 hown hK hP 0 rfl rfl 2 (by decide) (hts (.fieldLink RX6 27 "ThriceCounted$Rows" "cells" "[I") (by decide +kernel)) (fun _ h9 => h9) rfl dX6_mixInto_22 ?_
    refine va_alen (v := 32) hx hb hK hP 1 0 rfl rfl rfl dX6_mixInto_25 ?_
    refine lv_icmp_ge (tgt := 50) hx hb dX6_mixInto_26 (by decide) (fun c_6 => ?_) (fun c_6 => ?_)
    · have hn_7 : 32 ≤ kk := (nI_leI (a := 32) (b := kk) (by omega) (by omega)).mp c_6
      refine lv_lload_n hx hb dX6_mixInto_50 rfl (lv_at hl 1 rfl) ?_
      exact W.lret (v := mh) hx hb hr (fun t ht hW => ⟨mh, rfl, trivial, ht⟩) (fun _ h => absurd h List.not_mem_nil) dX6_mixInto_51
    · have hn_8 : ¬ 32 ≤ kk := fun q => c_6 ((nI_leI (a := 32) (b := kk) (by omega) (by omega)).mpr q)
      refine lv_ldc2 hx hb hown (hts (.constantLong RX6 59 (31)) (by decide +kernel)) dX6_mixInto_29 ?_
      refine lv_lload_n hx hb dX6_mixInto_32 rfl (lv_at hl 1 rfl) ?_
      refine lv_lmul hx hb dX6_mixInto_33 ?_
      refine lv_topl (fun x_9 _ => ?_)
      refine lv_aload_n hx hb dX6_mixInto_34 rfl (lv_at hl 2 rfl) ?_
      refine va_get (D := (dC, dI)) (ci := 6) (v := .ref ca) (C := RX6) (T := TX6) (N := 4) hx hb hts iw_r_mix_32_X6 hown hK hP 0 rfl rfl 2 (by decide) (hts (.fieldLink RX6 27 "ThriceCounted$Rows" "cells" "[I") (by decide +kernel)) (fun _ h9 => h9) rfl dX6_mixInto_35 ?_
      refine lv_iload hx hb dX6_mixInto_38 (lv_at hl 0 rfl) ?_
      refine va_iald hx hb hK hP 1 0 rfl rfl (vp_in_nI (n := kk) (N := 32) (by omega) (by decide)) dX6_mixInto_40 ?_
      refine lv_topi (fun x_10 _ => ?_)
      refine lv_i2l (v := x_10.toInt64) hx hb dX6_mixInto_41 rfl ?_
      refine lv_ladd hx hb dX6_mixInto_42 ?_
      refine lv_topl (fun x_11 _ => ?_)
      refine lv_lstore_n (lv' := [(3, .long x_11), (5, .int (nI kk)), (0, .ref ro), (1, .long hh)]) hx hb dX6_mixInto_43 rfl hl (by decide) rfl (fun ls hl => ?_)
      refine lv_iinc (v := (nI (kk + 1))) (lv' := [(5, .int (nI (kk + 1))), (3, .long x_11), (0, .ref ro), (1, .long hh)]) hx hb dX6_mixInto_44 hl (k := 1) rfl (nI_add kk 1) (by decide) rfl (fun ls hl => ?_)
      refine lv_goto (tgt := 5) hx hb dX6_mixInto_47 (by decide) ?_
      exact ih_2 ((kk + 1), x_11, ls) ⟨by dsimp only; omega, lv_sub hl [0, 1, 2, 3] rfl⟩ (by dsimp only; omega)
set_option maxRecDepth 20000 in
theorem iw_r_copy_32_X6 : ∀ w ∈ wsX60, w ∈ wsX6_copyFrom := by decide +kernel
set_option maxHeartbeats 4000000 in
set_option maxRecDepth 100000 in
theorem r_copy_32 (l : Launch) (dC : Nat → ClassId) (dI : Nat → Nat → Nat) (ro : Nat) (ca : Nat) (nz : Nat) (cc0 : ClassId) (ff : Nat → Int32) (rp : Nat) (cb : Nat) (ny : Nat) (cc1 : ClassId) (fb : Nat → Int32) (sz : Nat) (hz : nz ≤ 8) (hy : ny ≤ 8) : Met l yX6_copyFrom wsX6_copyFrom ({ frames := 1, cells := 0, slots := 0, locals := 40 }) (va_Pc [.ref ro, .ref rp] (fun U => U.heap.size = sz ∧ va_P (dC, dI) vwCl [(ro, .inr (6, [.int 4, .int 8, .ref ca, .int (nI nz)])), (ca, .inl (cc0, 32, .inl ff)), (rp, .inr (6, [.int 4, .int 8, .ref cb, .int (nI ny)])), (cb, .inl (cc1, 32, .inl fb))] U.heap ∧ va_K (dC, dI) vwCl [(cc0, .int), (cc1, .int)] U ∧ va_D (fun _ => True) [(ro, .inr (6, [.int 4, .int 8, .ref ca, .int (nI nz)])), (ca, .inl (cc0, 32, .inl ff)), (rp, .inr (6, [.int 4, .int 8, .ref cb, .int (nI ny)])), (cb, .inl (cc1, 32, .inl fb))])) (va_Qv (fun (_ : Unit) => True) (fun _ t => ∃ (fg : Nat → Int32), va_P (dC, dI) vwCl [(ro, .inr (6, [.int 4, .int 8, .ref ca, .int (nI ny)])), (ca, .inl (cc0, 32, .inl fg)), (rp, .inr (6, [.int 4, .int 8, .ref cb, .int (nI ny)])), (cb, .inl (cc1, 32, .inl fb))] t.heap ∧ va_K (dC, dI) vwCl [(cc0, .int), (cc1, .int)] t ∧ va_D (va_A [(ro, .inr (6, [.int 4, .int 8, .ref ca, .int (nI nz)])), (ca, .inl (cc0, 32, .inl ff)), (rp, .inr (6, [.int 4, .int 8, .ref cb, .int (nI ny)])), (cb, .inl (cc1, 32, .inl fb))] sz) [(ro, .inr (6, [.int 4, .int 8, .ref ca, .int (nI ny)])), (ca, .inl (cc0, 32, .inl fg)), (rp, .inr (6, [.int 4, .int 8, .ref cb, .int (nI ny)])), (cb, .inl (cc1, 32, .inl fb))]) (va_A [(ro, .inr (6, [.int 4, .int 8, .ref ca, .int (nI nz)])), (ca, .inl (cc0, 32, .inl ff)), (rp, .inr (6, [.int 4, .int 8, .ref cb, .int (nI ny)])), (cb, .inl (cc1, 32, .inl fb))] sz)) 0 0 (va_A [(ro, .inr (6, [.int 4, .int 8, .ref ca, .int (nI nz)])), (ca, .inl (cc0, 32, .inl ff)), (rp, .inr (6, [.int 4, .int 8, .ref cb, .int (nI ny)])), (cb, .inl (cc1, 32, .inl fb))] sz) := by
  refine Met.ofW (cc := cX6_copyFrom) (maxL := 2) (ret := none) (by decide) rfl ?_
  intro p e s m args below meth c s₁ B hml hv
  obtain ⟨rfl, hsz, hP, hK, hD0⟩ := hv
  have hx := B.exec
  have hb := B.bytes
  have hr := B.returns
  have hts := atoms_spec (ws := wsX6_copyFrom) B.pre
  have hown : s.vm.findClass RX6 = some m.cls := findClass_of_methodNamed B.named
  have hlocks := B.notSynchronized
  subst hsz
  have hD := hD0.self (sz := s.heap.size)
  generalize hAe : va_A [(ro, .inr (6, [.int 4, .int 8, .ref ca, .int (nI nz)])), (ca, .inl (cc0, 32, .inl ff)), (rp, .inr (6, [.int 4, .int 8, .ref cb, .int (nI ny)])), (cb, .inl (cc1, 32, .inl fb))] s.heap.size = A at hD ⊢
  have hA : ∀ q : Nat, s.heap.size ≤ q → A q := fun q h => by rw [← hAe]; exact Or.inr h
  have hS : va_S A s.heap s.heap [] := va_S.rf
  have hP : va_P (dC, dI) vwCl [(ro, .inr (6, [.int 4, .int 8, .ref ca, .int (nI nz)])), (ca, .inl (cc0, 32, .inl ff)), (rp, .inr (6, [.int 4, .int 8, .ref cb, .int (nI ny)])), (cb, .inl (cc1, 32, .inl fb))] s.heap := hP
  have hl := lv_entry ([.ref ro, .ref rp]) (n := 2) (Nat.le_of_ble_eq_true rfl)
  rw [lg_entry_eq]
  generalize (lg_sl ([.ref ro, .ref rp]) ++ List.replicate (2 - (lg_sl ([.ref ro, .ref rp])).length) Slot.unset).toArray = ls at hl ⊢
  have hl : lv_has ls 2 [(0, .ref ro), (1, .ref rp)] := hl
  refine lv_aload_n hx hb dX6_copyFrom_0 rfl (lv_at hl 0 rfl) ?_
  refine lv_aload_n hx hb dX6_copyFrom_1 rfl (lv_at hl 0 rfl) ?_
  refine va_get (D := (dC, dI)) (ci := 6) (v := .int 8) (C := RX6) (T := TX6) (N := 4) hx hb hts iw_r_copy_32_X6 hown hK hP 0 rfl rfl 1 (by decide) (hts (.fieldLink RX6 21 "ThriceCounted$Rows" "limit" "I") (by decide +kernel)) (fun _ h9 => h9) rfl dX6_copyFrom_2 ?_
  refine lv_aload_n hx hb dX6_copyFrom_5 rfl (lv_at hl 1 rfl) ?_
  refine va_get (D := (dC, dI)) (ci := 6) (v := .int (nI ny)) (C := RX6) (T := TX6) (N := 4) hx hb hts iw_r_copy_32_X6 hown hK hP 2 rfl rfl 3 (by decide) (hts (.fieldLink RX6 9 "ThriceCounted$Rows" "size" "I") (by decide +kernel)) (fun _ h9 => h9) rfl dX6_copyFrom_6 ?_
  refine va_mmin hx hb (hml.trans hl.1.symm) hown (hts (.methodLink RX6 50 Lib.Math.min.name) (by decide +kernel)) (hts (.static Lib.Math.min.name) (by decide +kernel)) (hts (.initialized "java/lang/Math") (by decide +kernel)) (hts (.code Lib.Math.min.name Lib.Math.min.code 2 (some .int)) (by decide +kernel)) (Nat.le_of_ble_eq_true rfl) (Nat.le_of_ble_eq_true rfl) (Nat.le_of_ble_eq_true rfl) (Nat.le_of_ble_eq_true rfl) dX6_copyFrom_9 ?_
  refine tz_i (nI ny) (tz_min (b := 8) (by omega) (by omega)) ?_
  refine va_put (D := (dC, dI)) (ci := 6) (v := .int (nI ny)) (ty := .int) (C := RX6) (T := TX6) (N := 4) hx hb hts iw_r_copy_32_X6 tyX6 tyX6_ok nmX6 hown hK hP hD hS 0 rfl rfl 3 (by decide) (hts (.fieldLink RX6 9 "ThriceCounted$Rows" "size" "I") (by decide +kernel)) (fun _ h9 => h9) rfl (by decide +kernel) rfl rfl (Nat.le_of_ble_eq_true rfl) dX6_copyFrom_12 (fun H locs hP hD hS => ?_)
  have hP : va_P (dC, dI) vwCl [(ro, .inr (6, [.int 4, .int 8, .ref ca, .int (nI ny)])), (ca, .inl (cc0, 32, .inl ff)), (rp, .inr (6, [.int 4, .int 8, .ref cb, .int (nI ny)])), (cb, .inl (cc1, 32, .inl fb))] H := hP
  have hD : va_D A [(ro, .inr (6, [.int 4, .int 8, .ref ca, .int (nI ny)])), (ca, .inl (cc0, 32, .inl ff)), (rp, .inr (6, [.int 4, .int 8, .ref cb, .int (nI ny)])), (cb, .inl (cc1, 32, .inl fb))] := hD
  refine lv_aload_n hx hb dX6_copyFrom_15 rfl (lv_at hl 1 rfl) ?_
  refine va_get (D := (dC, dI)) (ci := 6) (v := .ref cb) (C := RX6) (T := TX6) (N := 4) hx hb hts iw_r_copy_32_X6 hown hK hP 2 rfl rfl 2 (by decide) (hts (.fieldLink RX6 27 "ThriceCounted$Rows" "cells" "[I") (by decide +kernel)) (fun _ h9 => h9) rfl dX6_copyFrom_16 ?_
  refine lv_iconst (v := 0) hx hb dX6_copyFrom_19 (by decide) ?_
  refine lv_aload_n hx hb dX6_copyFrom_20 rfl (lv_at hl 0 rfl) ?_
  refine va_get (D := (dC, dI)) (ci := 6) (v := .ref ca) (C := RX6) (T := TX6) (N := 4) hx hb hts iw_r_copy_32_X6 hown hK hP 0 rfl rfl 2 (by decide) (hts (.fieldLink RX6 27 "ThriceCounted$Rows" "cells" "[I") (by decide +kernel)) (fun _ h9 => h9) rfl dX6_copyFrom_21 ?_
  refine lv_iconst (v := 0) hx hb dX6_copyFrom_24 (by decide) ?_
  refine lv_aload_n hx hb dX6_copyFrom_25 rfl (lv_at hl 0 rfl) ?_
  refine va_get (D := (dC, dI)) (ci := 6) (v := .ref ca) (C := RX6) (T := TX6) (N := 4) hx hb hts iw_r_copy_32_X6 hown hK hP 0 rfl rfl 2 (by decide) (hts (.fieldLink RX6 27 "ThriceCounted$Rows" "cells" "[I") (by decide +kernel)) (fun _ h9 => h9) rfl dX6_copyFrom_26 ?_
  refine va_alen (v := 32) hx hb hK hP 1 0 rfl rfl rfl dX6_copyFrom_29 ?_
  refine lv_aload_n hx hb dX6_copyFrom_30 rfl (lv_at hl 1 rfl) ?_
  refine va_get (D := (dC, dI)) (ci := 6) (v := .ref cb) (C := RX6) (T := TX6) (N := 4) hx hb hts iw_r_copy_32_X6 hown hK hP 2 rfl rfl 2 (by decide) (hts (.fieldLink RX6 27 "ThriceCounted$Rows" "cells" "[I") (by decide +kernel)) (fun _ h9 => h9) rfl dX6_copyFrom_31 ?_
  refine va_alen (v := 32) hx hb hK hP 3 1 rfl rfl rfl dX6_copyFrom_34 ?_
  refine va_mmin hx hb (hml.trans hl.1.symm) hown (hts (.methodLink RX6 50 Lib.Math.min.name) (by decide +kernel)) (hts (.static Lib.Math.min.name) (by decide +kernel)) (hts (.initialized "java/lang/Math") (by decide +kernel)) (hts (.code Lib.Math.min.name Lib.Math.min.code 2 (some .int)) (by decide +kernel)) (Nat.le_of_ble_eq_true rfl) (Nat.le_of_ble_eq_true rfl) (Nat.le_of_ble_eq_true rfl) (Nat.le_of_ble_eq_true rfl) dX6_copyFrom_35 ?_
  refine tz_i 32 (by decide) ?_
  refine va_copyi (ty := .int) hx hb (hml.trans hl.1.symm) hown (hts (.methodLink RX6 53 arraycopyName) (by decide +kernel)) (hts (.native arraycopyName) (by decide +kernel)) (hts (.static arraycopyName) (by decide +kernel)) (hts (.initialized "java/lang/System") (by decide +kernel)) hK hP hD hS 3 1 1 0 rfl rfl rfl rfl rfl (by decide) (by decide) (by decide) (by decide) (by decide) (fun _ _ => rfl) (Nat.le_of_ble_eq_true rfl) (Nat.le_of_ble_eq_true rfl) dX6_copyFrom_38 (fun H locs hP hD hS => ?_)
  generalize (va_cpy _ _ _ _ _) = f_1 at hP hD
  have hP : va_P (dC, dI) vwCl [(ro, .inr (6, [.int 4, .int 8, .ref ca, .int (nI ny)])), (ca, .inl (cc0, 32, .inl f_1)), (rp, .inr (6, [.int 4, .int 8, .ref cb, .int (nI ny)])), (cb, .inl (cc1, 32, .inl fb))] H := hP
  have hD : va_D A [(ro, .inr (6, [.int 4, .int 8, .ref ca, .int (nI ny)])), (ca, .inl (cc0, 32, .inl f_1)), (rp, .inr (6, [.int 4, .int 8, .ref cb, .int (nI ny)])), (cb, .inl (cc1, 32, .inl fb))] := hD
  have hP9 := hP.sub (ws' := [(ro, .inr (6, [.int 4, .int 8, .ref ca, .int (nI ny)])), (ca, .inl (cc0, 32, .inl f_1)), (rp, .inr (6, [.int 4, .int 8, .ref cb, .int (nI ny)])), (cb, .inl (cc1, 32, .inl fb))]) [0, 1, 2, 3] rfl
  have hD9 := hD.sub (ws' := [(ro, .inr (6, [.int 4, .int 8, .ref ca, .int (nI ny)])), (ca, .inl (cc0, 32, .inl f_1)), (rp, .inr (6, [.int 4, .int 8, .ref cb, .int (nI ny)])), (cb, .inl (cc1, 32, .inl fb))]) [0, 1, 2, 3] (by decide) rfl
  have hK9 := hK.sub (tys' := [(cc0, .int), (cc1, .int)]) [0, 1] rfl
  exact W.vret hx hb hr (fun t ht hW => ⟨⟨(), rfl, trivial, f_1, by rw [ht]; exact hP9, va_K.moved hW.alike hK9, hD9⟩, hS.F ht⟩) hS.2.2 dX6_copyFrom_41
set_option maxRecDepth 20000 in
theorem iw_r_grow_24_X6 : ∀ w ∈ wsX60, w ∈ wsX6_grow := by decide +kernel
set_option maxHeartbeats 4000000 in
set_option maxRecDepth 100000 in
theorem r_grow_24 (l : Launch) (dC : Nat → ClassId) (dI : Nat → Nat → Nat) (ro : Nat) (ca : Nat) (nz : Nat) (sz : Nat) (hz : nz ≤ 6) : Met l yX6_grow wsX6_grow ({ frames := 1, cells := 0, slots := 0, locals := 20 }) (va_Pc [.ref ro] (fun U => U.heap.size = sz ∧ va_P (dC, dI) vwCl [(ro, .inr (6, [.int 4, .int 6, .ref ca, .int (nI nz)]))] U.heap ∧ va_K (dC, dI) vwCl [] U ∧ va_D (fun _ => True) [(ro, .inr (6, [.int 4, .int 6, .ref ca, .int (nI nz)]))])) (va_Qi (fun (r : Int32) (_ : Unit) => True) (fun _ t => ∃ (zg : Nat), (zg ≤ 6) ∧ va_P (dC, dI) vwCl [(ro, .inr (6, [.int 4, .int 6, .ref ca, .int (nI zg)]))] t.heap ∧ va_K (dC, dI) vwCl [] t ∧ va_D (va_A [(ro, .inr (6, [.int 4, .int 6, .ref ca, .int (nI nz)]))] sz) [(ro, .inr (6, [.int 4, .int 6, .ref ca, .int (nI zg)]))]) (va_A [(ro, .inr (6, [.int 4, .int 6, .ref ca, .int (nI nz)]))] sz)) 0 0 (va_A [(ro, .inr (6, [.int 4, .int 6, .ref ca, .int (nI nz)]))] sz) := by
  refine Met.ofW (cc := cX6_grow) (maxL := 1) (ret := (some .int)) (by decide) rfl ?_
  intro p e s m args below meth c s₁ B hml hv
  obtain ⟨rfl, hsz, hP, hK, hD0⟩ := hv
  have hx := B.exec
  have hb := B.bytes
  have hr := B.returns
  have hts := atoms_spec (ws := wsX6_grow) B.pre
  have hown : s.vm.findClass RX6 = some m.cls := findClass_of_methodNamed B.named
  have hlocks := B.notSynchronized
  subst hsz
  have hD := hD0.self (sz := s.heap.size)
  generalize hAe : va_A [(ro, .inr (6, [.int 4, .int 6, .ref ca, .int (nI nz)]))] s.heap.size = A at hD ⊢
  have hA : ∀ q : Nat, s.heap.size ≤ q → A q := fun q h => by rw [← hAe]; exact Or.inr h
  have hS : va_S A s.heap s.heap [] := va_S.rf
  have hP : va_P (dC, dI) vwCl [(ro, .inr (6, [.int 4, .int 6, .ref ca, .int (nI nz)]))] s.heap := hP
  have hl := lv_entry ([.ref ro]) (n := 1) (Nat.le_of_ble_eq_true rfl)
  rw [lg_entry_eq]
  generalize (lg_sl ([.ref ro]) ++ List.replicate (1 - (lg_sl ([.ref ro])).length) Slot.unset).toArray = ls at hl ⊢
  have hl : lv_has ls 1 [(0, .ref ro)] := hl
  refine lv_aload_n hx hb dX6_grow_0 rfl (lv_at hl 0 rfl) ?_
  have hPc_1 := hP.sub (ws' := [(ro, .inr (6, [.int 4, .int 6, .ref ca, .int (nI nz)]))]) [0] rfl
  have hKc_2 := hK.sub (tys' := []) [] rfl
  refine vp_callSi (va_Run.run (va_runV (As := []) (rest := []) ⟨hx, hb, hml, hown, hts⟩ (r_isFull_24 l dC dI ro ca nz hz) (cwV 0 hts gX6_grow_X6_isFull rfl rfl rfl (by decide +kernel) ⟨Nat.le_of_ble_eq_true rfl, Nat.le_of_ble_eq_true rfl⟩) ⟨fun a U g mk q => by obtain ⟨q0, qP, qK⟩ := q; exact ⟨q0, qP, va_K.moved (u := U) (U := U.calling g mk a) (Vm.Alike.refl U.vm) qK⟩, va_recv hK hP (ci := 6) (q0 := 0) rfl rfl, fun U hU hW => ⟨rfl, by rw [hU]; exact hPc_1, va_K.moved hW.alike hKc_2⟩⟩ rfl rfl hl.1 rfl (lv_room (Nat.le_of_ble_eq_true rfl)) dX6_grow_1 ⟨Nat.le_of_ble_eq_true rfl, Nat.le_of_ble_eq_true rfl⟩)) (fun r_3 hw_4 => ?_)
  by_cases hc_5 : 6 ≤ nz
  · obtain rfl : 1 = r_3 := (hw_4.trans (if_pos hc_5)).symm
    refine lv_if_eq (tgt := 10) hx hb dX6_grow_4 (by decide) (fun c_6 => ?_) (fun c_6 => ?_)
    · exact absurd c_6 (by decide)
    · refine lv_bipush (v := (-4)) hx hb dX6_grow_7 (by decide) ?_
      have hP9 := hP.sub (ws' := [(ro, .inr (6, [.int 4, .int 6, .ref ca, .int (nI nz)]))]) [0] rfl
      have hD9 := hD.sub (ws' := [(ro, .inr (6, [.int 4, .int 6, .ref ca, .int (nI nz)]))]) [0] (by decide) rfl
      have hK9 := hK.sub (tys' := []) [] rfl
      exact W.iret (v := (-4)) hx hb hr (fun t ht hW => ⟨⟨(-4), (), rfl, trivial, nz, hz, by rw [ht]; exact hP9, va_K.moved hW.alike hK9, hD9⟩, hS.F ht⟩) hS.2.2 dX6_grow_9
  · obtain rfl : 0 = r_3 := (hw_4.trans (if_neg hc_5)).symm
    refine lv_if_eq (tgt := 10) hx hb dX6_grow_4 (by decide) (fun c_7 => ?_) (fun c_7 => ?_)
    · refine lv_aload_n hx hb dX6_grow_10 rfl (lv_at hl 0 rfl) ?_
      refine lv_dup hx hb dX6_grow_11 rfl ?_
      refine va_get (D := (dC, dI)) (ci := 6) (v := .int (nI nz)) (C := RX6) (T := TX6) (N := 4) hx hb hts iw_r_grow_24_X6 hown hK hP 0 rfl rfl 3 (by decide) (hts (.fieldLink RX6 9 "ThriceCounted$Rows" "size" "I") (by decide +kernel)) (fun _ h9 => h9) rfl dX6_grow_12 ?_
      refine lv_iconst (v := 1) hx hb dX6_grow_15 (by decide) ?_
      refine lv_iadd hx hb dX6_grow_16 ?_
      refine tz_i (nI (nz + 1)) (nI_add nz 1) ?_
      refine va_put (D := (dC, dI)) (ci := 6) (v := .int (nI (nz + 1))) (ty := .int) (C := RX6) (T := TX6) (N := 4) hx hb hts iw_r_grow_24_X6 tyX6 tyX6_ok nmX6 hown hK hP hD hS 0 rfl rfl 3 (by decide) (hts (.fieldLink RX6 9 "ThriceCounted$Rows" "size" "I") (by decide +kernel)) (fun _ h9 => h9) rfl (by decide +kernel) rfl rfl (Nat.le_of_ble_eq_true rfl) dX6_grow_17 (fun H locs hP hD hS => ?_)
      have hP : va_P (dC, dI) vwCl [(ro, .inr (6, [.int 4, .int 6, .ref ca, .int (nI (nz + 1))]))] H := hP
      have hD : va_D A [(ro, .inr (6, [.int 4, .int 6, .ref ca, .int (nI (nz + 1))]))] := hD
      refine lv_aload_n hx hb dX6_grow_20 rfl (lv_at hl 0 rfl) ?_
      refine va_get (D := (dC, dI)) (ci := 6) (v := .int (nI (nz + 1))) (C := RX6) (T := TX6) (N := 4) hx hb hts iw_r_grow_24_X6 hown hK hP 0 rfl rfl 3 (by decide) (hts (.fieldLink RX6 9 "ThriceCounted$Rows" "size" "I") (by decide +kernel)) (fun _ h9 => h9) rfl dX6_grow_21 ?_
      refine lv_iconst (v := 1) hx hb dX6_grow_24 (by decide) ?_
      refine lv_isub hx hb dX6_grow_25 ?_
      have hP9 := hP.sub (ws' := [(ro, .inr (6, [.int 4, .int 6, .ref ca, .int (nI (nz + 1))]))]) [0] rfl
      have hD9 := hD.sub (ws' := [(ro, .inr (6, [.int 4, .int 6, .ref ca, .int (nI (nz + 1))]))]) [0] (by decide) rfl
      have hK9 := hK.sub (tys' := []) [] rfl
      exact W.iret (v := ((nI (nz + 1)) - 1)) hx hb hr (fun t ht hW => ⟨⟨((nI (nz + 1)) - 1), (), rfl, trivial, (nz + 1), by omega, by rw [ht]; exact hP9, va_K.moved hW.alike hK9, hD9⟩, hS.F ht⟩) hS.2.2 dX6_grow_26
    · exact absurd c_7 (by decide)
set_option maxRecDepth 20000 in
theorem iw_r_remove_24_X6 : ∀ w ∈ wsX60, w ∈ wsX6_remove := by decide +kernel
set_option maxHeartbeats 4000000 in
set_option maxRecDepth 100000 in
theorem r_remove_24 (l : Launch) (dC : Nat → ClassId) (dI : Nat → Nat → Nat) (ro : Nat) (ca : Nat) (nz : Nat) (cc0 : ClassId) (ff : Nat → Int32) (na : Int32) (sz : Nat) (hz : nz ≤ 6) : Met l yX6_remove wsX6_remove ({ frames := 2, cells := 0, slots := 0, locals := 45 }) (va_Pc [.ref ro, .int na] (fun U => U.heap.size = sz ∧ va_P (dC, dI) vwCl [(ro, .inr (6, [.int 4, .int 6, .ref ca, .int (nI nz)])), (ca, .inl (cc0, 24, .inl ff))] U.heap ∧ va_K (dC, dI) vwCl [(cc0, .int)] U ∧ va_D (fun _ => True) [(ro, .inr (6, [.int 4, .int 6, .ref ca, .int (nI nz)])), (ca, .inl (cc0, 24, .inl ff))])) (va_Qv (fun (_ : Unit) => True) (fun _ t => ∃ (zg : Nat) (fg : Nat → Int32), (zg ≤ 6) ∧ va_P (dC, dI) vwCl [(ro, .inr (6, [.int 4, .int 6, .ref ca, .int (nI zg)])), (ca, .inl (cc0, 24, .inl fg))] t.heap ∧ va_K (dC, dI) vwCl [(cc0, .int)] t ∧ va_D (va_A [(ro, .inr (6, [.int 4, .int 6, .ref ca, .int (nI nz)])), (ca, .inl (cc0, 24, .inl ff))] sz) [(ro, .inr (6, [.int 4, .int 6, .ref ca, .int (nI zg)])), (ca, .inl (cc0, 24, .inl fg))]) (va_A [(ro, .inr (6, [.int 4, .int 6, .ref ca, .int (nI nz)])), (ca, .inl (cc0, 24, .inl ff))] sz)) 0 0 (va_A [(ro, .inr (6, [.int 4, .int 6, .ref ca, .int (nI nz)])), (ca, .inl (cc0, 24, .inl ff))] sz) := by
  refine Met.ofW (cc := cX6_remove) (maxL := 4) (ret := none) (by decide) rfl ?_
  intro p e s m args below meth c s₁ B hml hv
  obtain ⟨rfl, hsz, hP, hK, hD0⟩ := hv
  have hx := B.exec
  have hb := B.bytes
  have hr := B.returns
  have hts := atoms_spec (ws := wsX6_remove) B.pre
  have hown : s.vm.findClass RX6 = some m.cls := findClass_of_methodNamed B.named
  have hlocks := B.notSynchronized
  subst hsz
  have hD := hD0.self (sz := s.heap.size)
  generalize hAe : va_A [(ro, .inr (6, [.int 4, .int 6, .ref ca, .int (nI nz)])), (ca, .inl (cc0, 24, .inl ff))] s.heap.size = A at hD ⊢
  have hA : ∀ q : Nat, s.heap.size ≤ q → A q := fun q h => by rw [← hAe]; exact Or.inr h
  have hS : va_S A s.heap s.heap [] := va_S.rf
  have hP : va_P (dC, dI) vwCl [(ro, .inr (6, [.int 4, .int 6, .ref ca, .int (nI nz)])), (ca, .inl (cc0, 24, .inl ff))] s.heap := hP
  have hl := lv_entry ([.ref ro, .int na]) (n := 4) (Nat.le_of_ble_eq_true rfl)
  rw [lg_entry_eq]
  generalize (lg_sl ([.ref ro, .int na]) ++ List.replicate (4 - (lg_sl ([.ref ro, .int na])).length) Slot.unset).toArray = ls at hl ⊢
  have hl : lv_has ls 4 [(0, .ref ro), (1, .int na)] := hl
  refine lv_aload_n hx hb dX6_remove_0 rfl (lv_at hl 0 rfl) ?_
  refine lv_iload_n hx hb dX6_remove_1 rfl (lv_at hl 1 rfl) ?_
  have hPc_1 := hP.sub (ws' := [(ro, .inr (6, [.int 4, .int 6, .ref ca, .int (nI nz)]))]) [0] rfl
  have hKc_2 := hK.sub (tys' := []) [] rfl
  refine vp_callSi (va_Run.run (va_runV (As := [.int na]) (rest := []) ⟨hx, hb, hml, hown, hts⟩ (r_has_24 l dC dI ro ca nz na) (cwV 1 hts gX6_remove_X6_has rfl rfl rfl (by decide +kernel) ⟨Nat.le_of_ble_eq_true rfl, Nat.le_of_ble_eq_true rfl⟩) ⟨fun a U g mk q => by obtain ⟨q0, qP, qK⟩ := q; exact ⟨q0, qP, va_K.moved (u := U) (U := U.calling g mk a) (Vm.Alike.refl U.vm) qK⟩, va_recv hK hP (ci := 6) (q0 := 0) rfl rfl, fun U hU hW => ⟨rfl, by rw [hU]; exact hPc_1, va_K.moved hW.alike hKc_2⟩⟩ rfl rfl hl.1 rfl (lv_room (Nat.le_of_ble_eq_true rfl)) dX6_remove_2 ⟨Nat.le_of_ble_eq_true rfl, Nat.le_of_ble_eq_true rfl⟩)) (fun r_3 hw_4 => ?_)
  by_cases hc_5 : 0 ≤ na ∧ na < nI nz
  · obtain rfl : 1 = r_3 := (hw_4.trans (if_pos hc_5)).symm
    obtain ⟨j1, hj1, rfl⟩ := tz_belowI hc_5 (by omega)
    refine lv_if_ne (tgt := 9) hx hb dX6_remove_5 (by decide) (fun c_6 => ?_) (fun c_6 => ?_)
    · refine lv_iload_n hx hb dX6_remove_9 rfl (lv_at hl 1 rfl) ?_
      refine lv_istore_n (lv' := [(2, .int (nI j1)), (0, .ref ro), (1, .int (nI j1))]) hx hb dX6_remove_10 rfl hl (by decide) rfl (fun ls hl => ?_)
      refine tz_while (σ := Nat × (Nat → Int32) × Heap × List Loc × Array Slot) (fun x => W p l e _ s m _ below meth c x.2.2.1 x.2.2.2.1 _ _ _ (F0 m 11 x.2.2.2.2 [])) (fun x => x.1 ≤ nz ∧ va_P (dC, dI) vwCl [(ro, .inr (6, [.int 4, .int 6, .ref ca, .int (nI nz)])), (ca, .inl (cc0, 24, .inl x.2.1))] x.2.2.1 ∧ va_D A [(ro, .inr (6, [.int 4, .int 6, .ref ca, .int (nI nz)])), (ca, .inl (cc0, 24, .inl x.2.1))] ∧ va_S A s.heap x.2.2.1 x.2.2.2.1 ∧ lv_has x.2.2.2.2 4 [(2, .int (nI x.1)), (0, .ref ro), (1, .int (nI j1))]) (fun x => nz - x.1) ?_ (j1, ff, s.heap, [], ls) ⟨by omega, hP, hD, hS, hl⟩
      rintro ⟨ii, fq, H, locs, ls⟩ ⟨hi_7_0, hP, hD, hS, hl⟩ ih_8
      dsimp only at hi_7_0 hP hD hS hl ih_8 ⊢
      refine lv_iload_n hx hb dX6_remove_11 rfl (lv_at hl 0 rfl) ?_
      refine lv_aload_n hx hb dX6_remove_12 rfl (lv_at hl 1 rfl) ?_
      refine va_get (D := (dC, dI)) (ci := 6) (v := .int (nI nz)) (C := RX6) (T := TX6) (N := 4) hx hb hts iw_r_remove_24_X6 hown hK hP 0 rfl rfl 3 (by decide) (hts (.fieldLink RX6 9 "ThriceCounted$Rows" "size" "I") (by decide +kernel)) (fun _ h9 => h9) rfl dX6_remove_13 ?_
      refine lv_iconst (v := 1) hx hb dX6_remove_16 (by decide) ?_
      refine lv_isub hx hb dX6_remove_17 ?_
      refine tz_i (nI (nz - 1)) (pk_sub (a := nz) (b := 1) (by omega)) ?_
      refine lv_icmp_ge (tgt := 57) hx hb dX6_remove_18 (by decide) (fun c_9 => ?_) (fun c_9 => ?_)
      · have hn_10 : (nz - 1) ≤ ii := (nI_leI (a := (nz - 1)) (b := ii) (by omega) (by omega)).mp c_9
        refine lv_aload_n hx hb dX6_remove_57 rfl (lv_at hl 1 rfl) ?_
        refine lv_dup hx hb dX6_remove_58 rfl ?_
        refine va_get (D := (dC, dI)) (ci := 6) (v := .int (nI nz)) (C := RX6) (T := TX6) (N := 4) hx hb hts iw_r_remove_24_X6 hown hK hP 0 rfl rfl 3 (by decide) (hts (.fieldLink RX6 9 "ThriceCounted$Rows" "size" "I") (by decide +kernel)) (fun _ h9 => h9) rfl dX6_remove_59 ?_
        refine lv_iconst (v := 1) hx hb dX6_remove_62 (by decide) ?_
        refine lv_isub hx hb dX6_remove_63 ?_
        refine tz_i (nI (nz - 1)) (pk_sub (a := nz) (b := 1) (by omega)) ?_
        refine va_put (D := (dC, dI)) (ci := 6) (v := .int (nI (nz - 1))) (ty := .int) (C := RX6) (T := TX6) (N := 4) hx hb hts iw_r_remove_24_X6 tyX6 tyX6_ok nmX6 hown hK hP hD hS 0 rfl rfl 3 (by decide) (hts (.fieldLink RX6 9 "ThriceCounted$Rows" "size" "I") (by decide +kernel)) (fun _ h9 => h9) rfl (by decide +kernel) rfl rfl (Nat.le_of_ble_eq_true rfl) dX6_remove_64 (fun H locs hP hD hS => ?_)
        have hP : va_P (dC, dI) vwCl [(ro, .inr (6, [.int 4, .int 6, .ref ca, .int (nI (nz - 1))])), (ca, .inl (cc0, 24, .inl fq))] H := hP
        have hD : va_D A [(ro, .inr (6, [.int 4, .int 6, .ref ca, .int (nI (nz - 1))])), (ca, .inl (cc0, 24, .inl fq))] := hD
        have hP9 := hP.sub (ws' := [(ro, .inr (6, [.int 4, .int 6, .ref ca, .int (nI (nz - 1))])), (ca, .inl (cc0, 24, .inl fq))]) [0, 1] rfl
        have hD9 := hD.sub (ws' := [(ro, .inr (6, [.int 4, .int 6, .ref ca, .int (nI (nz - 1))])), (ca, .inl (cc0, 24, .inl fq))]) [0, 1] (by decide) rfl
        have hK9 := hK.sub (tys' := [(cc0, .int)]) [0] rfl
        exact W.vret hx hb hr (fun t ht hW => ⟨⟨(), rfl, trivial, (nz - 1), fq, by omega, by rw [ht]; exact hP9, va_K.moved hW.alike hK9, hD9⟩, hS.F ht⟩) hS.2.2 dX6_remove_67
      · have hn_11 : ¬ (nz - 1) ≤ ii := fun q => c_9 ((nI_leI (a := (nz - 1)) (b := ii) (by omega) (by omega)).mpr q)
        refine lv_iconst (v := 0) hx hb dX6_remove_21 (by decide) ?_
        refine lv_istore_n (lv' := [(3, .int 0), (2, .int (nI ii)), (0, .ref ro), (1, .int (nI j1))]) hx hb dX6_remove_22 rfl hl (by decide) rfl (fun ls hl => ?_)
        refine lv_iload_n hx hb dX6_remove_23 rfl (lv_at hl 0 rfl) ?_
        refine lv_aload_n hx hb dX6_remove_24 rfl (lv_at hl 2 rfl) ?_
        refine va_get (D := (dC, dI)) (ci := 6) (v := .int 4) (C := RX6) (T := TX6) (N := 4) hx hb hts iw_r_remove_24_X6 hown hK hP 0 rfl rfl 0 (by decide) (hts (.fieldLink RX6 24 "ThriceCounted$Rows" "width" "I") (by decide +kernel)) (fun _ h9 => h9) rfl dX6_remove_25 ?_
        refine lv_icmp_ge (tgt := 51) hx hb dX6_remove_28 (by decide) (fun c_12 => ?_) (fun c_12 => ?_)
        · exact absurd c_12 (by decide)
        · refine lv_aload_n hx hb dX6_remove_31 rfl (lv_at hl 2 rfl) ?_
          refine lv_iload_n hx hb dX6_remove_32 rfl (lv_at hl 1 rfl) ?_
          refine lv_iload_n hx hb dX6_remove_33 rfl (lv_at hl 0 rfl) ?_
          refine lv_aload_n hx hb dX6_remove_34 rfl (lv_at hl 2 rfl) ?_
          refine lv_iload_n hx hb dX6_remove_35 rfl (lv_at hl 1 rfl) ?_
          refine lv_iconst (v := 1) hx hb dX6_remove_36 (by decide) ?_
          refine lv_iadd hx hb dX6_remove_37 ?_
          refine tz_i (nI (ii + 1)) (nI_add ii 1) ?_
          refine lv_iload_n hx hb dX6_remove_38 rfl (lv_at hl 0 rfl) ?_
          have hPc_13 := hP.sub (ws' := [(ro, .inr (6, [.int 4, .int 6, .ref ca, .int (nI nz)])), (ca, .inl (cc0, 24, .inl fq))]) [0, 1] rfl
          have hKc_14 := hK.sub (tys' := [(cc0, .int)]) [0] rfl
          refine vp_callSi (va_Run.run (va_runV (As := [.int (nI (ii + 1)), .int 0]) (rest := [.int 0, .int (nI ii), .ref ro]) ⟨hx, hb, hml, hown, hts⟩ (r_get_24 l dC dI ro ca nz cc0 fq (nI (ii + 1)) 0 hz) (cwV 2 hts gX6_remove_X6_get rfl rfl rfl (by decide +kernel) ⟨Nat.le_of_ble_eq_true rfl, Nat.le_of_ble_eq_true rfl⟩) ⟨fun a U g mk q => by obtain ⟨q0, qP, qK⟩ := q; exact ⟨q0, qP, va_K.moved (u := U) (U := U.calling g mk a) (Vm.Alike.refl U.vm) qK⟩, va_recv hK hP (ci := 6) (q0 := 0) rfl rfl, fun U hU hW => ⟨rfl, by rw [hU]; exact hPc_13, va_K.moved hW.alike hKc_14⟩⟩ rfl rfl hl.1 rfl (lv_room (Nat.le_of_ble_eq_true rfl)) dX6_remove_39 ⟨Nat.le_of_ble_eq_true rfl, Nat.le_of_ble_eq_true rfl⟩)) (fun r_15 hw_16 => ?_)
          have hPc := hP.sub (ws' := [(ro, .inr (6, [.int 4, .int 6, .ref ca, .int (nI nz)])), (ca, .inl (cc0, 24, .inl fq))]) [0, 1] rfl
          have hDc := hD.sub (ws' := [(ro, .inr (6, [.int 4, .int 6, .ref ca, .int (nI nz)])), (ca, .inl (cc0, 24, .inl fq))]) [0, 1] (by decide) rfl
          have hKc := hK.sub (tys' := [(cc0, .int)]) [0] rfl
          have hFc := va_free (wc := [(ro, .inr (6, [.int 4, .int 6, .ref ca, .int (nI nz)])), (ca, .inl (cc0, 24, .inl fq))]) hD hS hA [0, 1] rfl
          refine va_callv (va_runV (As := [.int (nI ii), .int 0, .int r_15]) (rest := []) ⟨hx, hb, hml, hown, hts⟩ (r_put_24 l dC dI ro ca nz cc0 fq (nI ii) 0 r_15 H.size hz) (cwV 3 hts gX6_remove_X6_put rfl rfl rfl (by decide +kernel) ⟨Nat.le_of_ble_eq_true rfl, Nat.le_of_ble_eq_true rfl⟩) ⟨fun a U g mk q => by obtain ⟨q0, q1, qP, qK, qD⟩ := q; exact ⟨q0, q1, qP, va_K.moved (u := U) (U := U.calling g mk a) (Vm.Alike.refl U.vm) qK, qD⟩, va_recv hK hP (ci := 6) (q0 := 0) rfl rfl, fun U hU hW => ⟨rfl, by rw [hU], by rw [hU]; exact hPc, va_K.moved hW.alike hKc, hDc.weaken (fun _ _ _ _ => trivial)⟩⟩ rfl rfl hl.1 rfl (lv_room (Nat.le_of_ble_eq_true rfl)) dX6_remove_42 ⟨Nat.le_of_ble_eq_true rfl, Nat.le_of_ble_eq_true rfl⟩) hS (fun q _ h => hFc q h) hFc (fun u_ t H1 locs ht hvm hw_18 hB hz1 hk1 hS => ?_)
          obtain ⟨fg_19, hP1, hK1, hD1⟩ := hB
          rw [ht] at hP1
          have hK1 := va_K.moved hvm.symm hK1
          obtain ⟨hP, hD⟩ := va_join (wr := []) (w1 := [(ro, .inr (6, [.int 4, .int 6, .ref ca, .int (nI nz)])), (ca, .inl (cc0, 24, .inl fg_19))]) hP hD [0, 1] [] rfl rfl (by decide) (by decide) hk1 hFc hP1 hD1
          generalize H1 = H at hP hS ⊢
          have hP : va_P (dC, dI) vwCl [(ro, .inr (6, [.int 4, .int 6, .ref ca, .int (nI nz)])), (ca, .inl (cc0, 24, .inl fg_19))] H := hP
          have hD : va_D A [(ro, .inr (6, [.int 4, .int 6, .ref ca, .int (nI nz)])), (ca, .inl (cc0, 24, .inl fg_19))] := hD
          refine lv_iinc (v := 1) (lv' := [(3, .int 1), (2, .int (nI ii)), (0, .ref ro), (1, .int (nI j1))]) hx hb dX6_remove_45 hl (k := 0) rfl (by decide) (by decide) rfl (fun ls hl => ?_)
          refine lv_goto (tgt := 23) hx hb dX6_remove_48 (by decide) ?_
          refine lv_iload_n hx hb dX6_remove_23 rfl (lv_at hl 0 rfl) ?_
          refine lv_aload_n hx hb dX6_remove_24 rfl (lv_at hl 2 rfl) ?_
          refine va_get (D := (dC, dI)) (ci := 6) (v := .int 4) (C := RX6) (T := TX6) (N := 4) hx hb hts iw_r_remove_24_X6 hown hK hP 0 rfl rfl 0 (by decide) (hts (.fieldLink RX6 24 "ThriceCounted$Rows" "width" "I") (by decide +kernel)) (fun _ h9 => h9) rfl dX6_remove_25 ?_
          refine lv_icmp_ge (tgt := 51) hx hb dX6_remove_28 (by decide) (fun c_20 => ?_) (fun c_20 => ?_)
          · exact absurd c_20 (by decide)
          · refine lv_aload_n hx hb dX6_remove_31 rfl (lv_at hl 2 rfl) ?_
            refine lv_iload_n hx hb dX6_remove_32 rfl (lv_at hl 1 rfl) ?_
            refine lv_iload_n hx hb dX6_remove_33 rfl (lv_at hl 0 rfl) ?_
            refine lv_aload_n hx hb dX6_remove_34 rfl (lv_at hl 2 rfl) ?_
            refine lv_iload_n hx hb dX6_remove_35 rfl (lv_at hl 1 rfl) ?_
            refine lv_iconst (v := 1) hx hb dX6_remove_36 (by decide) ?_
            refine lv_iadd hx hb dX6_remove_37 ?_
            refine tz_i (nI (ii + 1)) (nI_add ii 1) ?_
            refine lv_iload_n hx hb dX6_remove_38 rfl (lv_at hl 0 rfl) ?_
            have hPc_21 := hP.sub (ws' := [(ro, .inr (6, [.int 4, .int 6, .ref ca, .int (nI nz)])), (ca, .inl (cc0, 24, .inl fg_19))]) [0, 1] rfl
            have hKc_22 := hK.sub (tys' := [(cc0, .int)]) [0] rfl
            refine vp_callSi (va_Run.run (va_runV (As := [.int (nI (ii + 1)), .int 1]) (rest := [.int 1, .int (nI ii), .ref ro]) ⟨hx, hb, hml, hown, hts⟩ (r_get_24 l dC dI ro ca nz cc0 fg_19 (nI (ii + 1)) 1 hz) (cwV 2 hts gX6_remove_X6_get rfl rfl rfl (by decide +kernel) ⟨Nat.le_of_ble_eq_true rfl, Nat.le_of_ble_eq_true rfl⟩) ⟨fun a U g mk q => by obtain ⟨q0, qP, qK⟩ := q; exact ⟨q0, qP, va_K.moved (u := U) (U := U.calling g mk a) (Vm.Alike.refl U.vm) qK⟩, va_recv hK hP (ci := 6) (q0 := 0) rfl rfl, fun U hU hW => ⟨rfl, by rw [hU]; exact hPc_21, va_K.moved hW.alike hKc_22⟩⟩ rfl rfl hl.1 rfl (lv_room (Nat.le_of_ble_eq_true rfl)) dX6_remove_39 ⟨Nat.le_of_ble_eq_true rfl, Nat.le_of_ble_eq_true rfl⟩)) (fun r_23 hw_24 => ?_)
            have hPc := hP.sub (ws' := [(ro, .inr (6, [.int 4, .int 6, .ref ca, .int (nI nz)])), (ca, .inl (cc0, 24, .inl fg_19))]) [0, 1] rfl
            have hDc := hD.sub (ws' := [(ro, .inr (6, [.int 4, .int 6, .ref ca, .int (nI nz)])), (ca, .inl (cc0, 24, .inl fg_19))]) [0, 1] (by decide) rfl
            have hKc := hK.sub (tys' := [(cc0, .int)]) [0] rfl
            have hFc := va_free (wc := [(ro, .inr (6, [.int 4, .int 6, .ref ca, .int (nI nz)])), (ca, .inl (cc0, 24, .inl fg_19))]) hD hS hA [0, 1] rfl
            refine va_callv (va_runV (As := [.int (nI ii), .int 1, .int r_23]) (rest := []) ⟨hx, hb, hml, hown, hts⟩ (r_put_24 l dC dI ro ca nz cc0 fg_19 (nI ii) 1 r_23 H.size hz) (cwV 3 hts gX6_remove_X6_put rfl rfl rfl (by decide +kernel) ⟨Nat.le_of_ble_eq_true rfl, Nat.le_of_ble_eq_true rfl⟩) ⟨fun a U g mk q => by obtain ⟨q0, q1, qP, qK, qD⟩ := q; exact ⟨q0, q1, qP, va_K.moved (u := U) (U := U.calling g mk a) (Vm.Alike.refl U.vm) qK, qD⟩, va_recv hK hP (ci := 6) (q0 := 0) rfl rfl, fun U hU hW => ⟨rfl, by rw [hU], by rw [hU]; exact hPc, va_K.moved hW.alike hKc, hDc.weaken (fun _ _ _ _ => trivial)⟩⟩ rfl rfl hl.1 rfl (lv_room (Nat.le_of_ble_eq_true rfl)) dX6_remove_42 ⟨Nat.le_of_ble_eq_true rfl, Nat.le_of_ble_eq_true rfl⟩) hS (fun q _ h => hFc q h) hFc (fun u_ t H1 locs ht hvm hw_26 hB hz1 hk1 hS => ?_)
            obtain ⟨fg_27, hP1, hK1, hD1⟩ := hB
            rw [ht] at hP1
            have hK1 := va_K.moved hvm.symm hK1
            obtain ⟨hP, hD⟩ := va_join (wr := []) (w1 := [(ro, .inr (6, [.int 4, .int 6, .ref ca, .int (nI nz)])), (ca, .inl (cc0, 24, .inl fg_27))]) hP hD [0, 1] [] rfl rfl (by decide) (by decide) hk1 hFc hP1 hD1
            generalize H1 = H at hP hS ⊢
            have hP : va_P (dC, dI) vwCl [(ro, .inr (6, [.int 4, .int 6, .ref ca, .int (nI nz)])), (ca, .inl (cc0, 24, .inl fg_27))] H := hP
            have hD : va_D A [(ro, .inr (6, [.int 4, .int 6, .ref ca, .int (nI nz)])), (ca, .inl (cc0, 24, .inl fg_27))] := hD
            refine lv_iinc (v := 2) (lv' := [(3, .int 2), (2, .int (nI ii)), (0, .ref ro), (1, .int (nI j1))]) hx hb dX6_remove_45 hl (k := 0) rfl (by decide) (by decide) rfl (fun ls hl => ?_)
            refine lv_goto (tgt := 23) hx hb dX6_remove_48 (by decide) ?_
            refine lv_iload_n hx hb dX6_remove_23 rfl (lv_at hl 0 rfl) ?_
            refine lv_aload_n hx hb dX6_remove_24 rfl (lv_at hl 2 rfl) ?_
            refine va_get (D := (dC, dI)) (ci := 6) (v := .int 4) (C := RX6) (T := TX6) (N := 4) hx hb hts iw_r_remove_24_X6 hown hK hP 0 rfl rfl 0 (by decide) (hts (.fieldLink RX6 24 "ThriceCounted$Rows" "width" "I") (by decide +kernel)) (fun _ h9 => h9) rfl dX6_remove_25 ?_
            refine lv_icmp_ge (tgt := 51) hx hb dX6_remove_28 (by decide) (fun c_28 => ?_) (fun c_28 => ?_)
            · exact absurd c_28 (by decide)
            · refine lv_aload_n hx hb dX6_remove_31 rfl (lv_at hl 2 rfl) ?_
              refine lv_iload_n hx hb dX6_remove_32 rfl (lv_at hl 1 rfl) ?_
              refine lv_iload_n hx hb dX6_remove_33 rfl (lv_at hl 0 rfl) ?_
              refine lv_aload_n hx hb dX6_remove_34 rfl (lv_at hl 2 rfl) ?_
              refine lv_iload_n hx hb dX6_remove_35 rfl (lv_at hl 1 rfl) ?_
              refine lv_iconst (v := 1) hx hb dX6_remove_36 (by decide) ?_
              refine lv_iadd hx hb dX6_remove_37 ?_
              refine tz_i (nI (ii + 1)) (nI_add ii 1) ?_
              refine lv_iload_n hx hb dX6_remove_38 rfl (lv_at hl 0 rfl) ?_
              have hPc_29 := hP.sub (ws' := [(ro, .inr (6, [.int 4, .int 6, .ref ca, .int (nI nz)])), (ca, .inl (cc0, 24, .inl fg_27))]) [0, 1] rfl
              have hKc_30 := hK.sub (tys' := [(cc0, .int)]) [0] rfl
              refine vp_callSi (va_Run.run (va_runV (As := [.int (nI (ii + 1)), .int 2]) (rest := [.int 2, .int (nI ii), .ref ro]) ⟨hx, hb, hml, hown, hts⟩ (r_get_24 l dC dI ro ca nz cc0 fg_27 (nI (ii + 1)) 2 hz) (cwV 2 hts gX6_remove_X6_get rfl rfl rfl (by decide +kernel) ⟨Nat.le_of_ble_eq_true rfl, Nat.le_of_ble_eq_true rfl⟩) ⟨fun a U g mk q => by obtain ⟨q0, qP, qK⟩ := q; exact ⟨q0, qP, va_K.moved (u := U) (U := U.calling g mk a) (Vm.Alike.refl U.vm) qK⟩, va_recv hK hP (ci := 6) (q0 := 0) rfl rfl, fun U hU hW => ⟨rfl, by rw [hU]; exact hPc_29, va_K.moved hW.alike hKc_30⟩⟩ rfl rfl hl.1 rfl (lv_room (Nat.le_of_ble_eq_true rfl)) dX6_remove_39 ⟨Nat.le_of_ble_eq_true rfl, Nat.le_of_ble_eq_true rfl⟩)) (fun r_31 hw_32 => ?_)
              have hPc := hP.sub (ws' := [(ro, .inr (6, [.int 4, .int 6, .ref ca, .int (nI nz)])), (ca, .inl (cc0, 24, .inl fg_27))]) [0, 1] rfl
              have hDc := hD.sub (ws' := [(ro, .inr (6, [.int 4, .int 6, .ref ca, .int (nI nz)])), (ca, .inl (cc0, 24, .inl fg_27))]) [0, 1] (by decide) rfl
              have hKc := hK.sub (tys' := [(cc0, .int)]) [0] rfl
              have hFc := va_free (wc := [(ro, .inr (6, [.int 4, .int 6, .ref ca, .int (nI nz)])), (ca, .inl (cc0, 24, .inl fg_27))]) hD hS hA [0, 1] rfl
              refine va_callv (va_runV (As := [.int (nI ii), .int 2, .int r_31]) (rest := []) ⟨hx, hb, hml, hown, hts⟩ (r_put_24 l dC dI ro ca nz cc0 fg_27 (nI ii) 2 r_31 H.size hz) (cwV 3 hts gX6_remove_X6_put rfl rfl rfl (by decide +kernel) ⟨Nat.le_of_ble_eq_true rfl, Nat.le_of_ble_eq_true rfl⟩) ⟨fun a U g mk q => by obtain ⟨q0, q1, qP, qK, qD⟩ := q; exact ⟨q0, q1, qP, va_K.moved (u := U) (U := U.calling g mk a) (Vm.Alike.refl U.vm) qK, qD⟩, va_recv hK hP (ci := 6) (q0 := 0) rfl rfl, fun U hU hW => ⟨rfl, by rw [hU], by rw [hU]; exact hPc, va_K.moved hW.alike hKc, hDc.weaken (fun _ _ _ _ => trivial)⟩⟩ rfl rfl hl.1 rfl (lv_room (Nat.le_of_ble_eq_true rfl)) dX6_remove_42 ⟨Nat.le_of_ble_eq_true rfl, Nat.le_of_ble_eq_true rfl⟩) hS (fun q _ h => hFc q h) hFc (fun u_ t H1 locs ht hvm hw_34 hB hz1 hk1 hS => ?_)
              obtain ⟨fg_35, hP1, hK1, hD1⟩ := hB
              rw [ht] at hP1
              have hK1 := va_K.moved hvm.symm hK1
              obtain ⟨hP, hD⟩ := va_join (wr := []) (w1 := [(ro, .inr (6, [.int 4, .int 6, .ref ca, .int (nI nz)])), (ca, .inl (cc0, 24, .inl fg_35))]) hP hD [0, 1] [] rfl rfl (by decide) (by decide) hk1 hFc hP1 hD1
              generalize H1 = H at hP hS ⊢
              have hP : va_P (dC, dI) vwCl [(ro, .inr (6, [.int 4, .int 6, .ref ca, .int (nI nz)])), (ca, .inl (cc0, 24, .inl fg_35))] H := hP
              have hD : va_D A [(ro, .inr (6, [.int 4, .int 6, .ref ca, .int (nI nz)])), (ca, .inl (cc0, 24, .inl fg_35))] := hD
              refine lv_iinc (v := 3) (lv' := [(3, .int 3), (2, .int (nI ii)), (0, .ref ro), (1, .int (nI j1))]) hx hb dX6_remove_45 hl (k := 0) rfl (by decide) (by decide) rfl (fun ls hl => ?_)
              refine lv_goto (tgt := 23) hx hb dX6_remove_48 (by decide) ?_
              refine lv_iload_n hx hb dX6_remove_23 rfl (lv_at hl 0 rfl) ?_
              refine lv_aload_n hx hb dX6_remove_24 rfl (lv_at hl 2 rfl) ?_
              refine va_get (D := (dC, dI)) (ci := 6) (v := .int 4) (C := RX6) (T := TX6) (N := 4) hx hb hts iw_r_remove_24_X6 hown hK hP 0 rfl rfl 0 (by decide) (hts (.fieldLink RX6 24 "ThriceCounted$Rows" "width" "I") (by decide +kernel)) (fun _ h9 => h9) rfl dX6_remove_25 ?_
              refine lv_icmp_ge (tgt := 51) hx hb dX6_remove_28 (by decide) (fun c_36 => ?_) (fun c_36 => ?_)
              · exact absurd c_36 (by decide)
              · refine lv_aload_n hx hb dX6_remove_31 rfl (lv_at hl 2 rfl) ?_
                refine lv_iload_n hx hb dX6_remove_32 rfl (lv_at hl 1 rfl) ?_
                refine lv_iload_n hx hb dX6_remove_33 rfl (lv_at hl 0 rfl) ?_
                refine lv_aload_n hx hb dX6_remove_34 rfl (lv_at hl 2 rfl) ?_
                refine lv_iload_n hx hb dX6_remove_35 rfl (lv_at hl 1 rfl) ?_
                refine lv_iconst (v := 1) hx hb dX6_remove_36 (by decide) ?_
                refine lv_iadd hx hb dX6_remove_37 ?_
                refine tz_i (nI (ii + 1)) (nI_add ii 1) ?_
                refine lv_iload_n hx hb dX6_remove_38 rfl (lv_at hl 0 rfl) ?_
                have hPc_37 := hP.sub (ws' := [(ro, .inr (6, [.int 4, .int 6, .ref ca, .int (nI nz)])), (ca, .inl (cc0, 24, .inl fg_35))]) [0, 1] rfl
                have hKc_38 := hK.sub (tys' := [(cc0, .int)]) [0] rfl
                refine vp_callSi (va_Run.run (va_runV (As := [.int (nI (ii + 1)), .int 3]) (rest := [.int 3, .int (nI ii), .ref ro]) ⟨hx, hb, hml, hown, hts⟩ (r_get_24 l dC dI ro ca nz cc0 fg_35 (nI (ii + 1)) 3 hz) (cwV 2 hts gX6_remove_X6_get rfl rfl rfl (by decide +kernel) ⟨Nat.le_of_ble_eq_true rfl, Nat.le_of_ble_eq_true rfl⟩) ⟨fun a U g mk q => by obtain ⟨q0, qP, qK⟩ := q; exact ⟨q0, qP, va_K.moved (u := U) (U := U.calling g mk a) (Vm.Alike.refl U.vm) qK⟩, va_recv hK hP (ci := 6) (q0 := 0) rfl rfl, fun U hU hW => ⟨rfl, by rw [hU]; exact hPc_37, va_K.moved hW.alike hKc_38⟩⟩ rfl rfl hl.1 rfl (lv_room (Nat.le_of_ble_eq_true rfl)) dX6_remove_39 ⟨Nat.le_of_ble_eq_true rfl, Nat.le_of_ble_eq_true rfl⟩)) (fun r_39 hw_40 => ?_)
                have hPc := hP.sub (ws' := [(ro, .inr (6, [.int 4, .int 6, .ref ca, .int (nI nz)])), (ca, .inl (cc0, 24, .inl fg_35))]) [0, 1] rfl
                have hDc := hD.sub (ws' := [(ro, .inr (6, [.int 4, .int 6, .ref ca, .int (nI nz)])), (ca, .inl (cc0, 24, .inl fg_35))]) [0, 1] (by decide) rfl
                have hKc := hK.sub (tys' := [(cc0, .int)]) [0] rfl
                have hFc := va_free (wc := [(ro, .inr (6, [.int 4, .int 6, .ref ca, .int (nI nz)])), (ca, .inl (cc0, 24, .inl fg_35))]) hD hS hA [0, 1] rfl
                refine va_callv (va_runV (As := [.int (nI ii), .int 3, .int r_39]) (rest := []) ⟨hx, hb, hml, hown, hts⟩ (r_put_24 l dC dI ro ca nz cc0 fg_35 (nI ii) 3 r_39 H.size hz) (cwV 3 hts gX6_remove_X6_put rfl rfl rfl (by decide +kernel) ⟨Nat.le_of_ble_eq_true rfl, Nat.le_of_ble_eq_true rfl⟩) ⟨fun a U g mk q => by obtain ⟨q0, q1, qP, qK, qD⟩ := q; exact ⟨q0, q1, qP, va_K.moved (u := U) (U := U.calling g mk a) (Vm.Alike.refl U.vm) qK, qD⟩, va_recv hK hP (ci := 6) (q0 := 0) rfl rfl, fun U hU hW => ⟨rfl, by rw [hU], by rw [hU]; exact hPc, va_K.moved hW.alike hKc, hDc.weaken (fun _ _ _ _ => trivial)⟩⟩ rfl rfl hl.1 rfl (lv_room (Nat.le_of_ble_eq_true rfl)) dX6_remove_42 ⟨Nat.le_of_ble_eq_true rfl, Nat.le_of_ble_eq_true rfl⟩) hS (fun q _ h => hFc q h) hFc (fun u_ t H1 locs ht hvm hw_42 hB hz1 hk1 hS => ?_)
                obtain ⟨fg_43, hP1, hK1, hD1⟩ := hB
                rw [ht] at hP1
                have hK1 := va_K.moved hvm.symm hK1
                obtain ⟨hP, hD⟩ := va_join (wr := []) (w1 := [(ro, .inr (6, [.int 4, .int 6, .ref ca, .int (nI nz)])), (ca, .inl (cc0, 24, .inl fg_43))]) hP hD [0, 1] [] rfl rfl (by decide) (by decide) hk1 hFc hP1 hD1
                generalize H1 = H at hP hS ⊢
                have hP : va_P (dC, dI) vwCl [(ro, .inr (6, [.int 4, .int 6, .ref ca, .int (nI nz)])), (ca, .inl (cc0, 24, .inl fg_43))] H := hP
                have hD : va_D A [(ro, .inr (6, [.int 4, .int 6, .ref ca, .int (nI nz)])), (ca, .inl (cc0, 24, .inl fg_43))] := hD
                refine lv_iinc (v := 4) (lv' := [(3, .int 4), (2, .int (nI ii)), (0, .ref ro), (1, .int (nI j1))]) hx hb dX6_remove_45 hl (k := 0) rfl (by decide) (by decide) rfl (fun ls hl => ?_)
                refine lv_goto (tgt := 23) hx hb dX6_remove_48 (by decide) ?_
                refine lv_iload_n hx hb dX6_remove_23 rfl (lv_at hl 0 rfl) ?_
                refine lv_aload_n hx hb dX6_remove_24 rfl (lv_at hl 2 rfl) ?_
                refine va_get (D := (dC, dI)) (ci := 6) (v := .int 4) (C := RX6) (T := TX6) (N := 4) hx hb hts iw_r_remove_24_X6 hown hK hP 0 rfl rfl 0 (by decide) (hts (.fieldLink RX6 24 "ThriceCounted$Rows" "width" "I") (by decide +kernel)) (fun _ h9 => h9) rfl dX6_remove_25 ?_
                refine lv_icmp_ge (tgt := 51) hx hb dX6_remove_28 (by decide) (fun c_44 => ?_) (fun c_44 => ?_)
                · refine lv_iinc (v := (nI (ii + 1))) (lv' := [(2, .int (nI (ii + 1))), (3, .int 4), (0, .ref ro), (1, .int (nI j1))]) hx hb dX6_remove_51 hl (k := 1) rfl (nI_add ii 1) (by decide) rfl (fun ls hl => ?_)
                  refine lv_goto (tgt := 11) hx hb dX6_remove_54 (by decide) ?_
                  exact ih_8 ((ii + 1), fg_43, H, locs, ls) ⟨by dsimp only; omega, hP, hD, hS, lv_sub hl [0, 2, 3] rfl⟩ (by dsimp only; omega)
                · exact absurd c_44 (by decide)
    · exact absurd c_6 (by decide)
  · obtain rfl : 0 = r_3 := (hw_4.trans (if_neg hc_5)).symm
    refine lv_if_ne (tgt := 9) hx hb dX6_remove_5 (by decide) (fun c_45 => ?_) (fun c_45 => ?_)
    · exact absurd c_45 (by decide)
    · have hP9 := hP.sub (ws' := [(ro, .inr (6, [.int 4, .int 6, .ref ca, .int (nI nz)])), (ca, .inl (cc0, 24, .inl ff))]) [0, 1] rfl
      have hD9 := hD.sub (ws' := [(ro, .inr (6, [.int 4, .int 6, .ref ca, .int (nI nz)])), (ca, .inl (cc0, 24, .inl ff))]) [0, 1] (by decide) rfl
      have hK9 := hK.sub (tys' := [(cc0, .int)]) [0] rfl
      exact W.vret hx hb hr (fun t ht hW => ⟨⟨(), rfl, trivial, nz, ff, hz, by rw [ht]; exact hP9, va_K.moved hW.alike hK9, hD9⟩, hS.F ht⟩) hS.2.2 dX6_remove_8
set_option maxRecDepth 20000 in
theorem iw_r_mix_24_X6 : ∀ w ∈ wsX60, w ∈ wsX6_mixInto := by decide +kernel
set_option maxHeartbeats 4000000 in
set_option maxRecDepth 100000 in
theorem r_mix_24 (l : Launch) (dC : Nat → ClassId) (dI : Nat → Nat → Nat) (ro : Nat) (ca : Nat) (nz : Nat) (cc0 : ClassId) (ff : Nat → Int32) (hh : Int64) (hz : nz ≤ 6) : Met l yX6_mixInto wsX6_mixInto ({ frames := 0, cells := 0, slots := 0, locals := 0 }) (va_Pc [.ref ro, .long hh] (fun U => va_P (dC, dI) vwCl [(ro, .inr (6, [.int 4, .int 6, .ref ca, .int (nI nz)])), (ca, .inl (cc0, 24, .inl ff))] U.heap ∧ va_K (dC, dI) vwCl [(cc0, .int)] U)) (vp_Sl (fun r => True)) 0 0 (fun _ => False) := by
  refine Met.ofW (cc := cX6_mixInto) (maxL := 6) (ret := (some .long)) (by decide) rfl ?_
  intro p e s m args below meth c s₁ B hml hv
  obtain ⟨rfl, hP, hK⟩ := hv
  have hx := B.exec
  have hb := B.bytes
  have hr := B.returns
  have hts := atoms_spec (ws := wsX6_mixInto) B.pre
  have hown : s.vm.findClass RX6 = some m.cls := findClass_of_methodNamed B.named
  have hlocks := B.notSynchronized
  have hl := lv_entry ([.ref ro, .long hh]) (n := 6) (Nat.le_of_ble_eq_true rfl)
  rw [lg_entry_eq]
  generalize (lg_sl ([.ref ro, .long hh]) ++ List.replicate (6 - (lg_sl ([.ref ro, .long hh])).length) Slot.unset).toArray = ls at hl ⊢
  have hl : lv_has ls 6 [(0, .ref ro), (1, .long hh)] := hl
  refine lv_lload_n hx hb dX6_mixInto_0 rfl (lv_at hl 1 rfl) ?_
  refine lv_lstore_n (lv' := [(3, .long hh), (0, .ref ro), (1, .long hh)]) hx hb dX6_mixInto_1 rfl hl (by decide) rfl (fun ls hl => ?_)
  refine lv_iconst (v := 0) hx hb dX6_mixInto_2 (by decide) ?_
  refine lv_istore (lv' := [(5, .int 0), (3, .long hh), (0, .ref ro), (1, .long hh)]) hx hb dX6_mixInto_3 hl (by decide) rfl (fun ls hl => ?_)
  refine tz_while (σ := Nat × Int64 × Array Slot) (fun x => W p l e _ s m _ below meth c _ _ _ _ _ (F0 m 5 x.2.2 [])) (fun x => x.1 ≤ 64 ∧ lv_has x.2.2 6 [(5, .int (nI x.1)), (3, .long x.2.1), (0, .ref ro), (1, .long hh)]) (fun x => 65 - x.1) ?_ (0, hh, ls) ⟨by omega, hl⟩
  rintro ⟨kk, mh, ls⟩ ⟨hi_1_0, hl⟩ ih_2
  dsimp only at hi_1_0 hl ih_2 ⊢
  refine lv_iload hx hb dX6_mixInto_5 (lv_at hl 0 rfl) ?_
  refine lv_aload_n hx hb dX6_mixInto_7 rfl (lv_at hl 2 rfl) ?_
  refine va_get (D := (dC, dI)) (ci := 6) (v := .int (nI nz)) (C := RX6) (T := TX6) (N := 4) hx hb hts iw_r_mix_24_X6 hown hK hP 0 rfl rfl 3 (by decide) (hts (.fieldLink RX6 9 "ThriceCounted$Rows" "size" "I") (by decide +kernel)) (fun _ h9 => h9) rfl dX6_mixInto_8 ?_
  refine lv_aload_n hx hb dX6_mixInto_11 rfl (lv_at hl 2 rfl) ?_
  refine va_get (D := (dC, dI)) (ci := 6) (v := .int 4) (C := RX6) (T := TX6) (N := 4) hx hb hts iw_r_mix_24_X6 hown hK hP 0 rfl rfl 0 (by decide) (hts (.fieldLink RX6 24 "ThriceCounted$Rows" "width" "I") (by decide +kernel)) (fun _ h9 => h9) rfl dX6_mixInto_12 ?_
  refine lv_imul hx hb dX6_mixInto_15 ?_
  refine tz_i (nI (nz * 4)) (pk_mul nz 4) ?_
  refine lv_icmp_ge (tgt := 50) hx hb dX6_mixInto_16 (by decide) (fun c_3 => ?_) (fun c_3 => ?_)
  · have hn_4 : (nz * 4) ≤ kk := (nI_leI (a := (nz * 4)) (b := kk) (by omega) (by omega)).mp c_3
    refine lv_lload_n hx hb dX6_mixInto_50 rfl (lv_at hl 1 rfl) ?_
    exact W.lret (v := mh) hx hb hr (fun t ht hW => ⟨mh, rfl, trivial, ht⟩) (fun _ h => absurd h List.not_mem_nil) dX6_mixInto_51
  · have hn_5 : ¬ (nz * 4) ≤ kk := fun q => c_3 ((nI_leI (a := (nz * 4)) (b := kk) (by omega) (by omega)).mpr q)
    refine lv_iload hx hb dX6_mixInto_19 (lv_at hl 0 rfl) ?_
    refine lv_aload_n hx hb dX6_mixInto_21 rfl (lv_at hl 2 rfl) ?_
    refine va_get (D := (dC, dI)) (ci := 6) (v := .ref ca) (C := RX6) (T := TX6) (N := 4) hx hb hts iw_r_mix_24_X6 hown hK hP 0 rfl rfl 2 (by decide) (hts (.fieldLink RX6 27 "ThriceCounted$Rows" "cells" "[I") (by decide +kernel)) (fun _ h9 => h9) rfl dX6_mixInto_22 ?_
    refine va_alen (v := 24) hx hb hK hP 1 0 rfl rfl rfl dX6_mixInto_25 ?_
    refine lv_icmp_ge (tgt := 50) hx hb dX6_mixInto_26 (by decide) (fun c_6 => ?_) (fun c_6 => ?_)
    · have hn_7 : 24 ≤ kk := (nI_leI (a := 24) (b := kk) (by omega) (by omega)).mp c_6
      refine lv_lload_n hx hb dX6_mixInto_50 rfl (lv_at hl 1 rfl) ?_
      exact W.lret (v := mh) hx hb hr (fun t ht hW => ⟨mh, rfl, trivial, ht⟩) (fun _ h => absurd h List.not_mem_nil) dX6_mixInto_51
    · have hn_8 : ¬ 24 ≤ kk := fun q => c_6 ((nI_leI (a := 24) (b := kk) (by omega) (by omega)).mpr q)
      refine lv_ldc2 hx hb hown (hts (.constantLong RX6 59 (31)) (by decide +kernel)) dX6_mixInto_29 ?_
      refine lv_lload_n hx hb dX6_mixInto_32 rfl (lv_at hl 1 rfl) ?_
      refine lv_lmul hx hb dX6_mixInto_33 ?_
      refine lv_topl (fun x_9 _ => ?_)
      refine lv_aload_n hx hb dX6_mixInto_34 rfl (lv_at hl 2 rfl) ?_
      refine va_get (D := (dC, dI)) (ci := 6) (v := .ref ca) (C := RX6) (T := TX6) (N := 4) hx hb hts iw_r_mix_24_X6 hown hK hP 0 rfl rfl 2 (by decide) (hts (.fieldLink RX6 27 "ThriceCounted$Rows" "cells" "[I") (by decide +kernel)) (fun _ h9 => h9) rfl dX6_mixInto_35 ?_
      refine lv_iload hx hb dX6_mixInto_38 (lv_at hl 0 rfl) ?_
      refine va_iald hx hb hK hP 1 0 rfl rfl (vp_in_nI (n := kk) (N := 24) (by omega) (by decide)) dX6_mixInto_40 ?_
      refine lv_topi (fun x_10 _ => ?_)
      refine lv_i2l (v := x_10.toInt64) hx hb dX6_mixInto_41 rfl ?_
      refine lv_ladd hx hb dX6_mixInto_42 ?_
      refine lv_topl (fun x_11 _ => ?_)
      refine lv_lstore_n (lv' := [(3, .long x_11), (5, .int (nI kk)), (0, .ref ro), (1, .long hh)]) hx hb dX6_mixInto_43 rfl hl (by decide) rfl (fun ls hl => ?_)
      refine lv_iinc (v := (nI (kk + 1))) (lv' := [(5, .int (nI (kk + 1))), (3, .long x_11), (0, .ref ro), (1, .long hh)]) hx hb dX6_mixInto_44 hl (k := 1) rfl (nI_add kk 1) (by decide) rfl (fun ls hl => ?_)
      refine lv_goto (tgt := 5) hx hb dX6_mixInto_47 (by decide) ?_
      exact ih_2 ((kk + 1), x_11, ls) ⟨by dsimp only; omega, lv_sub hl [0, 1, 2, 3] rfl⟩ (by dsimp only; omega)
set_option maxRecDepth 20000 in
theorem iw_r_copy_24_X6 : ∀ w ∈ wsX60, w ∈ wsX6_copyFrom := by decide +kernel
set_option maxHeartbeats 4000000 in
set_option maxRecDepth 100000 in
theorem r_copy_24 (l : Launch) (dC : Nat → ClassId) (dI : Nat → Nat → Nat) (ro : Nat) (ca : Nat) (nz : Nat) (cc0 : ClassId) (ff : Nat → Int32) (rp : Nat) (cb : Nat) (ny : Nat) (cc1 : ClassId) (fb : Nat → Int32) (sz : Nat) (hz : nz ≤ 6) (hy : ny ≤ 6) : Met l yX6_copyFrom wsX6_copyFrom ({ frames := 1, cells := 0, slots := 0, locals := 40 }) (va_Pc [.ref ro, .ref rp] (fun U => U.heap.size = sz ∧ va_P (dC, dI) vwCl [(ro, .inr (6, [.int 4, .int 6, .ref ca, .int (nI nz)])), (ca, .inl (cc0, 24, .inl ff)), (rp, .inr (6, [.int 4, .int 6, .ref cb, .int (nI ny)])), (cb, .inl (cc1, 24, .inl fb))] U.heap ∧ va_K (dC, dI) vwCl [(cc0, .int), (cc1, .int)] U ∧ va_D (fun _ => True) [(ro, .inr (6, [.int 4, .int 6, .ref ca, .int (nI nz)])), (ca, .inl (cc0, 24, .inl ff)), (rp, .inr (6, [.int 4, .int 6, .ref cb, .int (nI ny)])), (cb, .inl (cc1, 24, .inl fb))])) (va_Qv (fun (_ : Unit) => True) (fun _ t => ∃ (fg : Nat → Int32), va_P (dC, dI) vwCl [(ro, .inr (6, [.int 4, .int 6, .ref ca, .int (nI ny)])), (ca, .inl (cc0, 24, .inl fg)), (rp, .inr (6, [.int 4, .int 6, .ref cb, .int (nI ny)])), (cb, .inl (cc1, 24, .inl fb))] t.heap ∧ va_K (dC, dI) vwCl [(cc0, .int), (cc1, .int)] t ∧ va_D (va_A [(ro, .inr (6, [.int 4, .int 6, .ref ca, .int (nI nz)])), (ca, .inl (cc0, 24, .inl ff)), (rp, .inr (6, [.int 4, .int 6, .ref cb, .int (nI ny)])), (cb, .inl (cc1, 24, .inl fb))] sz) [(ro, .inr (6, [.int 4, .int 6, .ref ca, .int (nI ny)])), (ca, .inl (cc0, 24, .inl fg)), (rp, .inr (6, [.int 4, .int 6, .ref cb, .int (nI ny)])), (cb, .inl (cc1, 24, .inl fb))]) (va_A [(ro, .inr (6, [.int 4, .int 6, .ref ca, .int (nI nz)])), (ca, .inl (cc0, 24, .inl ff)), (rp, .inr (6, [.int 4, .int 6, .ref cb, .int (nI ny)])), (cb, .inl (cc1, 24, .inl fb))] sz)) 0 0 (va_A [(ro, .inr (6, [.int 4, .int 6, .ref ca, .int (nI nz)])), (ca, .inl (cc0, 24, .inl ff)), (rp, .inr (6, [.int 4, .int 6, .ref cb, .int (nI ny)])), (cb, .inl (cc1, 24, .inl fb))] sz) := by
  refine Met.ofW (cc := cX6_copyFrom) (maxL := 2) (ret := none) (by decide) rfl ?_
  intro p e s m args below meth c s₁ B hml hv
  obtain ⟨rfl, hsz, hP, hK, hD0⟩ := hv
  have hx := B.exec
  have hb := B.bytes
  have hr := B.returns
  have hts := atoms_spec (ws := wsX6_copyFrom) B.pre
  have hown : s.vm.findClass RX6 = some m.cls := findClass_of_methodNamed B.named
  have hlocks := B.notSynchronized
  subst hsz
  have hD := hD0.self (sz := s.heap.size)
  generalize hAe : va_A [(ro, .inr (6, [.int 4, .int 6, .ref ca, .int (nI nz)])), (ca, .inl (cc0, 24, .inl ff)), (rp, .inr (6, [.int 4, .int 6, .ref cb, .int (nI ny)])), (cb, .inl (cc1, 24, .inl fb))] s.heap.size = A at hD ⊢
  have hA : ∀ q : Nat, s.heap.size ≤ q → A q := fun q h => by rw [← hAe]; exact Or.inr h
  have hS : va_S A s.heap s.heap [] := va_S.rf
  have hP : va_P (dC, dI) vwCl [(ro, .inr (6, [.int 4, .int 6, .ref ca, .int (nI nz)])), (ca, .inl (cc0, 24, .inl ff)), (rp, .inr (6, [.int 4, .int 6, .ref cb, .int (nI ny)])), (cb, .inl (cc1, 24, .inl fb))] s.heap := hP
  have hl := lv_entry ([.ref ro, .ref rp]) (n := 2) (Nat.le_of_ble_eq_true rfl)
  rw [lg_entry_eq]
  generalize (lg_sl ([.ref ro, .ref rp]) ++ List.replicate (2 - (lg_sl ([.ref ro, .ref rp])).length) Slot.unset).toArray = ls at hl ⊢
  have hl : lv_has ls 2 [(0, .ref ro), (1, .ref rp)] := hl
  refine lv_aload_n hx hb dX6_copyFrom_0 rfl (lv_at hl 0 rfl) ?_
  refine lv_aload_n hx hb dX6_copyFrom_1 rfl (lv_at hl 0 rfl) ?_
  refine va_get (D := (dC, dI)) (ci := 6) (v := .int 6) (C := RX6) (T := TX6) (N := 4) hx hb hts iw_r_copy_24_X6 hown hK hP 0 rfl rfl 1 (by decide) (hts (.fieldLink RX6 21 "ThriceCounted$Rows" "limit" "I") (by decide +kernel)) (fun _ h9 => h9) rfl dX6_copyFrom_2 ?_
  refine lv_aload_n hx hb dX6_copyFrom_5 rfl (lv_at hl 1 rfl) ?_
  refine va_get (D := (dC, dI)) (ci := 6) (v := .int (nI ny)) (C := RX6) (T := TX6) (N := 4) hx hb hts iw_r_copy_24_X6 hown hK hP 2 rfl rfl 3 (by decide) (hts (.fieldLink RX6 9 "ThriceCounted$Rows" "size" "I") (by decide +kernel)) (fun _ h9 => h9) rfl dX6_copyFrom_6 ?_
  refine va_mmin hx hb (hml.trans hl.1.symm) hown (hts (.methodLink RX6 50 Lib.Math.min.name) (by decide +kernel)) (hts (.static Lib.Math.min.name) (by decide +kernel)) (hts (.initialized "java/lang/Math") (by decide +kernel)) (hts (.code Lib.Math.min.name Lib.Math.min.code 2 (some .int)) (by decide +kernel)) (Nat.le_of_ble_eq_true rfl) (Nat.le_of_ble_eq_true rfl) (Nat.le_of_ble_eq_true rfl) (Nat.le_of_ble_eq_true rfl) dX6_copyFrom_9 ?_
  refine tz_i (nI ny) (tz_min (b := 6) (by omega) (by omega)) ?_
  refine va_put (D := (dC, dI)) (ci := 6) (v := .int (nI ny)) (ty := .int) (C := RX6) (T := TX6) (N := 4) hx hb hts iw_r_copy_24_X6 tyX6 tyX6_ok nmX6 hown hK hP hD hS 0 rfl rfl 3 (by decide) (hts (.fieldLink RX6 9 "ThriceCounted$Rows" "size" "I") (by decide +kernel)) (fun _ h9 => h9) rfl (by decide +kernel) rfl rfl (Nat.le_of_ble_eq_true rfl) dX6_copyFrom_12 (fun H locs hP hD hS => ?_)
  have hP : va_P (dC, dI) vwCl [(ro, .inr (6, [.int 4, .int 6, .ref ca, .int (nI ny)])), (ca, .inl (cc0, 24, .inl ff)), (rp, .inr (6, [.int 4, .int 6, .ref cb, .int (nI ny)])), (cb, .inl (cc1, 24, .inl fb))] H := hP
  have hD : va_D A [(ro, .inr (6, [.int 4, .int 6, .ref ca, .int (nI ny)])), (ca, .inl (cc0, 24, .inl ff)), (rp, .inr (6, [.int 4, .int 6, .ref cb, .int (nI ny)])), (cb, .inl (cc1, 24, .inl fb))] := hD
  refine lv_aload_n hx hb dX6_copyFrom_15 rfl (lv_at hl 1 rfl) ?_
  refine va_get (D := (dC, dI)) (ci := 6) (v := .ref cb) (C := RX6) (T := TX6) (N := 4) hx hb hts iw_r_copy_24_X6 hown hK hP 2 rfl rfl 2 (by decide) (hts (.fieldLink RX6 27 "ThriceCounted$Rows" "cells" "[I") (by decide +kernel)) (fun _ h9 => h9) rfl dX6_copyFrom_16 ?_
  refine lv_iconst (v := 0) hx hb dX6_copyFrom_19 (by decide) ?_
  refine lv_aload_n hx hb dX6_copyFrom_20 rfl (lv_at hl 0 rfl) ?_
  refine va_get (D := (dC, dI)) (ci := 6) (v := .ref ca) (C := RX6) (T := TX6) (N := 4) hx hb hts iw_r_copy_24_X6 hown hK hP 0 rfl rfl 2 (by decide) (hts (.fieldLink RX6 27 "ThriceCounted$Rows" "cells" "[I") (by decide +kernel)) (fun _ h9 => h9) rfl dX6_copyFrom_21 ?_
  refine lv_iconst (v := 0) hx hb dX6_copyFrom_24 (by decide) ?_
  refine lv_aload_n hx hb dX6_copyFrom_25 rfl (lv_at hl 0 rfl) ?_
  refine va_get (D := (dC, dI)) (ci := 6) (v := .ref ca) (C := RX6) (T := TX6) (N := 4) hx hb hts iw_r_copy_24_X6 hown hK hP 0 rfl rfl 2 (by decide) (hts (.fieldLink RX6 27 "ThriceCounted$Rows" "cells" "[I") (by decide +kernel)) (fun _ h9 => h9) rfl dX6_copyFrom_26 ?_
  refine va_alen (v := 24) hx hb hK hP 1 0 rfl rfl rfl dX6_copyFrom_29 ?_
  refine lv_aload_n hx hb dX6_copyFrom_30 rfl (lv_at hl 1 rfl) ?_
  refine va_get (D := (dC, dI)) (ci := 6) (v := .ref cb) (C := RX6) (T := TX6) (N := 4) hx hb hts iw_r_copy_24_X6 hown hK hP 2 rfl rfl 2 (by decide) (hts (.fieldLink RX6 27 "ThriceCounted$Rows" "cells" "[I") (by decide +kernel)) (fun _ h9 => h9) rfl dX6_copyFrom_31 ?_
  refine va_alen (v := 24) hx hb hK hP 3 1 rfl rfl rfl dX6_copyFrom_34 ?_
  refine va_mmin hx hb (hml.trans hl.1.symm) hown (hts (.methodLink RX6 50 Lib.Math.min.name) (by decide +kernel)) (hts (.static Lib.Math.min.name) (by decide +kernel)) (hts (.initialized "java/lang/Math") (by decide +kernel)) (hts (.code Lib.Math.min.name Lib.Math.min.code 2 (some .int)) (by decide +kernel)) (Nat.le_of_ble_eq_true rfl) (Nat.le_of_ble_eq_true rfl) (Nat.le_of_ble_eq_true rfl) (Nat.le_of_ble_eq_true rfl) dX6_copyFrom_35 ?_
  refine tz_i 24 (by decide) ?_
  refine va_copyi (ty := .int) hx hb (hml.trans hl.1.symm) hown (hts (.methodLink RX6 53 arraycopyName) (by decide +kernel)) (hts (.native arraycopyName) (by decide +kernel)) (hts (.static arraycopyName) (by decide +kernel)) (hts (.initialized "java/lang/System") (by decide +kernel)) hK hP hD hS 3 1 1 0 rfl rfl rfl rfl rfl (by decide) (by decide) (by decide) (by decide) (by decide) (fun _ _ => rfl) (Nat.le_of_ble_eq_true rfl) (Nat.le_of_ble_eq_true rfl) dX6_copyFrom_38 (fun H locs hP hD hS => ?_)
  generalize (va_cpy _ _ _ _ _) = f_1 at hP hD
  have hP : va_P (dC, dI) vwCl [(ro, .inr (6, [.int 4, .int 6, .ref ca, .int (nI ny)])), (ca, .inl (cc0, 24, .inl f_1)), (rp, .inr (6, [.int 4, .int 6, .ref cb, .int (nI ny)])), (cb, .inl (cc1, 24, .inl fb))] H := hP
  have hD : va_D A [(ro, .inr (6, [.int 4, .int 6, .ref ca, .int (nI ny)])), (ca, .inl (cc0, 24, .inl f_1)), (rp, .inr (6, [.int 4, .int 6, .ref cb, .int (nI ny)])), (cb, .inl (cc1, 24, .inl fb))] := hD
  have hP9 := hP.sub (ws' := [(ro, .inr (6, [.int 4, .int 6, .ref ca, .int (nI ny)])), (ca, .inl (cc0, 24, .inl f_1)), (rp, .inr (6, [.int 4, .int 6, .ref cb, .int (nI ny)])), (cb, .inl (cc1, 24, .inl fb))]) [0, 1, 2, 3] rfl
  have hD9 := hD.sub (ws' := [(ro, .inr (6, [.int 4, .int 6, .ref ca, .int (nI ny)])), (ca, .inl (cc0, 24, .inl f_1)), (rp, .inr (6, [.int 4, .int 6, .ref cb, .int (nI ny)])), (cb, .inl (cc1, 24, .inl fb))]) [0, 1, 2, 3] (by decide) rfl
  have hK9 := hK.sub (tys' := [(cc0, .int), (cc1, .int)]) [0, 1] rfl
  exact W.vret hx hb hr (fun t ht hW => ⟨⟨(), rfl, trivial, f_1, by rw [ht]; exact hP9, va_K.moved hW.alike hK9, hD9⟩, hS.F ht⟩) hS.2.2 dX6_copyFrom_41
