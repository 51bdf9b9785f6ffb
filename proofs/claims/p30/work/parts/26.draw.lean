-- counts by a seed
def dX (sd : Nat) : Nat → Nat
  | 0 => sd
  | i + 1 => (dX sd i * 1103515245 + 12345) % 2147483648
def dT (f : Int32 → Int32) (t : Int32) (sd i : Nat) : Int32 := t + f (nI (dX sd (i + 1) / 65536 % 20))
def dR (t : Int32) (g : Nat → Int32) : Nat → Int32
  | 0 => 0
  | i + 1 => if g i = t then dR t g i + 1 else dR t g i
def dL (g : Nat → Int32) : Nat → Int32
  | 0 => -1
  | i + 1 => if i = 0 then g i else if g i < dL g i then g i else dL g i
def dG (g : Nat → Int32) : Nat → Int32
  | 0 => -1
  | i + 1 => if i = 0 then g i else if dG g i < g i then g i else dG g i
def eL (g : Nat → Int32) : Nat → Int32
  | 0 => -1
  | i + 1 => if i = 0 then g i else if eL g i ≤ g i then eL g i else g i
def eG (g : Nat → Int32) : Nat → Int32
  | 0 => -1
  | i + 1 => if g i ≤ eG g i then eG g i else g i
theorem tz_dxlt {sd : Nat} (h : sd < 2147483648) : ∀ i, dX sd i < 2147483648
  | 0 => h
  | i + 1 => Nat.mod_lt _ (by decide)
theorem tz_dx {n : Nat} (h : n < 2147483648) : lN n * 1103515245 + 12345 - (lN n * 1103515245 + 12345) / 2147483648 * 2147483648 = lN ((n * 1103515245 + 12345) % 2147483648) := by
  have e : lN n * 1103515245 + 12345 = lN (n * 1103515245 + 12345) := by
    rw [← lN_add, ← lN_mul]; rfl
  rw [e]
  exact pk_lRem (a := n * 1103515245 + 12345) (b := 2147483648) (by omega) (by decide) (by decide)
theorem tz_di {n : Nat} (h : n < 2147483648) : (lN n / 65536 - lN n / 65536 / 20 * 20).toInt32 = nI (n / 65536 % 20) := by
  have e : lN n / 65536 = lN (n / 65536) := pk_lDiv (a := n) (b := 65536) (by omega) (by decide) (by decide)
  rw [e, ← lN_i]
  exact congrArg Int64.toInt32 (pk_lRem (a := n / 65536) (b := 20) (by omega) (by decide) (by decide))
theorem tz_n0 {i : Nat} (hi : i < 2 ^ 31) (h : nI i = 0) : i = 0 := (nI_eq hi (by decide)).mp (h.trans nI_0.symm)
theorem tz_eL (g : Nat → Int32) : ∀ n, eL g n = dL g n
  | 0 => rfl
  | i + 1 => by
    simp only [eL, dL]
    rw [tz_eL g i]
    by_cases h0 : i = 0
    · rw [if_pos h0, if_pos h0]
    · rw [if_neg h0, if_neg h0]
      by_cases h1 : g i < dL g i
      · rw [if_pos h1, if_neg (tz_ltn h1)]
      · rw [if_neg h1, if_pos (tz_nlt h1)]
theorem tz_eG {g : Nat → Int32} (h : ¬ g 0 ≤ -1) : ∀ n, eG g n = dG g n
  | 0 => rfl
  | i + 1 => by
    simp only [eG, dG]
    rw [tz_eG h i]
    by_cases h0 : i = 0
    · subst h0
      rw [if_pos rfl]
      exact if_neg h
    · rw [if_neg h0]
      by_cases h1 : dG g i < g i
      · rw [if_pos h1, if_neg (tz_ltn h1)]
      · rw [if_neg h1, if_pos (tz_nlt h1)]
theorem tz_low {w : Int32} (h : 0 ≤ w ∧ w ≤ 5) : ∀ j, j < 20 → -5 ≤ (zS w (nI j)).toInt ∧ (zS w (nI j)).toInt ≤ 5 := by
  rcases tz_six h with rfl | rfl | rfl | rfl | rfl | rfl <;> decide
theorem tz_dTy {w : Int32} (h : 0 ≤ w ∧ w ≤ 5) (t : Int32) (sd : Nat) : dT (yS w) t sd = dT (zS w) t sd := by
  funext i
  unfold dT
  rw [tz_yz h _ (Nat.mod_lt _ (by decide))]
theorem tz_dT0 {w t : Int32} (h : 0 ≤ w ∧ w ≤ 5) (ht : 80 ≤ t ∧ t ≤ 120) (sd i : Nat) : ¬ dT (zS w) t sd i ≤ -1 := by
  obtain ⟨a, b⟩ := ht
  obtain ⟨u, v⟩ := tz_low h (dX sd (i + 1) / 65536 % 20) (Nat.mod_lt _ (by decide))
  unfold dT
  generalize zS w (nI (dX sd (i + 1) / 65536 % 20)) = z at u v
  rw [Int32.le_iff_toInt_le] at a b ⊢
  have a' : (80 : Int) ≤ t.toInt := a
  have b' : t.toInt ≤ (120 : Int) := b
  have e : (t + z).toInt = t.toInt + z.toInt := by
    rw [Int32.toInt_add]
    apply Int.bmod_eq_of_le <;> omega
  rw [e]
  show ¬ t.toInt + z.toInt ≤ (-1 : Int)
  omega
def dS (f : Int32 → Int32 → Int32) (L G : (Nat → Int32) → Nat → Int32) (na nb nc nd ne : Int32) : Int32 := if 0 ≤ na ∧ na ≤ 5 then (if 80 ≤ nb ∧ nb ≤ 120 then (if 0 ≤ nc ∧ nc ≤ 60 then (if 0 ≤ nd ∧ nd ≤ 999999 then (if 0 ≤ ne ∧ ne ≤ 2 then (if ne = 0 then dR nb (dT (f na) nb nd.toNatClampNeg) nc.toNatClampNeg else if ne = 1 then L (dT (f na) nb nd.toNatClampNeg) nc.toNatClampNeg else G (dT (f na) nb nd.toNatClampNeg) nc.toNatClampNeg) else (-2)) else (-2)) else (-2)) else (-2)) else (-2)
theorem tz_drawn (na nb nc nd ne : Int32) : dS zS dL dG na nb nc nd ne = dS yS eL eG na nb nc nd ne := by
  unfold dS
  by_cases h1 : 0 ≤ na ∧ na ≤ 5
  · rw [if_pos h1, if_pos h1]
    by_cases h2 : 80 ≤ nb ∧ nb ≤ 120
    · rw [if_pos h2, if_pos h2, tz_dTy h1, tz_eL, tz_eG (tz_dT0 h1 h2 _ 0)]
    · rw [if_neg h2, if_neg h2]
  · rw [if_neg h1, if_neg h1]
set_option maxRecDepth 20000 in
theorem iw_x_drawnF_X11 : ∀ w ∈ wsX110, w ∈ wsX11_drawn := by decide +kernel
set_option maxHeartbeats 4000000 in
set_option maxRecDepth 100000 in
theorem x_drawnF (l : Launch) (dC : Nat → ClassId) (dI : Nat → Nat → Nat) (o : Nat) (aw : Nat) (ab : Nat → Nat) (ai : Nat) (ak : Nat) (sc : Nat) (rd : Nat) (fo : Nat) (tx : Nat) (ty : Int32) (ar : Nat) (at_ : Nat) (ao : Nat) (cw : ClassId) (w0 : Nat) (w1 : Nat) (w2 : Nat) (w3 : Nat) (w4 : Nat) (w5 : Nat) (cr : ClassId) (fr : Nat → Int32) (na : Int32) (nb : Int32) (nc : Int32) (nd : Int32) (ne : Int32) (sz : Nat) : Met l yX11_drawn wsX11_drawn ({ frames := 3, cells := 0, slots := 0, locals := 63 }) (va_Pc [.ref o, .int na, .int nb, .int nc, .int nd, .int ne] (fun U => U.heap.size = sz ∧ va_P (dC, dI) vwCl [(o, .inr (11, [.ref aw, .ref (ab 0), .ref ai, .ref ak, .ref sc, .ref rd, .ref fo, .ref tx, .int ty, .ref ar, .ref at_, .ref ao])), (aw, .inl (cw, 6, .inr (.inr (.inr (.inr (tz_w w0 w1 w2 w3 w4 w5)))))), (w0, .inr (4, [])), (w1, .inr (1, [])), (w2, .inr (10, [])), (w3, .inr (3, [])), (w4, .inr (9, [])), (w5, .inr (8, [])), (ar, .inl (cr, 3, .inl fr))] U.heap ∧ va_K (dC, dI) vwCl [(cw, (.object "ThriceCounted$Ones")), (cr, .int)] U ∧ va_D (fun _ => True) [(o, .inr (11, [.ref aw, .ref (ab 0), .ref ai, .ref ak, .ref sc, .ref rd, .ref fo, .ref tx, .int ty, .ref ar, .ref at_, .ref ao])), (aw, .inl (cw, 6, .inr (.inr (.inr (.inr (tz_w w0 w1 w2 w3 w4 w5)))))), (w0, .inr (4, [])), (w1, .inr (1, [])), (w2, .inr (10, [])), (w3, .inr (3, [])), (w4, .inr (9, [])), (w5, .inr (8, [])), (ar, .inl (cr, 3, .inl fr))])) (va_Qi (fun (r : Int32) (_ : Unit) => r = (dS zS dL dG na nb nc nd ne)) (fun _ t => ∃ (gr : Nat → Int32), va_P (dC, dI) vwCl [(o, .inr (11, [.ref aw, .ref (ab 0), .ref ai, .ref ak, .ref sc, .ref rd, .ref fo, .ref tx, .int ty, .ref ar, .ref at_, .ref ao])), (aw, .inl (cw, 6, .inr (.inr (.inr (.inr (tz_w w0 w1 w2 w3 w4 w5)))))), (w0, .inr (4, [])), (w1, .inr (1, [])), (w2, .inr (10, [])), (w3, .inr (3, [])), (w4, .inr (9, [])), (w5, .inr (8, [])), (ar, .inl (cr, 3, .inl gr))] t.heap ∧ va_K (dC, dI) vwCl [(cw, (.object "ThriceCounted$Ones")), (cr, .int)] t ∧ va_D (va_A [(o, .inr (11, [.ref aw, .ref (ab 0), .ref ai, .ref ak, .ref sc, .ref rd, .ref fo, .ref tx, .int ty, .ref ar, .ref at_, .ref ao])), (aw, .inl (cw, 6, .inr (.inr (.inr (.inr (tz_w w0 w1 w2 w3 w4 w5)))))), (w0, .inr (4, [])), (w1, .inr (1, [])), (w2, .inr (10, [])), (w3, .inr (3, [])), (w4, .inr (9, [])), (w5, .inr (8, [])), (ar, .inl (cr, 3, .inl fr))] sz) [(o, .inr (11, [.ref aw, .ref (ab 0), .ref ai, .ref ak, .ref sc, .ref rd, .ref fo, .ref tx, .int ty, .ref ar, .ref at_, .ref ao])), (aw, .inl (cw, 6, .inr (.inr (.inr (.inr (tz_w w0 w1 w2 w3 w4 w5)))))), (w0, .inr (4, [])), (w1, .inr (1, [])), (w2, .inr (10, [])), (w3, .inr (3, [])), (w4, .inr (9, [])), (w5, .inr (8, [])), (ar, .inl (cr, 3, .inl gr))]) (va_A [(o, .inr (11, [.ref aw, .ref (ab 0), .ref ai, .ref ak, .ref sc, .ref rd, .ref fo, .ref tx, .int ty, .ref ar, .ref at_, .ref ao])), (aw, .inl (cw, 6, .inr (.inr (.inr (.inr (tz_w w0 w1 w2 w3 w4 w5)))))), (w0, .inr (4, [])), (w1, .inr (1, [])), (w2, .inr (10, [])), (w3, .inr (3, [])), (w4, .inr (9, [])), (w5, .inr (8, [])), (ar, .inl (cr, 3, .inl fr))] sz)) 0 0 (va_A [(o, .inr (11, [.ref aw, .ref (ab 0), .ref ai, .ref ak, .ref sc, .ref rd, .ref fo, .ref tx, .int ty, .ref ar, .ref at_, .ref ao])), (aw, .inl (cw, 6, .inr (.inr (.inr (.inr (tz_w w0 w1 w2 w3 w4 w5)))))), (w0, .inr (4, [])), (w1, .inr (1, [])), (w2, .inr (10, [])), (w3, .inr (3, [])), (w4, .inr (9, [])), (w5, .inr (8, [])), (ar, .inl (cr, 3, .inl fr))] sz) := by
  refine Met.ofW (cc := cX11_drawn) (maxL := 13) (ret := (some .int)) (by decide) rfl ?_
  intro p e s m args below meth c s₁ B hml hv
  obtain ⟨rfl, hsz, hP, hK, hD0⟩ := hv
  have hx := B.exec
  have hb := B.bytes
  have hr := B.returns
  have hts := atoms_spec (ws := wsX11_drawn) B.pre
  have hown : s.vm.findClass RX11 = some m.cls := findClass_of_methodNamed B.named
  have hlocks := B.notSynchronized
  subst hsz
  have hD := hD0.self (sz := s.heap.size)
  generalize hAe : va_A [(o, .inr (11, [.ref aw, .ref (ab 0), .ref ai, .ref ak, .ref sc, .ref rd, .ref fo, .ref tx, .int ty, .ref ar, .ref at_, .ref ao])), (aw, .inl (cw, 6, .inr (.inr (.inr (.inr (tz_w w0 w1 w2 w3 w4 w5)))))), (w0, .inr (4, [])), (w1, .inr (1, [])), (w2, .inr (10, [])), (w3, .inr (3, [])), (w4, .inr (9, [])), (w5, .inr (8, [])), (ar, .inl (cr, 3, .inl fr))] s.heap.size = A at hD ⊢
  have hA : ∀ q : Nat, s.heap.size ≤ q → A q := fun q h => by rw [← hAe]; exact Or.inr h
  have hS : va_S A s.heap s.heap [] := va_S.rf
  have hP : va_P (dC, dI) vwCl [(o, .inr (11, [.ref aw, .ref (ab 0), .ref ai, .ref ak, .ref sc, .ref rd, .ref fo, .ref tx, .int ty, .ref ar, .ref at_, .ref ao])), (aw, .inl (cw, 6, .inr (.inr (.inr (.inr (tz_w w0 w1 w2 w3 w4 w5)))))), (w0, .inr (4, [])), (w1, .inr (1, [])), (w2, .inr (10, [])), (w3, .inr (3, [])), (w4, .inr (9, [])), (w5, .inr (8, [])), (ar, .inl (cr, 3, .inl fr))] s.heap := hP
  have hl := lv_entry ([.ref o, .int na, .int nb, .int nc, .int nd, .int ne]) (n := 13) (Nat.le_of_ble_eq_true rfl)
  rw [lg_entry_eq]
  generalize (lg_sl ([.ref o, .int na, .int nb, .int nc, .int nd, .int ne]) ++ List.replicate (13 - (lg_sl ([.ref o, .int na, .int nb, .int nc, .int nd, .int ne])).length) Slot.unset).toArray = ls at hl ⊢
  have hl : lv_has ls 13 [(0, .ref o), (1, .int na), (2, .int nb), (3, .int nc), (4, .int nd), (5, .int ne)] := hl
  refine lv_aload_n hx hb dX11_drawn_0 rfl (lv_at hl 0 rfl) ?_
  refine lv_iload_n hx hb dX11_drawn_1 rfl (lv_at hl 1 rfl) ?_
  have hPc_1 := hP.sub (ws' := [(o, .inr (11, [.ref aw, .ref (ab 0), .ref ai, .ref ak, .ref sc, .ref rd, .ref fo, .ref tx, .int ty, .ref ar, .ref at_, .ref ao])), (aw, .inl (cw, 6, .inr (.inr (.inr (.inr (tz_w w0 w1 w2 w3 w4 w5)))))), (w0, .inr (4, [])), (w1, .inr (1, [])), (w2, .inr (10, [])), (w3, .inr (3, [])), (w4, .inr (9, [])), (w5, .inr (8, []))]) [0, 1, 2, 3, 4, 5, 6, 7] rfl
  have hKc_2 := hK.sub (tys' := [(cw, (.object "ThriceCounted$Ones"))]) [0] rfl
  refine vp_callSi (va_Run.run (va_runV (As := [.int na]) (rest := []) ⟨hx, hb, hml, hown, hts⟩ (x_isWay l dC dI o aw ab ai ak sc rd fo tx ty ar at_ ao cw w0 w1 w2 w3 w4 w5 na) (cwV 1 hts gX11_drawn_X11_isWay rfl rfl rfl (by decide +kernel) ⟨Nat.le_of_ble_eq_true rfl, Nat.le_of_ble_eq_true rfl⟩) ⟨fun a U g mk q => by obtain ⟨q0, qP, qK⟩ := q; exact ⟨q0, qP, va_K.moved (u := U) (U := U.calling g mk a) (Vm.Alike.refl U.vm) qK⟩, va_recv hK hP (ci := 11) (q0 := 0) rfl rfl, fun U hU hW => ⟨rfl, by rw [hU]; exact hPc_1, va_K.moved hW.alike hKc_2⟩⟩ rfl rfl hl.1 rfl (lv_room (Nat.le_of_ble_eq_true rfl)) dX11_drawn_2 ⟨Nat.le_of_ble_eq_true rfl, Nat.le_of_ble_eq_true rfl⟩)) (fun r_3 hw_4 => ?_)
  by_cases hc_5 : 0 ≤ na ∧ na ≤ 5
  · obtain rfl : 1 = r_3 := (hw_4.trans (if_pos hc_5)).symm
    refine lv_if_eq (tgt := 50) hx hb dX11_drawn_5 (by decide) (fun c_6 => ?_) (fun c_6 => ?_)
    · exact absurd c_6 (by decide)
    · refine lv_iload_n hx hb dX11_drawn_8 rfl (lv_at hl 2 rfl) ?_
      refine lv_bipush (v := 80) hx hb dX11_drawn_9 (by decide) ?_
      refine lv_bipush (v := 120) hx hb dX11_drawn_11 (by decide) ?_
      refine vp_callSi (va_Run.run (va_runS (As := [.int nb, .int 80, .int 120]) (rest := []) ⟨hx, hb, hml, hown, hts⟩ (x_within l dC dI nb 80 120) (va_cwS 3 hts gX11_drawn_X11_within rfl rfl rfl (by decide +kernel) ⟨Nat.le_of_ble_eq_true rfl, Nat.le_of_ble_eq_true rfl⟩) ⟨fun a U g mk q => ⟨q.1, trivial⟩, fun U hU hW => ⟨rfl, trivial⟩⟩ rfl rfl hl.1 rfl (lv_room (Nat.le_of_ble_eq_true rfl)) dX11_drawn_13 ⟨Nat.le_of_ble_eq_true rfl, Nat.le_of_ble_eq_true rfl⟩)) (fun r_7 hw_8 => ?_)
      by_cases hc_9 : 80 ≤ nb ∧ nb ≤ 120
      · obtain rfl : 1 = r_7 := (hw_8.trans (if_pos hc_9)).symm
        refine lv_if_eq (tgt := 50) hx hb dX11_drawn_16 (by decide) (fun c_10 => ?_) (fun c_10 => ?_)
        · exact absurd c_10 (by decide)
        · refine lv_iload_n hx hb dX11_drawn_19 rfl (lv_at hl 3 rfl) ?_
          refine lv_iconst (v := 0) hx hb dX11_drawn_20 (by decide) ?_
          refine lv_bipush (v := 60) hx hb dX11_drawn_21 (by decide) ?_
          refine vp_callSi (va_Run.run (va_runS (As := [.int nc, .int 0, .int 60]) (rest := []) ⟨hx, hb, hml, hown, hts⟩ (x_within l dC dI nc 0 60) (va_cwS 3 hts gX11_drawn_X11_within rfl rfl rfl (by decide +kernel) ⟨Nat.le_of_ble_eq_true rfl, Nat.le_of_ble_eq_true rfl⟩) ⟨fun a U g mk q => ⟨q.1, trivial⟩, fun U hU hW => ⟨rfl, trivial⟩⟩ rfl rfl hl.1 rfl (lv_room (Nat.le_of_ble_eq_true rfl)) dX11_drawn_23 ⟨Nat.le_of_ble_eq_true rfl, Nat.le_of_ble_eq_true rfl⟩)) (fun r_11 hw_12 => ?_)
          by_cases hc_13 : 0 ≤ nc ∧ nc ≤ 60
          · obtain rfl : 1 = r_11 := (hw_12.trans (if_pos hc_13)).symm
            refine lv_if_eq (tgt := 50) hx hb dX11_drawn_26 (by decide) (fun c_14 => ?_) (fun c_14 => ?_)
            · exact absurd c_14 (by decide)
            · refine lv_iload hx hb dX11_drawn_29 (lv_at hl 4 rfl) ?_
              refine lv_iconst (v := 0) hx hb dX11_drawn_31 (by decide) ?_
              refine lv_ldc hx hb hown (hts (.constant RX11 254 (999999)) (by decide +kernel)) dX11_drawn_32 ?_
              refine vp_callSi (va_Run.run (va_runS (As := [.int nd, .int 0, .int 999999]) (rest := []) ⟨hx, hb, hml, hown, hts⟩ (x_within l dC dI nd 0 999999) (va_cwS 3 hts gX11_drawn_X11_within rfl rfl rfl (by decide +kernel) ⟨Nat.le_of_ble_eq_true rfl, Nat.le_of_ble_eq_true rfl⟩) ⟨fun a U g mk q => ⟨q.1, trivial⟩, fun U hU hW => ⟨rfl, trivial⟩⟩ rfl rfl hl.1 rfl (lv_room (Nat.le_of_ble_eq_true rfl)) dX11_drawn_34 ⟨Nat.le_of_ble_eq_true rfl, Nat.le_of_ble_eq_true rfl⟩)) (fun r_15 hw_16 => ?_)
              by_cases hc_17 : 0 ≤ nd ∧ nd ≤ 999999
              · obtain rfl : 1 = r_15 := (hw_16.trans (if_pos hc_17)).symm
                refine lv_if_eq (tgt := 50) hx hb dX11_drawn_37 (by decide) (fun c_18 => ?_) (fun c_18 => ?_)
                · exact absurd c_18 (by decide)
                · refine lv_iload hx hb dX11_drawn_40 (lv_at hl 5 rfl) ?_
                  refine lv_iconst (v := 0) hx hb dX11_drawn_42 (by decide) ?_
                  refine lv_iconst (v := 2) hx hb dX11_drawn_43 (by decide) ?_
                  refine vp_callSi (va_Run.run (va_runS (As := [.int ne, .int 0, .int 2]) (rest := []) ⟨hx, hb, hml, hown, hts⟩ (x_within l dC dI ne 0 2) (va_cwS 3 hts gX11_drawn_X11_within rfl rfl rfl (by decide +kernel) ⟨Nat.le_of_ble_eq_true rfl, Nat.le_of_ble_eq_true rfl⟩) ⟨fun a U g mk q => ⟨q.1, trivial⟩, fun U hU hW => ⟨rfl, trivial⟩⟩ rfl rfl hl.1 rfl (lv_room (Nat.le_of_ble_eq_true rfl)) dX11_drawn_44 ⟨Nat.le_of_ble_eq_true rfl, Nat.le_of_ble_eq_true rfl⟩)) (fun r_19 hw_20 => ?_)
                  by_cases hc_21 : 0 ≤ ne ∧ ne ≤ 2
                  · obtain rfl : 1 = r_19 := (hw_20.trans (if_pos hc_21)).symm
                    refine lv_if_ne (tgt := 57) hx hb dX11_drawn_47 (by decide) (fun c_22 => ?_) (fun c_22 => ?_)
                    · obtain ⟨nn, hnn, rfl⟩ := tz_pick (n := 61) hc_13.1 hc_13.2 (by decide)
                      obtain ⟨sn, hsn, rfl⟩ := tz_pick (n := 1000000) hc_17.1 hc_17.2 (by decide)
                      have en : (nI nn).toNatClampNeg = nn := nI_clamp (by omega)
                      have es : (nI sn).toNatClampNeg = sn := nI_clamp (by omega)
                      have hdx := tz_dxlt (sd := sn) (by omega)
                      rcases (tz_six hc_5) with rfl | rfl | rfl | rfl | rfl | rfl
                      · refine lv_iload hx hb dX11_drawn_57 (lv_at hl 4 rfl) ?_
                        refine lv_i2l (v := (nI sn).toInt64) hx hb dX11_drawn_59 rfl ?_
                        refine tz_l (lN sn) (nI_l (by omega)) ?_
                        refine lv_lstore (lv' := [(6, .long (lN sn)), (0, .ref o), (1, .int 0), (2, .int nb), (3, .int (nI nn)), (4, .int (nI sn)), (5, .int ne)]) hx hb dX11_drawn_60 hl (by decide) rfl (fun ls hl => ?_)
                        refine lv_iconst (v := 0) hx hb dX11_drawn_62 (by decide) ?_
                        refine lv_istore (lv' := [(8, .int 0), (6, .long (lN sn)), (0, .ref o), (1, .int 0), (2, .int nb), (3, .int (nI nn)), (4, .int (nI sn)), (5, .int ne)]) hx hb dX11_drawn_63 hl (by decide) rfl (fun ls hl => ?_)
                        refine lv_iconst (v := (-1)) hx hb dX11_drawn_65 (by decide) ?_
                        refine lv_istore (lv' := [(9, .int (-1)), (8, .int 0), (6, .long (lN sn)), (0, .ref o), (1, .int 0), (2, .int nb), (3, .int (nI nn)), (4, .int (nI sn)), (5, .int ne)]) hx hb dX11_drawn_66 hl (by decide) rfl (fun ls hl => ?_)
                        refine lv_iconst (v := (-1)) hx hb dX11_drawn_68 (by decide) ?_
                        refine lv_istore (lv' := [(10, .int (-1)), (9, .int (-1)), (8, .int 0), (6, .long (lN sn)), (0, .ref o), (1, .int 0), (2, .int nb), (3, .int (nI nn)), (4, .int (nI sn)), (5, .int ne)]) hx hb dX11_drawn_69 hl (by decide) rfl (fun ls hl => ?_)
                        refine lv_iconst (v := 0) hx hb dX11_drawn_71 (by decide) ?_
                        refine lv_istore (lv' := [(11, .int 0), (10, .int (-1)), (9, .int (-1)), (8, .int 0), (6, .long (lN sn)), (0, .ref o), (1, .int 0), (2, .int nb), (3, .int (nI nn)), (4, .int (nI sn)), (5, .int ne)]) hx hb dX11_drawn_72 hl (by decide) rfl (fun ls hl => ?_)
                        refine tz_for (σ := Int64 × Int32 × Int32 × Int32 × Int32 × Array Slot) (fun x => W p l e _ s m _ below meth c _ _ _ _ _ (F0 m 74 x.2.2.2.2.2 [])) (fun i x => x.1 = lN (dX sn i) ∧ x.2.1 = dR nb (dT zO nb sn) i ∧ x.2.2.1 = dL (dT zO nb sn) i ∧ x.2.2.2.1 = dG (dT zO nb sn) i ∧ x.2.2.2.2.1 = nI i ∧ lv_has x.2.2.2.2.2 13 [(11, .int x.2.2.2.2.1), (10, .int x.2.2.2.1), (9, .int x.2.2.1), (8, .int x.2.1), (6, .long x.1), (0, .ref o), (1, .int 0), (2, .int nb), (3, .int (nI nn)), (4, .int (nI sn)), (5, .int ne)]) nn ?_ ?_ (lN sn, 0, -1, -1, 0, ls) ⟨rfl, rfl, rfl, rfl, rfl, lv_sub hl [0, 1, 2, 3, 4, 5, 6, 7, 8, 9, 10] rfl⟩
                        · rintro ⟨xx, rr, le, gr, kk, ls⟩ ⟨ex, er, el, eg, ek, hl⟩
                          dsimp only at ex er el eg ek hl ⊢
                          refine lv_iload hx hb dX11_drawn_74 (lv_at hl 0 rfl) ?_
                          refine lv_iload_n hx hb dX11_drawn_76 rfl (lv_at hl 8 rfl) ?_
                          refine lv_icmp_ge (tgt := 180) hx hb dX11_drawn_77 (by decide) (fun c_23 => ?_) (fun c_23 => ?_)
                          · refine lv_iload hx hb dX11_drawn_180 (lv_at hl 10 rfl) ?_
                            refine lv_if_ne (tgt := 188) hx hb dX11_drawn_182 (by decide) (fun c_24 => ?_) (fun c_24 => ?_)
                            · refine lv_iload hx hb dX11_drawn_188 (lv_at hl 10 rfl) ?_
                              refine lv_iconst (v := 1) hx hb dX11_drawn_190 (by decide) ?_
                              refine lv_icmp_ne (tgt := 199) hx hb dX11_drawn_191 (by decide) (fun c_25 => ?_) (fun c_25 => ?_)
                              · refine lv_iload hx hb dX11_drawn_199 (lv_at hl 1 rfl) ?_
                                have hP9 := hP.sub (ws' := [(o, .inr (11, [.ref aw, .ref (ab 0), .ref ai, .ref ak, .ref sc, .ref rd, .ref fo, .ref tx, .int ty, .ref ar, .ref at_, .ref ao])), (aw, .inl (cw, 6, .inr (.inr (.inr (.inr (tz_w w0 w1 w2 w3 w4 w5)))))), (w0, .inr (4, [])), (w1, .inr (1, [])), (w2, .inr (10, [])), (w3, .inr (3, [])), (w4, .inr (9, [])), (w5, .inr (8, [])), (ar, .inl (cr, 3, .inl fr))]) [0, 1, 2, 3, 4, 5, 6, 7, 8] rfl
                                have hD9 := hD.sub (ws' := [(o, .inr (11, [.ref aw, .ref (ab 0), .ref ai, .ref ak, .ref sc, .ref rd, .ref fo, .ref tx, .int ty, .ref ar, .ref at_, .ref ao])), (aw, .inl (cw, 6, .inr (.inr (.inr (.inr (tz_w w0 w1 w2 w3 w4 w5)))))), (w0, .inr (4, [])), (w1, .inr (1, [])), (w2, .inr (10, [])), (w3, .inr (3, [])), (w4, .inr (9, [])), (w5, .inr (8, [])), (ar, .inl (cr, 3, .inl fr))]) [0, 1, 2, 3, 4, 5, 6, 7, 8] (by decide) rfl
                                have hK9 := hK.sub (tys' := [(cw, (.object "ThriceCounted$Ones")), (cr, .int)]) [0, 1] rfl
                                exact W.iret (v := gr) hx hb hr (fun t ht hW => ⟨⟨gr, (), rfl, (by unfold dS; rw [en, es]; exact eg.trans ((if_pos hc_5).trans ((if_pos hc_9).trans ((if_pos hc_13).trans ((if_pos hc_17).trans ((if_pos hc_21).trans ((if_neg c_24).trans (if_neg c_25))))))).symm), fr, by rw [ht]; exact hP9, va_K.moved hW.alike hK9, hD9⟩, hS.F ht⟩) hS.2.2 dX11_drawn_201
                              · refine lv_iload hx hb dX11_drawn_194 (lv_at hl 2 rfl) ?_
                                refine lv_goto (tgt := 201) hx hb dX11_drawn_196 (by decide) ?_
                                have hP9 := hP.sub (ws' := [(o, .inr (11, [.ref aw, .ref (ab 0), .ref ai, .ref ak, .ref sc, .ref rd, .ref fo, .ref tx, .int ty, .ref ar, .ref at_, .ref ao])), (aw, .inl (cw, 6, .inr (.inr (.inr (.inr (tz_w w0 w1 w2 w3 w4 w5)))))), (w0, .inr (4, [])), (w1, .inr (1, [])), (w2, .inr (10, [])), (w3, .inr (3, [])), (w4, .inr (9, [])), (w5, .inr (8, [])), (ar, .inl (cr, 3, .inl fr))]) [0, 1, 2, 3, 4, 5, 6, 7, 8] rfl
                                have hD9 := hD.sub (ws' := [(o, .inr (11, [.ref aw, .ref (ab 0), .ref ai, .ref ak, .ref sc, .ref rd, .ref fo, .ref tx, .int ty, .ref ar, .ref at_, .ref ao])), (aw, .inl (cw, 6, .inr (.inr (.inr (.inr (tz_w w0 w1 w2 w3 w4 w5)))))), (w0, .inr (4, [])), (w1, .inr (1, [])), (w2, .inr (10, [])), (w3, .inr (3, [])), (w4, .inr (9, [])), (w5, .inr (8, [])), (ar, .inl (cr, 3, .inl fr))]) [0, 1, 2, 3, 4, 5, 6, 7, 8] (by decide) rfl
                                have hK9 := hK.sub (tys' := [(cw, (.object "ThriceCounted$Ones")), (cr, .int)]) [0, 1] rfl
                                exact W.iret (v := le) hx hb hr (fun t ht hW => ⟨⟨le, (), rfl, (by unfold dS; rw [en, es]; exact el.trans ((if_pos hc_5).trans ((if_pos hc_9).trans ((if_pos hc_13).trans ((if_pos hc_17).trans ((if_pos hc_21).trans ((if_neg c_24).trans (if_pos c_25))))))).symm), fr, by rw [ht]; exact hP9, va_K.moved hW.alike hK9, hD9⟩, hS.F ht⟩) hS.2.2 dX11_drawn_201
                            · refine lv_iload hx hb dX11_drawn_185 (lv_at hl 3 rfl) ?_
                              have hP9 := hP.sub (ws' := [(o, .inr (11, [.ref aw, .ref (ab 0), .ref ai, .ref ak, .ref sc, .ref rd, .ref fo, .ref tx, .int ty, .ref ar, .ref at_, .ref ao])), (aw, .inl (cw, 6, .inr (.inr (.inr (.inr (tz_w w0 w1 w2 w3 w4 w5)))))), (w0, .inr (4, [])), (w1, .inr (1, [])), (w2, .inr (10, [])), (w3, .inr (3, [])), (w4, .inr (9, [])), (w5, .inr (8, [])), (ar, .inl (cr, 3, .inl fr))]) [0, 1, 2, 3, 4, 5, 6, 7, 8] rfl
                              have hD9 := hD.sub (ws' := [(o, .inr (11, [.ref aw, .ref (ab 0), .ref ai, .ref ak, .ref sc, .ref rd, .ref fo, .ref tx, .int ty, .ref ar, .ref at_, .ref ao])), (aw, .inl (cw, 6, .inr (.inr (.inr (.inr (tz_w w0 w1 w2 w3 w4 w5)))))), (w0, .inr (4, [])), (w1, .inr (1, [])), (w2, .inr (10, [])), (w3, .inr (3, [])), (w4, .inr (9, [])), (w5, .inr (8, [])), (ar, .inl (cr, 3, .inl fr))]) [0, 1, 2, 3, 4, 5, 6, 7, 8] (by decide) rfl
                              have hK9 := hK.sub (tys' := [(cw, (.object "ThriceCounted$Ones")), (cr, .int)]) [0, 1] rfl
                              exact W.iret (v := rr) hx hb hr (fun t ht hW => ⟨⟨rr, (), rfl, (by unfold dS; rw [en, es]; exact er.trans ((if_pos hc_5).trans ((if_pos hc_9).trans ((if_pos hc_13).trans ((if_pos hc_17).trans ((if_pos hc_21).trans (if_pos c_24)))))).symm), fr, by rw [ht]; exact hP9, va_K.moved hW.alike hK9, hD9⟩, hS.F ht⟩) hS.2.2 dX11_drawn_187
                          · exact absurd (by rw [ek]; exact nI_le (Nat.le_refl nn) (by omega)) c_23
                        · rintro ii ⟨xx, rr, le, gr, kk, ls⟩ hi ⟨ex, er, el, eg, ek, hl⟩ ih
                          dsimp only at ex er el eg ek hl ⊢
                          refine lv_iload hx hb dX11_drawn_74 (lv_at hl 0 rfl) ?_
                          refine lv_iload_n hx hb dX11_drawn_76 rfl (lv_at hl 8 rfl) ?_
                          refine lv_icmp_ge (tgt := 180) hx hb dX11_drawn_77 (by decide) (fun c_26 => ?_) (fun c_26 => ?_)
                          · exact absurd c_26 (by rw [ek]; exact nI_ge hi (by omega))
                          · refine lv_lload hx hb dX11_drawn_80 (lv_at hl 4 rfl) ?_
                            refine lv_ldc2 hx hb hown (hts (.constantLong RX11 255 (1103515245)) (by decide +kernel)) dX11_drawn_82 ?_
                            refine lv_lmul hx hb dX11_drawn_85 ?_
                            refine lv_ldc2 hx hb hown (hts (.constantLong RX11 257 (12345)) (by decide +kernel)) dX11_drawn_86 ?_
                            refine lv_ladd hx hb dX11_drawn_89 ?_
                            refine lv_ldc2 hx hb hown (hts (.constantLong RX11 259 (2147483648)) (by decide +kernel)) dX11_drawn_90 ?_
                            refine lv_lrem hx hb dX11_drawn_93 (by decide) ?_
                            refine tz_l (lN (dX sn (ii + 1))) (by rw [ex]; exact tz_dx (hdx ii)) ?_
                            refine lv_lstore (lv' := [(6, .long (lN (dX sn (ii + 1)))), (11, .int kk), (10, .int gr), (9, .int le), (8, .int rr), (0, .ref o), (1, .int 0), (2, .int nb), (3, .int (nI nn)), (4, .int (nI sn)), (5, .int ne)]) hx hb dX11_drawn_94 hl (by decide) rfl (fun ls hl => ?_)
                            refine lv_iload_n hx hb dX11_drawn_96 rfl (lv_at hl 7 rfl) ?_
                            refine lv_aload_n hx hb dX11_drawn_97 rfl (lv_at hl 5 rfl) ?_
                            refine va_get (D := (dC, dI)) (ci := 11) (v := .ref aw) (C := RX11) (T := TX11) (N := 12) hx hb hts iw_x_drawnF_X11 hown hK hP 0 rfl rfl 0 (by decide) (hts (.fieldLink RX11 25 "ThriceCounted" "ways" "[LThriceCounted$Ones;") (by decide +kernel)) (fun _ h9 => h9) rfl dX11_drawn_98 ?_
                            refine lv_iload_n hx hb dX11_drawn_101 rfl (lv_at hl 6 rfl) ?_
                            refine va_aldq hx hb hK hP 1 0 rfl rfl (show ¬ ((0 : Int32) < 0 ∨ 6 ≤ (0 : Int32).toNatClampNeg) by decide) dX11_drawn_102 ?_
                            refine tz_v (.ref w0) rfl ?_
                            refine lv_lload hx hb dX11_drawn_103 (lv_at hl 0 rfl) ?_
                            refine lv_ldc2 hx hb hown (hts (.constantLong RX11 261 (65536)) (by decide +kernel)) dX11_drawn_105 ?_
                            refine lv_ldiv hx hb dX11_drawn_108 (by decide) ?_
                            refine lv_ldc2 hx hb hown (hts (.constantLong RX11 263 (20)) (by decide +kernel)) dX11_drawn_109 ?_
                            refine lv_lrem hx hb dX11_drawn_112 (by decide) ?_
                            refine lv_l2i (v := (((lN (dX sn (ii + 1))) / 65536) - ((lN (dX sn (ii + 1))) / 65536) / 20 * 20).toInt32) hx hb dX11_drawn_113 rfl ?_
                            refine tz_i (nI (dX sn (ii + 1) / 65536 % 20)) (tz_di (hdx (ii + 1))) ?_
                            refine vp_callSi (va_Run.run (va_runV (As := [.int (nI (dX sn (ii + 1) / 65536 % 20))]) (rest := [.int nb]) ⟨hx, hb, hml, hown, hts⟩ (k_slip_X4 l dC dI w0 (nI (dX sn (ii + 1) / 65536 % 20))) (cwV 1 hts gX11_drawn_X4_slip rfl rfl rfl (by decide +kernel) ⟨Nat.le_of_ble_eq_true rfl, Nat.le_of_ble_eq_true rfl⟩) ⟨fun a U g mk q => ⟨q.1, trivial⟩, va_recv hK hP (ci := 4) (q0 := 2) rfl rfl, fun U hU hW => ⟨rfl, trivial⟩⟩ rfl rfl hl.1 rfl (lv_room (Nat.le_of_ble_eq_true rfl)) dX11_drawn_114 ⟨Nat.le_of_ble_eq_true rfl, Nat.le_of_ble_eq_true rfl⟩)) (fun r_27 hw_28 => ?_)
                            obtain rfl : (zO (nI (dX sn (ii + 1) / 65536 % 20))) = r_27 := hw_28.symm
                            refine lv_iadd hx hb dX11_drawn_117 ?_
                            refine tz_i (dT zO nb sn ii) rfl ?_
                            refine lv_istore (lv' := [(12, .int (dT zO nb sn ii)), (6, .long (lN (dX sn (ii + 1)))), (11, .int kk), (10, .int gr), (9, .int le), (8, .int rr), (0, .ref o), (1, .int 0), (2, .int nb), (3, .int (nI nn)), (4, .int (nI sn)), (5, .int ne)]) hx hb dX11_drawn_118 hl (by decide) rfl (fun ls hl => ?_)
                            refine lv_iload hx hb dX11_drawn_120 (lv_at hl 5 rfl) ?_
                            refine lv_iload hx hb dX11_drawn_122 (lv_at hl 0 rfl) ?_
                            refine lv_iload_n hx hb dX11_drawn_124 rfl (lv_at hl 8 rfl) ?_
                            refine lv_icmp_ne (tgt := 132) hx hb dX11_drawn_125 (by decide) (fun c_29 => ?_) (fun c_29 => ?_)
                            · refine lv_iconst (v := 0) hx hb dX11_drawn_132 (by decide) ?_
                              refine lv_iadd hx hb dX11_drawn_133 ?_
                              refine lv_istore (lv' := [(8, .int (rr + 0)), (12, .int (dT zO nb sn ii)), (6, .long (lN (dX sn (ii + 1)))), (11, .int kk), (10, .int gr), (9, .int le), (0, .ref o), (1, .int 0), (2, .int nb), (3, .int (nI nn)), (4, .int (nI sn)), (5, .int ne)]) hx hb dX11_drawn_134 hl (by decide) rfl (fun ls hl => ?_)
                              refine lv_iload hx hb dX11_drawn_136 (lv_at hl 3 rfl) ?_
                              refine lv_if_ne (tgt := 146) hx hb dX11_drawn_138 (by decide) (fun c_30 => ?_) (fun c_30 => ?_)
                              · refine lv_iload hx hb dX11_drawn_146 (lv_at hl 5 rfl) ?_
                                refine lv_iload hx hb dX11_drawn_148 (lv_at hl 1 rfl) ?_
                                refine va_mmin hx hb (hml.trans hl.1.symm) hown (hts (.methodLink RX11 265 Lib.Math.min.name) (by decide +kernel)) (hts (.static Lib.Math.min.name) (by decide +kernel)) (hts (.initialized "java/lang/Math") (by decide +kernel)) (hts (.code Lib.Math.min.name Lib.Math.min.code 2 (some .int)) (by decide +kernel)) (Nat.le_of_ble_eq_true rfl) (Nat.le_of_ble_eq_true rfl) (Nat.le_of_ble_eq_true rfl) (Nat.le_of_ble_eq_true rfl) dX11_drawn_150 ?_
                                refine lv_istore (lv' := [(9, .int (if (dT zO nb sn ii) < le then (dT zO nb sn ii) else le)), (8, .int (rr + 0)), (12, .int (dT zO nb sn ii)), (6, .long (lN (dX sn (ii + 1)))), (11, .int kk), (10, .int gr), (0, .ref o), (1, .int 0), (2, .int nb), (3, .int (nI nn)), (4, .int (nI sn)), (5, .int ne)]) hx hb dX11_drawn_153 hl (by decide) rfl (fun ls hl => ?_)
                                refine lv_iload hx hb dX11_drawn_155 (lv_at hl 4 rfl) ?_
                                refine lv_if_ne (tgt := 165) hx hb dX11_drawn_157 (by decide) (fun c_31 => ?_) (fun c_31 => ?_)
                                · refine lv_iload hx hb dX11_drawn_165 (lv_at hl 5 rfl) ?_
                                  refine lv_iload hx hb dX11_drawn_167 (lv_at hl 2 rfl) ?_
                                  refine va_mmax hx hb (hml.trans hl.1.symm) hown (hts (.methodLink RX11 268 Lib.Math.max.name) (by decide +kernel)) (hts (.static Lib.Math.max.name) (by decide +kernel)) (hts (.initialized "java/lang/Math") (by decide +kernel)) (hts (.code Lib.Math.max.name Lib.Math.max.code 2 (some .int)) (by decide +kernel)) (Nat.le_of_ble_eq_true rfl) (Nat.le_of_ble_eq_true rfl) (Nat.le_of_ble_eq_true rfl) (Nat.le_of_ble_eq_true rfl) dX11_drawn_169 ?_
                                  refine lv_istore (lv' := [(10, .int (if gr < (dT zO nb sn ii) then (dT zO nb sn ii) else gr)), (9, .int (if (dT zO nb sn ii) < le then (dT zO nb sn ii) else le)), (8, .int (rr + 0)), (12, .int (dT zO nb sn ii)), (6, .long (lN (dX sn (ii + 1)))), (11, .int kk), (0, .ref o), (1, .int 0), (2, .int nb), (3, .int (nI nn)), (4, .int (nI sn)), (5, .int ne)]) hx hb dX11_drawn_172 hl (by decide) rfl (fun ls hl => ?_)
                                  refine lv_iinc (v := (kk + 1)) (lv' := [(11, .int (kk + 1)), (10, .int (if gr < (dT zO nb sn ii) then (dT zO nb sn ii) else gr)), (9, .int (if (dT zO nb sn ii) < le then (dT zO nb sn ii) else le)), (8, .int (rr + 0)), (12, .int (dT zO nb sn ii)), (6, .long (lN (dX sn (ii + 1)))), (0, .ref o), (1, .int 0), (2, .int nb), (3, .int (nI nn)), (4, .int (nI sn)), (5, .int ne)]) hx hb dX11_drawn_174 hl (k := 5) rfl rfl (by decide) rfl (fun ls hl => ?_)
                                  refine lv_goto (tgt := 74) hx hb dX11_drawn_177 (by decide) ?_
                                  exact ih ((lN (dX sn (ii + 1))), (rr + 0), (if (dT zO nb sn ii) < le then (dT zO nb sn ii) else le), (if gr < (dT zO nb sn ii) then (dT zO nb sn ii) else gr), kk + 1, ls) ⟨rfl, by rw [dR, if_neg c_29, ← er, Int32.add_zero], by rw [dL, if_neg (show ¬ ii = 0 from fun z => c_30 (by rw [ek, z]; rfl)), ← el], by rw [dG, if_neg (show ¬ ii = 0 from fun z => c_30 (by rw [ek, z]; rfl)), ← eg], by rw [ek]; exact nI_1 ii, lv_sub hl [0, 1, 2, 3, 5, 6, 7, 8, 9, 10, 11] rfl⟩
                                · exact absurd c_31 c_30
                              · refine lv_iload hx hb dX11_drawn_141 (lv_at hl 1 rfl) ?_
                                refine lv_goto (tgt := 153) hx hb dX11_drawn_143 (by decide) ?_
                                refine lv_istore (lv' := [(9, .int (dT zO nb sn ii)), (8, .int (rr + 0)), (12, .int (dT zO nb sn ii)), (6, .long (lN (dX sn (ii + 1)))), (11, .int kk), (10, .int gr), (0, .ref o), (1, .int 0), (2, .int nb), (3, .int (nI nn)), (4, .int (nI sn)), (5, .int ne)]) hx hb dX11_drawn_153 hl (by decide) rfl (fun ls hl => ?_)
                                refine lv_iload hx hb dX11_drawn_155 (lv_at hl 4 rfl) ?_
                                refine lv_if_ne (tgt := 165) hx hb dX11_drawn_157 (by decide) (fun c_32 => ?_) (fun c_32 => ?_)
                                · exact absurd c_30 c_32
                                · refine lv_iload hx hb dX11_drawn_160 (lv_at hl 2 rfl) ?_
                                  refine lv_goto (tgt := 172) hx hb dX11_drawn_162 (by decide) ?_
                                  refine lv_istore (lv' := [(10, .int (dT zO nb sn ii)), (9, .int (dT zO nb sn ii)), (8, .int (rr + 0)), (12, .int (dT zO nb sn ii)), (6, .long (lN (dX sn (ii + 1)))), (11, .int kk), (0, .ref o), (1, .int 0), (2, .int nb), (3, .int (nI nn)), (4, .int (nI sn)), (5, .int ne)]) hx hb dX11_drawn_172 hl (by decide) rfl (fun ls hl => ?_)
                                  refine lv_iinc (v := (kk + 1)) (lv' := [(11, .int (kk + 1)), (10, .int (dT zO nb sn ii)), (9, .int (dT zO nb sn ii)), (8, .int (rr + 0)), (12, .int (dT zO nb sn ii)), (6, .long (lN (dX sn (ii + 1)))), (0, .ref o), (1, .int 0), (2, .int nb), (3, .int (nI nn)), (4, .int (nI sn)), (5, .int ne)]) hx hb dX11_drawn_174 hl (k := 5) rfl rfl (by decide) rfl (fun ls hl => ?_)
                                  refine lv_goto (tgt := 74) hx hb dX11_drawn_177 (by decide) ?_
                                  exact ih ((lN (dX sn (ii + 1))), (rr + 0), (dT zO nb sn ii), (dT zO nb sn ii), kk + 1, ls) ⟨rfl, by rw [dR, if_neg c_29, ← er, Int32.add_zero], by rw [dL, if_pos (show ii = 0 from tz_n0 (by omega) (ek ▸ c_30))], by rw [dG, if_pos (show ii = 0 from tz_n0 (by omega) (ek ▸ c_30))], by rw [ek]; exact nI_1 ii, lv_sub hl [0, 1, 2, 3, 5, 6, 7, 8, 9, 10, 11] rfl⟩
                            · refine lv_iconst (v := 1) hx hb dX11_drawn_128 (by decide) ?_
                              refine lv_goto (tgt := 133) hx hb dX11_drawn_129 (by decide) ?_
                              refine lv_iadd hx hb dX11_drawn_133 ?_
                              refine lv_istore (lv' := [(8, .int (rr + 1)), (12, .int (dT zO nb sn ii)), (6, .long (lN (dX sn (ii + 1)))), (11, .int kk), (10, .int gr), (9, .int le), (0, .ref o), (1, .int 0), (2, .int nb), (3, .int (nI nn)), (4, .int (nI sn)), (5, .int ne)]) hx hb dX11_drawn_134 hl (by decide) rfl (fun ls hl => ?_)
                              refine lv_iload hx hb dX11_drawn_136 (lv_at hl 3 rfl) ?_
                              refine lv_if_ne (tgt := 146) hx hb dX11_drawn_138 (by decide) (fun c_33 => ?_) (fun c_33 => ?_)
                              · refine lv_iload hx hb dX11_drawn_146 (lv_at hl 5 rfl) ?_
                                refine lv_iload hx hb dX11_drawn_148 (lv_at hl 1 rfl) ?_
                                refine va_mmin hx hb (hml.trans hl.1.symm) hown (hts (.methodLink RX11 265 Lib.Math.min.name) (by decide +kernel)) (hts (.static Lib.Math.min.name) (by decide +kernel)) (hts (.initialized "java/lang/Math") (by decide +kernel)) (hts (.code Lib.Math.min.name Lib.Math.min.code 2 (some .int)) (by decide +kernel)) (Nat.le_of_ble_eq_true rfl) (Nat.le_of_ble_eq_true rfl) (Nat.le_of_ble_eq_true rfl) (Nat.le_of_ble_eq_true rfl) dX11_drawn_150 ?_
                                refine lv_istore (lv' := [(9, .int (if (dT zO nb sn ii) < le then (dT zO nb sn ii) else le)), (8, .int (rr + 1)), (12, .int (dT zO nb sn ii)), (6, .long (lN (dX sn (ii + 1)))), (11, .int kk), (10, .int gr), (0, .ref o), (1, .int 0), (2, .int nb), (3, .int (nI nn)), (4, .int (nI sn)), (5, .int ne)]) hx hb dX11_drawn_153 hl (by decide) rfl (fun ls hl => ?_)
                                refine lv_iload hx hb dX11_drawn_155 (lv_at hl 4 rfl) ?_
                                refine lv_if_ne (tgt := 165) hx hb dX11_drawn_157 (by decide) (fun c_34 => ?_) (fun c_34 => ?_)
                                · refine lv_iload hx hb dX11_drawn_165 (lv_at hl 5 rfl) ?_
                                  refine lv_iload hx hb dX11_drawn_167 (lv_at hl 2 rfl) ?_
                                  refine va_mmax hx hb (hml.trans hl.1.symm) hown (hts (.methodLink RX11 268 Lib.Math.max.name) (by decide +kernel)) (hts (.static Lib.Math.max.name) (by decide +kernel)) (hts (.initialized "java/lang/Math") (by decide +kernel)) (hts (.code Lib.Math.max.name Lib.Math.max.code 2 (some .int)) (by decide +kernel)) (Nat.le_of_ble_eq_true rfl) (Nat.le_of_ble_eq_true rfl) (Nat.le_of_ble_eq_true rfl) (Nat.le_of_ble_eq_true rfl) dX11_drawn_169 ?_
                                  refine lv_istore (lv' := [(10, .int (if gr < (dT zO nb sn ii) then (dT zO nb sn ii) else gr)), (9, .int (if (dT zO nb sn ii) < le then (dT zO nb sn ii) else le)), (8, .int (rr + 1)), (12, .int (dT zO nb sn ii)), (6, .long (lN (dX sn (ii + 1)))), (11, .int kk), (0, .ref o), (1, .int 0), (2, .int nb), (3, .int (nI nn)), (4, .int (nI sn)), (5, .int ne)]) hx hb dX11_drawn_172 hl (by decide) rfl (fun ls hl => ?_)
                                  refine lv_iinc (v := (kk + 1)) (lv' := [(11, .int (kk + 1)), (10, .int (if gr < (dT zO nb sn ii) then (dT zO nb sn ii) else gr)), (9, .int (if (dT zO nb sn ii) < le then (dT zO nb sn ii) else le)), (8, .int (rr + 1)), (12, .int (dT zO nb sn ii)), (6, .long (lN (dX sn (ii + 1)))), (0, .ref o), (1, .int 0), (2, .int nb), (3, .int (nI nn)), (4, .int (nI sn)), (5, .int ne)]) hx hb dX11_drawn_174 hl (k := 5) rfl rfl (by decide) rfl (fun ls hl => ?_)
                                  refine lv_goto (tgt := 74) hx hb dX11_drawn_177 (by decide) ?_
                                  exact ih ((lN (dX sn (ii + 1))), (rr + 1), (if (dT zO nb sn ii) < le then (dT zO nb sn ii) else le), (if gr < (dT zO nb sn ii) then (dT zO nb sn ii) else gr), kk + 1, ls) ⟨rfl, by rw [dR, if_pos c_29, ← er], by rw [dL, if_neg (show ¬ ii = 0 from fun z => c_33 (by rw [ek, z]; rfl)), ← el], by rw [dG, if_neg (show ¬ ii = 0 from fun z => c_33 (by rw [ek, z]; rfl)), ← eg], by rw [ek]; exact nI_1 ii, lv_sub hl [0, 1, 2, 3, 5, 6, 7, 8, 9, 10, 11] rfl⟩
                                · exact absurd c_34 c_33
                              · refine lv_iload hx hb dX11_drawn_141 (lv_at hl 1 rfl) ?_
                                refine lv_goto (tgt := 153) hx hb dX11_drawn_143 (by decide) ?_
                                refine lv_istore (lv' := [(9, .int (dT zO nb sn ii)), (8, .int (rr + 1)), (12, .int (dT zO nb sn ii)), (6, .long (lN (dX sn (ii + 1)))), (11, .int kk), (10, .int gr), (0, .ref o), (1, .int 0), (2, .int nb), (3, .int (nI nn)), (4, .int (nI sn)), (5, .int ne)]) hx hb dX11_drawn_153 hl (by decide) rfl (fun ls hl => ?_)
                                refine lv_iload hx hb dX11_drawn_155 (lv_at hl 4 rfl) ?_
                                refine lv_if_ne (tgt := 165) hx hb dX11_drawn_157 (by decide) (fun c_35 => ?_) (fun c_35 => ?_)
                                · exact absurd c_33 c_35
                                · refine lv_iload hx hb dX11_drawn_160 (lv_at hl 2 rfl) ?_
                                  refine lv_goto (tgt := 172) hx hb dX11_drawn_162 (by decide) ?_
                                  refine lv_istore (lv' := [(10, .int (dT zO nb sn ii)), (9, .int (dT zO nb sn ii)), (8, .int (rr + 1)), (12, .int (dT zO nb sn ii)), (6, .long (lN (dX sn (ii + 1)))), (11, .int kk), (0, .ref o), (1, .int 0), (2, .int nb), (3, .int (nI nn)), (4, .int (nI sn)), (5, .int ne)]) hx hb dX11_drawn_172 hl (by decide) rfl (fun ls hl => ?_)
                                  refine lv_iinc (v := (kk + 1)) (lv' := [(11, .int (kk + 1)), (10, .int (dT zO nb sn ii)), (9, .int (dT zO nb sn ii)), (8, .int (rr + 1)), (12, .int (dT zO nb sn ii)), (6, .long (lN (dX sn (ii + 1)))), (0, .ref o), (1, .int 0), (2, .int nb), (3, .int (nI nn)), (4, .int (nI sn)), (5, .int ne)]) hx hb dX11_drawn_174 hl (k := 5) rfl rfl (by decide) rfl (fun ls hl => ?_)
                                  refine lv_goto (tgt := 74) hx hb dX11_drawn_177 (by decide) ?_
                                  exact ih ((lN (dX sn (ii + 1))), (rr + 1), (dT zO nb sn ii), (dT zO nb sn ii), kk + 1, ls) ⟨rfl, by rw [dR, if_pos c_29, ← er], by rw [dL, if_pos (show ii = 0 from tz_n0 (by omega) (ek ▸ c_33))], by rw [dG, if_pos (show ii = 0 from tz_n0 (by omega) (ek ▸ c_33))], by rw [ek]; exact nI_1 ii, lv_sub hl [0, 1, 2, 3, 5, 6, 7, 8, 9, 10, 11] rfl⟩
                      · refine lv_iload hx hb dX11_drawn_57 (lv_at hl 4 rfl) ?_
                        refine lv_i2l (v := (nI sn).toInt64) hx hb dX11_drawn_59 rfl ?_
                        refine tz_l (lN sn) (nI_l (by omega)) ?_
                        refine lv_lstore (lv' := [(6, .long (lN sn)), (0, .ref o), (1, .int 1), (2, .int nb), (3, .int (nI nn)), (4, .int (nI sn)), (5, .int ne)]) hx hb dX11_drawn_60 hl (by decide) rfl (fun ls hl => ?_)
                        refine lv_iconst (v := 0) hx hb dX11_drawn_62 (by decide) ?_
                        refine lv_istore (lv' := [(8, .int 0), (6, .long (lN sn)), (0, .ref o), (1, .int 1), (2, .int nb), (3, .int (nI nn)), (4, .int (nI sn)), (5, .int ne)]) hx hb dX11_drawn_63 hl (by decide) rfl (fun ls hl => ?_)
                        refine lv_iconst (v := (-1)) hx hb dX11_drawn_65 (by decide) ?_
                        refine lv_istore (lv' := [(9, .int (-1)), (8, .int 0), (6, .long (lN sn)), (0, .ref o), (1, .int 1), (2, .int nb), (3, .int (nI nn)), (4, .int (nI sn)), (5, .int ne)]) hx hb dX11_drawn_66 hl (by decide) rfl (fun ls hl => ?_)
                        refine lv_iconst (v := (-1)) hx hb dX11_drawn_68 (by decide) ?_
                        refine lv_istore (lv' := [(10, .int (-1)), (9, .int (-1)), (8, .int 0), (6, .long (lN sn)), (0, .ref o), (1, .int 1), (2, .int nb), (3, .int (nI nn)), (4, .int (nI sn)), (5, .int ne)]) hx hb dX11_drawn_69 hl (by decide) rfl (fun ls hl => ?_)
                        refine lv_iconst (v := 0) hx hb dX11_drawn_71 (by decide) ?_
                        refine lv_istore (lv' := [(11, .int 0), (10, .int (-1)), (9, .int (-1)), (8, .int 0), (6, .long (lN sn)), (0, .ref o), (1, .int 1), (2, .int nb), (3, .int (nI nn)), (4, .int (nI sn)), (5, .int ne)]) hx hb dX11_drawn_72 hl (by decide) rfl (fun ls hl => ?_)
                        refine tz_for (σ := Int64 × Int32 × Int32 × Int32 × Int32 × Array Slot) (fun x => W p l e _ s m _ below meth c _ _ _ _ _ (F0 m 74 x.2.2.2.2.2 [])) (fun i x => x.1 = lN (dX sn i) ∧ x.2.1 = dR nb (dT zF nb sn) i ∧ x.2.2.1 = dL (dT zF nb sn) i ∧ x.2.2.2.1 = dG (dT zF nb sn) i ∧ x.2.2.2.2.1 = nI i ∧ lv_has x.2.2.2.2.2 13 [(11, .int x.2.2.2.2.1), (10, .int x.2.2.2.1), (9, .int x.2.2.1), (8, .int x.2.1), (6, .long x.1), (0, .ref o), (1, .int 1), (2, .int nb), (3, .int (nI nn)), (4, .int (nI sn)), (5, .int ne)]) nn ?_ ?_ (lN sn, 0, -1, -1, 0, ls) ⟨rfl, rfl, rfl, rfl, rfl, lv_sub hl [0, 1, 2, 3, 4, 5, 6, 7, 8, 9, 10] rfl⟩
                        · rintro ⟨xx, rr, le, gr, kk, ls⟩ ⟨ex, er, el, eg, ek, hl⟩
                          dsimp only at ex er el eg ek hl ⊢
                          refine lv_iload hx hb dX11_drawn_74 (lv_at hl 0 rfl) ?_
                          refine lv_iload_n hx hb dX11_drawn_76 rfl (lv_at hl 8 rfl) ?_
                          refine lv_icmp_ge (tgt := 180) hx hb dX11_drawn_77 (by decide) (fun c_36 => ?_) (fun c_36 => ?_)
                          · refine lv_iload hx hb dX11_drawn_180 (lv_at hl 10 rfl) ?_
                            refine lv_if_ne (tgt := 188) hx hb dX11_drawn_182 (by decide) (fun c_37 => ?_) (fun c_37 => ?_)
                            · refine lv_iload hx hb dX11_drawn_188 (lv_at hl 10 rfl) ?_
                              refine lv_iconst (v := 1) hx hb dX11_drawn_190 (by decide) ?_
                              refine lv_icmp_ne (tgt := 199) hx hb dX11_drawn_191 (by decide) (fun c_38 => ?_) (fun c_38 => ?_)
                              · refine lv_iload hx hb dX11_drawn_199 (lv_at hl 1 rfl) ?_
                                have hP9 := hP.sub (ws' := [(o, .inr (11, [.ref aw, .ref (ab 0), .ref ai, .ref ak, .ref sc, .ref rd, .ref fo, .ref tx, .int ty, .ref ar, .ref at_, .ref ao])), (aw, .inl (cw, 6, .inr (.inr (.inr (.inr (tz_w w0 w1 w2 w3 w4 w5)))))), (w0, .inr (4, [])), (w1, .inr (1, [])), (w2, .inr (10, [])), (w3, .inr (3, [])), (w4, .inr (9, [])), (w5, .inr (8, [])), (ar, .inl (cr, 3, .inl fr))]) [0, 1, 2, 3, 4, 5, 6, 7, 8] rfl
                                have hD9 := hD.sub (ws' := [(o, .inr (11, [.ref aw, .ref (ab 0), .ref ai, .ref ak, .ref sc, .ref rd, .ref fo, .ref tx, .int ty, .ref ar, .ref at_, .ref ao])), (aw, .inl (cw, 6, .inr (.inr (.inr (.inr (tz_w w0 w1 w2 w3 w4 w5)))))), (w0, .inr (4, [])), (w1, .inr (1, [])), (w2, .inr (10, [])), (w3, .inr (3, [])), (w4, .inr (9, [])), (w5, .inr (8, [])), (ar, .inl (cr, 3, .inl fr))]) [0, 1, 2, 3, 4, 5, 6, 7, 8] (by decide) rfl
                                have hK9 := hK.sub (tys' := [(cw, (.object "ThriceCounted$Ones")), (cr, .int)]) [0, 1] rfl
                                exact W.iret (v := gr) hx hb hr (fun t ht hW => ⟨⟨gr, (), rfl, (by unfold dS; rw [en, es]; exact eg.trans ((if_pos hc_5).trans ((if_pos hc_9).trans ((if_pos hc_13).trans ((if_pos hc_17).trans ((if_pos hc_21).trans ((if_neg c_37).trans (if_neg c_38))))))).symm), fr, by rw [ht]; exact hP9, va_K.moved hW.alike hK9, hD9⟩, hS.F ht⟩) hS.2.2 dX11_drawn_201
                              · refine lv_iload hx hb dX11_drawn_194 (lv_at hl 2 rfl) ?_
                                refine lv_goto (tgt := 201) hx hb dX11_drawn_196 (by decide) ?_
                                have hP9 := hP.sub (ws' := [(o, .inr (11, [.ref aw, .ref (ab 0), .ref ai, .ref ak, .ref sc, .ref rd, .ref fo, .ref tx, .int ty, .ref ar, .ref at_, .ref ao])), (aw, .inl (cw, 6, .inr (.inr (.inr (.inr (tz_w w0 w1 w2 w3 w4 w5)))))), (w0, .inr (4, [])), (w1, .inr (1, [])), (w2, .inr (10, [])), (w3, .inr (3, [])), (w4, .inr (9, [])), (w5, .inr (8, [])), (ar, .inl (cr, 3, .inl fr))]) [0, 1, 2, 3, 4, 5, 6, 7, 8] rfl
                                have hD9 := hD.sub (ws' := [(o, .inr (11, [.ref aw, .ref (ab 0), .ref ai, .ref ak, .ref sc, .ref rd, .ref fo, .ref tx, .int ty, .ref ar, .ref at_, .ref ao])), (aw, .inl (cw, 6, .inr (.inr (.inr (.inr (tz_w w0 w1 w2 w3 w4 w5)))))), (w0, .inr (4, [])), (w1, .inr (1, [])), (w2, .inr (10, [])), (w3, .inr (3, [])), (w4, .inr (9, [])), (w5, .inr (8, [])), (ar, .inl (cr, 3, .inl fr))]) [0, 1, 2, 3, 4, 5, 6, 7, 8] (by decide) rfl
                                have hK9 := hK.sub (tys' := [(cw, (.object "ThriceCounted$Ones")), (cr, .int)]) [0, 1] rfl
                                exact W.iret (v := le) hx hb hr (fun t ht hW => ⟨⟨le, (), rfl, (by unfold dS; rw [en, es]; exact el.trans ((if_pos hc_5).trans ((if_pos hc_9).trans ((if_pos hc_13).trans ((if_pos hc_17).trans ((if_pos hc_21).trans ((if_neg c_37).trans (if_pos c_38))))))).symm), fr, by rw [ht]; exact hP9, va_K.moved hW.alike hK9, hD9⟩, hS.F ht⟩) hS.2.2 dX11_drawn_201
                            · refine lv_iload hx hb dX11_drawn_185 (lv_at hl 3 rfl) ?_
                              have hP9 := hP.sub (ws' := [(o, .inr (11, [.ref aw, .ref (ab 0), .ref ai, .ref ak, .ref sc, .ref rd, .ref fo, .ref tx, .int ty, .ref ar, .ref at_, .ref ao])), (aw, .inl (cw, 6, .inr (.inr (.inr (.inr (tz_w w0 w1 w2 w3 w4 w5)))))), (w0, .inr (4, [])), (w1, .inr (1, [])), (w2, .inr (10, [])), (w3, .inr (3, [])), (w4, .inr (9, [])), (w5, .inr (8, [])), (ar, .inl (cr, 3, .inl fr))]) [0, 1, 2, 3, 4, 5, 6, 7, 8] rfl
                              have hD9 := hD.sub (ws' := [(o, .inr (11, [.ref aw, .ref (ab 0), .ref ai, .ref ak, .ref sc, .ref rd, .ref fo, .ref tx, .int ty, .ref ar, .ref at_, .ref ao])), (aw, .inl (cw, 6, .inr (.inr (.inr (.inr (tz_w w0 w1 w2 w3 w4 w5)))))), (w0, .inr (4, [])), (w1, .inr (1, [])), (w2, .inr (10, [])), (w3, .inr (3, [])), (w4, .inr (9, [])), (w5, .inr (8, [])), (ar, .inl (cr, 3, .inl fr))]) [0, 1, 2, 3, 4, 5, 6, 7, 8] (by decide) rfl
                              have hK9 := hK.sub (tys' := [(cw, (.object "ThriceCounted$Ones")), (cr, .int)]) [0, 1] rfl
                              exact W.iret (v := rr) hx hb hr (fun t ht hW => ⟨⟨rr, (), rfl, (by unfold dS; rw [en, es]; exact er.trans ((if_pos hc_5).trans ((if_pos hc_9).trans ((if_pos hc_13).trans ((if_pos hc_17).trans ((if_pos hc_21).trans (if_pos c_37)))))).symm), fr, by rw [ht]; exact hP9, va_K.moved hW.alike hK9, hD9⟩, hS.F ht⟩) hS.2.2 dX11_drawn_187
                          · exact absurd (by rw [ek]; exact nI_le (Nat.le_refl nn) (by omega)) c_36
                        · rintro ii ⟨xx, rr, le, gr, kk, ls⟩ hi ⟨ex, er, el, eg, ek, hl⟩ ih
                          dsimp only at ex er el eg ek hl ⊢
                          refine lv_iload hx hb dX11_drawn_74 (lv_at hl 0 rfl) ?_
                          refine lv_iload_n hx hb dX11_drawn_76 rfl (lv_at hl 8 rfl) ?_
                          refine lv_icmp_ge (tgt := 180) hx hb dX11_drawn_77 (by decide) (fun c_39 => ?_) (fun c_39 => ?_)
                          · exact absurd c_39 (by rw [ek]; exact nI_ge hi (by omega))
                          · refine lv_lload hx hb dX11_drawn_80 (lv_at hl 4 rfl) ?_
                            refine lv_ldc2 hx hb hown (hts (.constantLong RX11 255 (1103515245)) (by decide +kernel)) dX11_drawn_82 ?_
                            refine lv_lmul hx hb dX11_drawn_85 ?_
                            refine lv_ldc2 hx hb hown (hts (.constantLong RX11 257 (12345)) (by decide +kernel)) dX11_drawn_86 ?_
                            refine lv_ladd hx hb dX11_drawn_89 ?_
                            refine lv_ldc2 hx hb hown (hts (.constantLong RX11 259 (2147483648)) (by decide +kernel)) dX11_drawn_90 ?_
                            refine lv_lrem hx hb dX11_drawn_93 (by decide) ?_
                            refine tz_l (lN (dX sn (ii + 1))) (by rw [ex]; exact tz_dx (hdx ii)) ?_
                            refine lv_lstore (lv' := [(6, .long (lN (dX sn (ii + 1)))), (11, .int kk), (10, .int gr), (9, .int le), (8, .int rr), (0, .ref o), (1, .int 1), (2, .int nb), (3, .int (nI nn)), (4, .int (nI sn)), (5, .int ne)]) hx hb dX11_drawn_94 hl (by decide) rfl (fun ls hl => ?_)
                            refine lv_iload_n hx hb dX11_drawn_96 rfl (lv_at hl 7 rfl) ?_
                            refine lv_aload_n hx hb dX11_drawn_97 rfl (lv_at hl 5 rfl) ?_
                            refine va_get (D := (dC, dI)) (ci := 11) (v := .ref aw) (C := RX11) (T := TX11) (N := 12) hx hb hts iw_x_drawnF_X11 hown hK hP 0 rfl rfl 0 (by decide) (hts (.fieldLink RX11 25 "ThriceCounted" "ways" "[LThriceCounted$Ones;") (by decide +kernel)) (fun _ h9 => h9) rfl dX11_drawn_98 ?_
                            refine lv_iload_n hx hb dX11_drawn_101 rfl (lv_at hl 6 rfl) ?_
                            refine va_aldq hx hb hK hP 1 0 rfl rfl (show ¬ ((1 : Int32) < 0 ∨ 6 ≤ (1 : Int32).toNatClampNeg) by decide) dX11_drawn_102 ?_
                            refine tz_v (.ref w1) rfl ?_
                            refine lv_lload hx hb dX11_drawn_103 (lv_at hl 0 rfl) ?_
                            refine lv_ldc2 hx hb hown (hts (.constantLong RX11 261 (65536)) (by decide +kernel)) dX11_drawn_105 ?_
                            refine lv_ldiv hx hb dX11_drawn_108 (by decide) ?_
                            refine lv_ldc2 hx hb hown (hts (.constantLong RX11 263 (20)) (by decide +kernel)) dX11_drawn_109 ?_
                            refine lv_lrem hx hb dX11_drawn_112 (by decide) ?_
                            refine lv_l2i (v := (((lN (dX sn (ii + 1))) / 65536) - ((lN (dX sn (ii + 1))) / 65536) / 20 * 20).toInt32) hx hb dX11_drawn_113 rfl ?_
                            refine tz_i (nI (dX sn (ii + 1) / 65536 % 20)) (tz_di (hdx (ii + 1))) ?_
                            have hPc_40 := hP.sub (ws' := [(w1, .inr (1, []))]) [3] rfl
                            have hKc_41 := hK.sub (tys' := []) [] rfl
                            refine vp_callSi (va_Run.run (va_runU (C := RX1) (As := [.int (nI (dX sn (ii + 1) / 65536 % 20))]) (rest := [.int nb]) ⟨hx, hb, hml, hown, hts⟩ (k_slip_X1 l dC dI w1 (nI (dX sn (ii + 1) / 65536 % 20))) (va_cwO 1 hts gX11_drawn_X1_slip_u175X1 rfl rfl rfl (b0 := cX4_slip) (m0 := 2) (r0 := (some .int)) (by decide +kernel) (by decide +kernel) ⟨Nat.le_of_ble_eq_true rfl, Nat.le_of_ble_eq_true rfl⟩) ⟨fun a U g mk q => by obtain ⟨q0, qP, qK⟩ := q; exact ⟨q0, qP, va_K.moved (u := U) (U := U.calling g mk a) (Vm.Alike.refl U.vm) qK⟩, va_recv hK hP (ci := 1) (q0 := 3) rfl rfl, fun U hU hW => ⟨rfl, by rw [hU]; exact hPc_40, va_K.moved hW.alike hKc_41⟩⟩ rfl rfl hl.1 rfl (lv_room (Nat.le_of_ble_eq_true rfl)) dX11_drawn_114 ⟨Nat.le_of_ble_eq_true rfl, Nat.le_of_ble_eq_true rfl⟩)) (fun r_42 hw_43 => ?_)
                            obtain rfl : (zF (nI (dX sn (ii + 1) / 65536 % 20))) = r_42 := hw_43.symm
                            refine lv_iadd hx hb dX11_drawn_117 ?_
                            refine tz_i (dT zF nb sn ii) rfl ?_
                            refine lv_istore (lv' := [(12, .int (dT zF nb sn ii)), (6, .long (lN (dX sn (ii + 1)))), (11, .int kk), (10, .int gr), (9, .int le), (8, .int rr), (0, .ref o), (1, .int 1), (2, .int nb), (3, .int (nI nn)), (4, .int (nI sn)), (5, .int ne)]) hx hb dX11_drawn_118 hl (by decide) rfl (fun ls hl => ?_)
                            refine lv_iload hx hb dX11_drawn_120 (lv_at hl 5 rfl) ?_
                            refine lv_iload hx hb dX11_drawn_122 (lv_at hl 0 rfl) ?_
                            refine lv_iload_n hx hb dX11_drawn_124 rfl (lv_at hl 8 rfl) ?_
                            refine lv_icmp_ne (tgt := 132) hx hb dX11_drawn_125 (by decide) (fun c_44 => ?_) (fun c_44 => ?_)
                            · refine lv_iconst (v := 0) hx hb dX11_drawn_132 (by decide) ?_
                              refine lv_iadd hx hb dX11_drawn_133 ?_
                              refine lv_istore (lv' := [(8, .int (rr + 0)), (12, .int (dT zF nb sn ii)), (6, .long (lN (dX sn (ii + 1)))), (11, .int kk), (10, .int gr), (9, .int le), (0, .ref o), (1, .int 1), (2, .int nb), (3, .int (nI nn)), (4, .int (nI sn)), (5, .int ne)]) hx hb dX11_drawn_134 hl (by decide) rfl (fun ls hl => ?_)
                              refine lv_iload hx hb dX11_drawn_136 (lv_at hl 3 rfl) ?_
                              refine lv_if_ne (tgt := 146) hx hb dX11_drawn_138 (by decide) (fun c_45 => ?_) (fun c_45 => ?_)
                              · refine lv_iload hx hb dX11_drawn_146 (lv_at hl 5 rfl) ?_
                                refine lv_iload hx hb dX11_drawn_148 (lv_at hl 1 rfl) ?_
                                refine va_mmin hx hb (hml.trans hl.1.symm) hown (hts (.methodLink RX11 265 Lib.Math.min.name) (by decide +kernel)) (hts (.static Lib.Math.min.name) (by decide +kernel)) (hts (.initialized "java/lang/Math") (by decide +kernel)) (hts (.code Lib.Math.min.name Lib.Math.min.code 2 (some .int)) (by decide +kernel)) (Nat.le_of_ble_eq_true rfl) (Nat.le_of_ble_eq_true rfl) (Nat.le_of_ble_eq_true rfl) (Nat.le_of_ble_eq_true rfl) dX11_drawn_150 ?_
                                refine lv_istore (lv' := [(9, .int (if (dT zF nb sn ii) < le then (dT zF nb sn ii) else le)), (8, .int (rr + 0)), (12, .int (dT zF nb sn ii)), (6, .long (lN (dX sn (ii + 1)))), (11, .int kk), (10, .int gr), (0, .ref o), (1, .int 1), (2, .int nb), (3, .int (nI nn)), (4, .int (nI sn)), (5, .int ne)]) hx hb dX11_drawn_153 hl (by decide) rfl (fun ls hl => ?_)
                                refine lv_iload hx hb dX11_drawn_155 (lv_at hl 4 rfl) ?_
                                refine lv_if_ne (tgt := 165) hx hb dX11_drawn_157 (by decide) (fun c_46 => ?_) (fun c_46 => ?_)
                                · refine lv_iload hx hb dX11_drawn_165 (lv_at hl 5 rfl) ?_
                                  refine lv_iload hx hb dX11_drawn_167 (lv_at hl 2 rfl) ?_
                                  refine va_mmax hx hb (hml.trans hl.1.symm) hown (hts (.methodLink RX11 268 Lib.Math.max.name) (by decide +kernel)) (hts (.static Lib.Math.max.name) (by decide +kernel)) (hts (.initialized "java/lang/Math") (by decide +kernel)) (hts (.code Lib.Math.max.name Lib.Math.max.code 2 (some .int)) (by decide +kernel)) (Nat.le_of_ble_eq_true rfl) (Nat.le_of_ble_eq_true rfl) (Nat.le_of_ble_eq_true rfl) (Nat.le_of_ble_eq_true rfl) dX11_drawn_169 ?_
                                  refine lv_istore (lv' := [(10, .int (if gr < (dT zF nb sn ii) then (dT zF nb sn ii) else gr)), (9, .int (if (dT zF nb sn ii) < le then (dT zF nb sn ii) else le)), (8, .int (rr + 0)), (12, .int (dT zF nb sn ii)), (6, .long (lN (dX sn (ii + 1)))), (11, .int kk), (0, .ref o), (1, .int 1), (2, .int nb), (3, .int (nI nn)), (4, .int (nI sn)), (5, .int ne)]) hx hb dX11_drawn_172 hl (by decide) rfl (fun ls hl => ?_)
                                  refine lv_iinc (v := (kk + 1)) (lv' := [(11, .int (kk + 1)), (10, .int (if gr < (dT zF nb sn ii) then (dT zF nb sn ii) else gr)), (9, .int (if (dT zF nb sn ii) < le then (dT zF nb sn ii) else le)), (8, .int (rr + 0)), (12, .int (dT zF nb sn ii)), (6, .long (lN (dX sn (ii + 1)))), (0, .ref o), (1, .int 1), (2, .int nb), (3, .int (nI nn)), (4, .int (nI sn)), (5, .int ne)]) hx hb dX11_drawn_174 hl (k := 5) rfl rfl (by decide) rfl (fun ls hl => ?_)
                                  refine lv_goto (tgt := 74) hx hb dX11_drawn_177 (by decide) ?_
                                  exact ih ((lN (dX sn (ii + 1))), (rr + 0), (if (dT zF nb sn ii) < le then (dT zF nb sn ii) else le), (if gr < (dT zF nb sn ii) then (dT zF nb sn ii) else gr), kk + 1, ls) ⟨rfl, by rw [dR, if_neg c_44, ← er, Int32.add_zero], by rw [dL, if_neg (show ¬ ii = 0 from fun z => c_45 (by rw [ek, z]; rfl)), ← el], by rw [dG, if_neg (show ¬ ii = 0 from fun z => c_45 (by rw [ek, z]; rfl)), ← eg], by rw [ek]; exact nI_1 ii, lv_sub hl [0, 1, 2, 3, 5, 6, 7, 8, 9, 10, 11] rfl⟩
                                · exact absurd c_46 c_45
                              · refine lv_iload hx hb dX11_drawn_141 (lv_at hl 1 rfl) ?_
                                refine lv_goto (tgt := 153) hx hb dX11_drawn_143 (by decide) ?_
                                refine lv_istore (lv' := [(9, .int (dT zF nb sn ii)), (8, .int (rr + 0)), (12, .int (dT zF nb sn ii)), (6, .long (lN (dX sn (ii + 1)))), (11, .int kk), (10, .int gr), (0, .ref o), (1, .int 1), (2, .int nb), (3, .int (nI nn)), (4, .int (nI sn)), (5, .int ne)]) hx hb dX11_drawn_153 hl (by decide) rfl (fun ls hl => ?_)
                                refine lv_iload hx hb dX11_drawn_155 (lv_at hl 4 rfl) ?_
                                refine lv_if_ne (tgt := 165) hx hb dX11_drawn_157 (by decide) (fun c_47 => ?_) (fun c_47 => ?_)
                                · exact absurd c_45 c_47
                                · refine lv_iload hx hb dX11_drawn_160 (lv_at hl 2 rfl) ?_
                                  refine lv_goto (tgt := 172) hx hb dX11_drawn_162 (by decide) ?_
                                  refine lv_istore (lv' := [(10, .int (dT zF nb sn ii)), (9, .int (dT zF nb sn ii)), (8, .int (rr + 0)), (12, .int (dT zF nb sn ii)), (6, .long (lN (dX sn (ii + 1)))), (11, .int kk), (0, .ref o), (1, .int 1), (2, .int nb), (3, .int (nI nn)), (4, .int (nI sn)), (5, .int ne)]) hx hb dX11_drawn_172 hl (by decide) rfl (fun ls hl => ?_)
                                  refine lv_iinc (v := (kk + 1)) (lv' := [(11, .int (kk + 1)), (10, .int (dT zF nb sn ii)), (9, .int (dT zF nb sn ii)), (8, .int (rr + 0)), (12, .int (dT zF nb sn ii)), (6, .long (lN (dX sn (ii + 1)))), (0, .ref o), (1, .int 1), (2, .int nb), (3, .int (nI nn)), (4, .int (nI sn)), (5, .int ne)]) hx hb dX11_drawn_174 hl (k := 5) rfl rfl (by decide) rfl (fun ls hl => ?_)
                                  refine lv_goto (tgt := 74) hx hb dX11_drawn_177 (by decide) ?_
                                  exact ih ((lN (dX sn (ii + 1))), (rr + 0), (dT zF nb sn ii), (dT zF nb sn ii), kk + 1, ls) ⟨rfl, by rw [dR, if_neg c_44, ← er, Int32.add_zero], by rw [dL, if_pos (show ii = 0 from tz_n0 (by omega) (ek ▸ c_45))], by rw [dG, if_pos (show ii = 0 from tz_n0 (by omega) (ek ▸ c_45))], by rw [ek]; exact nI_1 ii, lv_sub hl [0, 1, 2, 3, 5, 6, 7, 8, 9, 10, 11] rfl⟩
                            · refine lv_iconst (v := 1) hx hb dX11_drawn_128 (by decide) ?_
                              refine lv_goto (tgt := 133) hx hb dX11_drawn_129 (by decide) ?_
                              refine lv_iadd hx hb dX11_drawn_133 ?_
                              refine lv_istore (lv' := [(8, .int (rr + 1)), (12, .int (dT zF nb sn ii)), (6, .long (lN (dX sn (ii + 1)))), (11, .int kk), (10, .int gr), (9, .int le), (0, .ref o), (1, .int 1), (2, .int nb), (3, .int (nI nn)), (4, .int (nI sn)), (5, .int ne)]) hx hb dX11_drawn_134 hl (by decide) rfl (fun ls hl => ?_)
                              refine lv_iload hx hb dX11_drawn_136 (lv_at hl 3 rfl) ?_
                              refine lv_if_ne (tgt := 146) hx hb dX11_drawn_138 (by decide) (fun c_48 => ?_) (fun c_48 => ?_)
                              · refine lv_iload hx hb dX11_drawn_146 (lv_at hl 5 rfl) ?_
                                refine lv_iload hx hb dX11_drawn_148 (lv_at hl 1 rfl) ?_
                                refine va_mmin hx hb (hml.trans hl.1.symm) hown (hts (.methodLink RX11 265 Lib.Math.min.name) (by decide +kernel)) (hts (.static Lib.Math.min.name) (by decide +kernel)) (hts (.initialized "java/lang/Math") (by decide +kernel)) (hts (.code Lib.Math.min.name Lib.Math.min.code 2 (some .int)) (by decide +kernel)) (Nat.le_of_ble_eq_true rfl) (Nat.le_of_ble_eq_true rfl) (Nat.le_of_ble_eq_true rfl) (Nat.le_of_ble_eq_true rfl) dX11_drawn_150 ?_
                                refine lv_istore (lv' := [(9, .int (if (dT zF nb sn ii) < le then (dT zF nb sn ii) else le)), (8, .int (rr + 1)), (12, .int (dT zF nb sn ii)), (6, .long (lN (dX sn (ii + 1)))), (11, .int kk), (10, .int gr), (0, .ref o), (1, .int 1), (2, .int nb), (3, .int (nI nn)), (4, .int (nI sn)), (5, .int ne)]) hx hb dX11_drawn_153 hl (by decide) rfl (fun ls hl => ?_)
                                refine lv_iload hx hb dX11_drawn_155 (lv_at hl 4 rfl) ?_
                                refine lv_if_ne (tgt := 165) hx hb dX11_drawn_157 (by decide) (fun c_49 => ?_) (fun c_49 => ?_)
                                · refine lv_iload hx hb dX11_drawn_165 (lv_at hl 5 rfl) ?_
                                  refine lv_iload hx hb dX11_drawn_167 (lv_at hl 2 rfl) ?_
                                  refine va_mmax hx hb (hml.trans hl.1.symm) hown (hts (.methodLink RX11 268 Lib.Math.max.name) (by decide +kernel)) (hts (.static Lib.Math.max.name) (by decide +kernel)) (hts (.initialized "java/lang/Math") (by decide +kernel)) (hts (.code Lib.Math.max.name Lib.Math.max.code 2 (some .int)) (by decide +kernel)) (Nat.le_of_ble_eq_true rfl) (Nat.le_of_ble_eq_true rfl) (Nat.le_of_ble_eq_true rfl) (Nat.le_of_ble_eq_true rfl) dX11_drawn_169 ?_
                                  refine lv_istore (lv' := [(10, .int (if gr < (dT zF nb sn ii) then (dT zF nb sn ii) else gr)), (9, .int (if (dT zF nb sn ii) < le then (dT zF nb sn ii) else le)), (8, .int (rr + 1)), (12, .int (dT zF nb sn ii)), (6, .long (lN (dX sn (ii + 1)))), (11, .int kk), (0, .ref o), (1, .int 1), (2, .int nb), (3, .int (nI nn)), (4, .int (nI sn)), (5, .int ne)]) hx hb dX11_drawn_172 hl (by decide) rfl (fun ls hl => ?_)
                                  refine lv_iinc (v := (kk + 1)) (lv' := [(11, .int (kk + 1)), (10, .int (if gr < (dT zF nb sn ii) then (dT zF nb sn ii) else gr)), (9, .int (if (dT zF nb sn ii) < le then (dT zF nb sn ii) else le)), (8, .int (rr + 1)), (12, .int (dT zF nb sn ii)), (6, .long (lN (dX sn (ii + 1)))), (0, .ref o), (1, .int 1), (2, .int nb), (3, .int (nI nn)), (4, .int (nI sn)), (5, .int ne)]) hx hb dX11_drawn_174 hl (k := 5) rfl rfl (by decide) rfl (fun ls hl => ?_)
                                  refine lv_goto (tgt := 74) hx hb dX11_drawn_177 (by decide) ?_
                                  exact ih ((lN (dX sn (ii + 1))), (rr + 1), (if (dT zF nb sn ii) < le then (dT zF nb sn ii) else le), (if gr < (dT zF nb sn ii) then (dT zF nb sn ii) else gr), kk + 1, ls) ⟨rfl, by rw [dR, if_pos c_44, ← er], by rw [dL, if_neg (show ¬ ii = 0 from fun z => c_48 (by rw [ek, z]; rfl)), ← el], by rw [dG, if_neg (show ¬ ii = 0 from fun z => c_48 (by rw [ek, z]; rfl)), ← eg], by rw [ek]; exact nI_1 ii, lv_sub hl [0, 1, 2, 3, 5, 6, 7, 8, 9, 10, 11] rfl⟩
                                · exact absurd c_49 c_48
                              · refine lv_iload hx hb dX11_drawn_141 (lv_at hl 1 rfl) ?_
                                refine lv_goto (tgt := 153) hx hb dX11_drawn_143 (by decide) ?_
                                refine lv_istore (lv' := [(9, .int (dT zF nb sn ii)), (8, .int (rr + 1)), (12, .int (dT zF nb sn ii)), (6, .long (lN (dX sn (ii + 1)))), (11, .int kk), (10, .int gr), (0, .ref o), (1, .int 1), (2, .int nb), (3, .int (nI nn)), (4, .int (nI sn)), (5, .int ne)]) hx hb dX11_drawn_153 hl (by decide) rfl (fun ls hl => ?_)
                                refine lv_iload hx hb dX11_drawn_155 (lv_at hl 4 rfl) ?_
                                refine lv_if_ne (tgt := 165) hx hb dX11_drawn_157 (by decide) (fun c_50 => ?_) (fun c_50 => ?_)
                                · exact absurd c_48 c_50
                                · refine lv_iload hx hb dX11_drawn_160 (lv_at hl 2 rfl) ?_
                                  refine lv_goto (tgt := 172) hx hb dX11_drawn_162 (by decide) ?_
                                  refine lv_istore (lv' := [(10, .int (dT zF nb sn ii)), (9, .int (dT zF nb sn ii)), (8, .int (rr + 1)), (12, .int (dT zF nb sn ii)), (6, .long (lN (dX sn (ii + 1)))), (11, .int kk), (0, .ref o), (1, .int 1), (2, .int nb), (3, .int (nI nn)), (4, .int (nI sn)), (5, .int ne)]) hx hb dX11_drawn_172 hl (by decide) rfl (fun ls hl => ?_)
                                  refine lv_iinc (v := (kk + 1)) (lv' := [(11, .int (kk + 1)), (10, .int (dT zF nb sn ii)), (9, .int (dT zF nb sn ii)), (8, .int (rr + 1)), (12, .int (dT zF nb sn ii)), (6, .long (lN (dX sn (ii + 1)))), (0, .ref o), (1, .int 1), (2, .int nb), (3, .int (nI nn)), (4, .int (nI sn)), (5, .int ne)]) hx hb dX11_drawn_174 hl (k := 5) rfl rfl (by decide) rfl (fun ls hl => ?_)
                                  refine lv_goto (tgt := 74) hx hb dX11_drawn_177 (by decide) ?_
                                  exact ih ((lN (dX sn (ii + 1))), (rr + 1), (dT zF nb sn ii), (dT zF nb sn ii), kk + 1, ls) ⟨rfl, by rw [dR, if_pos c_44, ← er], by rw [dL, if_pos (show ii = 0 from tz_n0 (by omega) (ek ▸ c_48))], by rw [dG, if_pos (show ii = 0 from tz_n0 (by omega) (ek ▸ c_48))], by rw [ek]; exact nI_1 ii, lv_sub hl [0, 1, 2, 3, 5, 6, 7, 8, 9, 10, 11] rfl⟩
                      · refine lv_iload hx hb dX11_drawn_57 (lv_at hl 4 rfl) ?_
                        refine lv_i2l (v := (nI sn).toInt64) hx hb dX11_drawn_59 rfl ?_
                        refine tz_l (lN sn) (nI_l (by omega)) ?_
                        refine lv_lstore (lv' := [(6, .long (lN sn)), (0, .ref o), (1, .int 2), (2, .int nb), (3, .int (nI nn)), (4, .int (nI sn)), (5, .int ne)]) hx hb dX11_drawn_60 hl (by decide) rfl (fun ls hl => ?_)
                        refine lv_iconst (v := 0) hx hb dX11_drawn_62 (by decide) ?_
                        refine lv_istore (lv' := [(8, .int 0), (6, .long (lN sn)), (0, .ref o), (1, .int 2), (2, .int nb), (3, .int (nI nn)), (4, .int (nI sn)), (5, .int ne)]) hx hb dX11_drawn_63 hl (by decide) rfl (fun ls hl => ?_)
                        refine lv_iconst (v := (-1)) hx hb dX11_drawn_65 (by decide) ?_
                        refine lv_istore (lv' := [(9, .int (-1)), (8, .int 0), (6, .long (lN sn)), (0, .ref o), (1, .int 2), (2, .int nb), (3, .int (nI nn)), (4, .int (nI sn)), (5, .int ne)]) hx hb dX11_drawn_66 hl (by decide) rfl (fun ls hl => ?_)
                        refine lv_iconst (v := (-1)) hx hb dX11_drawn_68 (by decide) ?_
                        refine lv_istore (lv' := [(10, .int (-1)), (9, .int (-1)), (8, .int 0), (6, .long (lN sn)), (0, .ref o), (1, .int 2), (2, .int nb), (3, .int (nI nn)), (4, .int (nI sn)), (5, .int ne)]) hx hb dX11_drawn_69 hl (by decide) rfl (fun ls hl => ?_)
                        refine lv_iconst (v := 0) hx hb dX11_drawn_71 (by decide) ?_
                        refine lv_istore (lv' := [(11, .int 0), (10, .int (-1)), (9, .int (-1)), (8, .int 0), (6, .long (lN sn)), (0, .ref o), (1, .int 2), (2, .int nb), (3, .int (nI nn)), (4, .int (nI sn)), (5, .int ne)]) hx hb dX11_drawn_72 hl (by decide) rfl (fun ls hl => ?_)
                        refine tz_for (σ := Int64 × Int32 × Int32 × Int32 × Int32 × Array Slot) (fun x => W p l e _ s m _ below meth c _ _ _ _ _ (F0 m 74 x.2.2.2.2.2 [])) (fun i x => x.1 = lN (dX sn i) ∧ x.2.1 = dR nb (dT zW nb sn) i ∧ x.2.2.1 = dL (dT zW nb sn) i ∧ x.2.2.2.1 = dG (dT zW nb sn) i ∧ x.2.2.2.2.1 = nI i ∧ lv_has x.2.2.2.2.2 13 [(11, .int x.2.2.2.2.1), (10, .int x.2.2.2.1), (9, .int x.2.2.1), (8, .int x.2.1), (6, .long x.1), (0, .ref o), (1, .int 2), (2, .int nb), (3, .int (nI nn)), (4, .int (nI sn)), (5, .int ne)]) nn ?_ ?_ (lN sn, 0, -1, -1, 0, ls) ⟨rfl, rfl, rfl, rfl, rfl, lv_sub hl [0, 1, 2, 3, 4, 5, 6, 7, 8, 9, 10] rfl⟩
                        · rintro ⟨xx, rr, le, gr, kk, ls⟩ ⟨ex, er, el, eg, ek, hl⟩
                          dsimp only at ex er el eg ek hl ⊢
                          refine lv_iload hx hb dX11_drawn_74 (lv_at hl 0 rfl) ?_
                          refine lv_iload_n hx hb dX11_drawn_76 rfl (lv_at hl 8 rfl) ?_
                          refine lv_icmp_ge (tgt := 180) hx hb dX11_drawn_77 (by decide) (fun c_51 => ?_) (fun c_51 => ?_)
                          · refine lv_iload hx hb dX11_drawn_180 (lv_at hl 10 rfl) ?_
                            refine lv_if_ne (tgt := 188) hx hb dX11_drawn_182 (by decide) (fun c_52 => ?_) (fun c_52 => ?_)
                            · refine lv_iload hx hb dX11_drawn_188 (lv_at hl 10 rfl) ?_
                              refine lv_iconst (v := 1) hx hb dX11_drawn_190 (by decide) ?_
                              refine lv_icmp_ne (tgt := 199) hx hb dX11_drawn_191 (by decide) (fun c_53 => ?_) (fun c_53 => ?_)
                              · refine lv_iload hx hb dX11_drawn_199 (lv_at hl 1 rfl) ?_
                                have hP9 := hP.sub (ws' := [(o, .inr (11, [.ref aw, .ref (ab 0), .ref ai, .ref ak, .ref sc, .ref rd, .ref fo, .ref tx, .int ty, .ref ar, .ref at_, .ref ao])), (aw, .inl (cw, 6, .inr (.inr (.inr (.inr (tz_w w0 w1 w2 w3 w4 w5)))))), (w0, .inr (4, [])), (w1, .inr (1, [])), (w2, .inr (10, [])), (w3, .inr (3, [])), (w4, .inr (9, [])), (w5, .inr (8, [])), (ar, .inl (cr, 3, .inl fr))]) [0, 1, 2, 3, 4, 5, 6, 7, 8] rfl
                                have hD9 := hD.sub (ws' := [(o, .inr (11, [.ref aw, .ref (ab 0), .ref ai, .ref ak, .ref sc, .ref rd, .ref fo, .ref tx, .int ty, .ref ar, .ref at_, .ref ao])), (aw, .inl (cw, 6, .inr (.inr (.inr (.inr (tz_w w0 w1 w2 w3 w4 w5)))))), (w0, .inr (4, [])), (w1, .inr (1, [])), (w2, .inr (10, [])), (w3, .inr (3, [])), (w4, .inr (9, [])), (w5, .inr (8, [])), (ar, .inl (cr, 3, .inl fr))]) [0, 1, 2, 3, 4, 5, 6, 7, 8] (by decide) rfl
                                have hK9 := hK.sub (tys' := [(cw, (.object "ThriceCounted$Ones")), (cr, .int)]) [0, 1] rfl
                                exact W.iret (v := gr) hx hb hr (fun t ht hW => ⟨⟨gr, (), rfl, (by unfold dS; rw [en, es]; exact eg.trans ((if_pos hc_5).trans ((if_pos hc_9).trans ((if_pos hc_13).trans ((if_pos hc_17).trans ((if_pos hc_21).trans ((if_neg c_52).trans (if_neg c_53))))))).symm), fr, by rw [ht]; exact hP9, va_K.moved hW.alike hK9, hD9⟩, hS.F ht⟩) hS.2.2 dX11_drawn_201
                              · refine lv_iload hx hb dX11_drawn_194 (lv_at hl 2 rfl) ?_
                                refine lv_goto (tgt := 201) hx hb dX11_drawn_196 (by decide) ?_
                                have hP9 := hP.sub (ws' := [(o, .inr (11, [.ref aw, .ref (ab 0), .ref ai, .ref ak, .ref sc, .ref rd, .ref fo, .ref tx, .int ty, .ref ar, .ref at_, .ref ao])), (aw, .inl (cw, 6, .inr (.inr (.inr (.inr (tz_w w0 w1 w2 w3 w4 w5)))))), (w0, .inr (4, [])), (w1, .inr (1, [])), (w2, .inr (10, [])), (w3, .inr (3, [])), (w4, .inr (9, [])), (w5, .inr (8, [])), (ar, .inl (cr, 3, .inl fr))]) [0, 1, 2, 3, 4, 5, 6, 7, 8] rfl
                                have hD9 := hD.sub (ws' := [(o, .inr (11, [.ref aw, .ref (ab 0), .ref ai, .ref ak, .ref sc, .ref rd, .ref fo, .ref tx, .int ty, .ref ar, .ref at_, .ref ao])), (aw, .inl (cw, 6, .inr (.inr (.inr (.inr (tz_w w0 w1 w2 w3 w4 w5)))))), (w0, .inr (4, [])), (w1, .inr (1, [])), (w2, .inr (10, [])), (w3, .inr (3, [])), (w4, .inr (9, [])), (w5, .inr (8, [])), (ar, .inl (cr, 3, .inl fr))]) [0, 1, 2, 3, 4, 5, 6, 7, 8] (by decide) rfl
                                have hK9 := hK.sub (tys' := [(cw, (.object "ThriceCounted$Ones")), (cr, .int)]) [0, 1] rfl
                                exact W.iret (v := le) hx hb hr (fun t ht hW => ⟨⟨le, (), rfl, (by unfold dS; rw [en, es]; exact el.trans ((if_pos hc_5).trans ((if_pos hc_9).trans ((if_pos hc_13).trans ((if_pos hc_17).trans ((if_pos hc_21).trans ((if_neg c_52).trans (if_pos c_53))))))).symm), fr, by rw [ht]; exact hP9, va_K.moved hW.alike hK9, hD9⟩, hS.F ht⟩) hS.2.2 dX11_drawn_201
                            · refine lv_iload hx hb dX11_drawn_185 (lv_at hl 3 rfl) ?_
                              have hP9 := hP.sub (ws' := [(o, .inr (11, [.ref aw, .ref (ab 0), .ref ai, .ref ak, .ref sc, .ref rd, .ref fo, .ref tx, .int ty, .ref ar, .ref at_, .ref ao])), (aw, .inl (cw, 6, .inr (.inr (.inr (.inr (tz_w w0 w1 w2 w3 w4 w5)))))), (w0, .inr (4, [])), (w1, .inr (1, [])), (w2, .inr (10, [])), (w3, .inr (3, [])), (w4, .inr (9, [])), (w5, .inr (8, [])), (ar, .inl (cr, 3, .inl fr))]) [0, 1, 2, 3, 4, 5, 6, 7, 8] rfl
                              have hD9 := hD.sub (ws' := [(o, .inr (11, [.ref aw, .ref (ab 0), .ref ai, .ref ak, .ref sc, .ref rd, .ref fo, .ref tx, .int ty, .ref ar, .ref at_, .ref ao])), (aw, .inl (cw, 6, .inr (.inr (.inr (.inr (tz_w w0 w1 w2 w3 w4 w5)))))), (w0, .inr (4, [])), (w1, .inr (1, [])), (w2, .inr (10, [])), (w3, .inr (3, [])), (w4, .inr (9, [])), (w5, .inr (8, [])), (ar, .inl (cr, 3, .inl fr))]) [0, 1, 2, 3, 4, 5, 6, 7, 8] (by decide) rfl
                              have hK9 := hK.sub (tys' := [(cw, (.object "ThriceCounted$Ones")), (cr, .int)]) [0, 1] rfl
                              exact W.iret (v := rr) hx hb hr (fun t ht hW => ⟨⟨rr, (), rfl, (by unfold dS; rw [en, es]; exact er.trans ((if_pos hc_5).trans ((if_pos hc_9).trans ((if_pos hc_13).trans ((if_pos hc_17).trans ((if_pos hc_21).trans (if_pos c_52)))))).symm), fr, by rw [ht]; exact hP9, va_K.moved hW.alike hK9, hD9⟩, hS.F ht⟩) hS.2.2 dX11_drawn_187
                          · exact absurd (by rw [ek]; exact nI_le (Nat.le_refl nn) (by omega)) c_51
                        · rintro ii ⟨xx, rr, le, gr, kk, ls⟩ hi ⟨ex, er, el, eg, ek, hl⟩ ih
                          dsimp only at ex er el eg ek hl ⊢
                          refine lv_iload hx hb dX11_drawn_74 (lv_at hl 0 rfl) ?_
                          refine lv_iload_n hx hb dX11_drawn_76 rfl (lv_at hl 8 rfl) ?_
                          refine lv_icmp_ge (tgt := 180) hx hb dX11_drawn_77 (by decide) (fun c_54 => ?_) (fun c_54 => ?_)
                          · exact absurd c_54 (by rw [ek]; exact nI_ge hi (by omega))
                          · refine lv_lload hx hb dX11_drawn_80 (lv_at hl 4 rfl) ?_
                            refine lv_ldc2 hx hb hown (hts (.constantLong RX11 255 (1103515245)) (by decide +kernel)) dX11_drawn_82 ?_
                            refine lv_lmul hx hb dX11_drawn_85 ?_
                            refine lv_ldc2 hx hb hown (hts (.constantLong RX11 257 (12345)) (by decide +kernel)) dX11_drawn_86 ?_
                            refine lv_ladd hx hb dX11_drawn_89 ?_
                            refine lv_ldc2 hx hb hown (hts (.constantLong RX11 259 (2147483648)) (by decide +kernel)) dX11_drawn_90 ?_
                            refine lv_lrem hx hb dX11_drawn_93 (by decide) ?_
                            refine tz_l (lN (dX sn (ii + 1))) (by rw [ex]; exact tz_dx (hdx ii)) ?_
                            refine lv_lstore (lv' := [(6, .long (lN (dX sn (ii + 1)))), (11, .int kk), (10, .int gr), (9, .int le), (8, .int rr), (0, .ref o), (1, .int 2), (2, .int nb), (3, .int (nI nn)), (4, .int (nI sn)), (5, .int ne)]) hx hb dX11_drawn_94 hl (by decide) rfl (fun ls hl => ?_)
                            refine lv_iload_n hx hb dX11_drawn_96 rfl (lv_at hl 7 rfl) ?_
                            refine lv_aload_n hx hb dX11_drawn_97 rfl (lv_at hl 5 rfl) ?_
                            refine va_get (D := (dC, dI)) (ci := 11) (v := .ref aw) (C := RX11) (T := TX11) (N := 12) hx hb hts iw_x_drawnF_X11 hown hK hP 0 rfl rfl 0 (by decide) (hts (.fieldLink RX11 25 "ThriceCounted" "ways" "[LThriceCounted$Ones;") (by decide +kernel)) (fun _ h9 => h9) rfl dX11_drawn_98 ?_
                            refine lv_iload_n hx hb dX11_drawn_101 rfl (lv_at hl 6 rfl) ?_
                            refine va_aldq hx hb hK hP 1 0 rfl rfl (show ¬ ((2 : Int32) < 0 ∨ 6 ≤ (2 : Int32).toNatClampNeg) by decide) dX11_drawn_102 ?_
                            refine tz_v (.ref w2) rfl ?_
                            refine lv_lload hx hb dX11_drawn_103 (lv_at hl 0 rfl) ?_
                            refine lv_ldc2 hx hb hown (hts (.constantLong RX11 261 (65536)) (by decide +kernel)) dX11_drawn_105 ?_
                            refine lv_ldiv hx hb dX11_drawn_108 (by decide) ?_
                            refine lv_ldc2 hx hb hown (hts (.constantLong RX11 263 (20)) (by decide +kernel)) dX11_drawn_109 ?_
                            refine lv_lrem hx hb dX11_drawn_112 (by decide) ?_
                            refine lv_l2i (v := (((lN (dX sn (ii + 1))) / 65536) - ((lN (dX sn (ii + 1))) / 65536) / 20 * 20).toInt32) hx hb dX11_drawn_113 rfl ?_
                            refine tz_i (nI (dX sn (ii + 1) / 65536 % 20)) (tz_di (hdx (ii + 1))) ?_
                            refine vp_callSi (va_Run.run (va_runU (C := RX10) (As := [.int (nI (dX sn (ii + 1) / 65536 % 20))]) (rest := [.int nb]) ⟨hx, hb, hml, hown, hts⟩ (k_slip_X10 l dC dI w2 (nI (dX sn (ii + 1) / 65536 % 20))) (va_cwO 1 hts gX11_drawn_X10_slip_u175X10 rfl rfl rfl (b0 := cX4_slip) (m0 := 2) (r0 := (some .int)) (by decide +kernel) (by decide +kernel) ⟨Nat.le_of_ble_eq_true rfl, Nat.le_of_ble_eq_true rfl⟩) ⟨fun a U g mk q => ⟨q.1, trivial⟩, va_recv hK hP (ci := 10) (q0 := 4) rfl rfl, fun U hU hW => ⟨rfl, trivial⟩⟩ rfl rfl hl.1 rfl (lv_room (Nat.le_of_ble_eq_true rfl)) dX11_drawn_114 ⟨Nat.le_of_ble_eq_true rfl, Nat.le_of_ble_eq_true rfl⟩)) (fun r_55 hw_56 => ?_)
                            obtain rfl : (zW (nI (dX sn (ii + 1) / 65536 % 20))) = r_55 := hw_56.symm
                            refine lv_iadd hx hb dX11_drawn_117 ?_
                            refine tz_i (dT zW nb sn ii) rfl ?_
                            refine lv_istore (lv' := [(12, .int (dT zW nb sn ii)), (6, .long (lN (dX sn (ii + 1)))), (11, .int kk), (10, .int gr), (9, .int le), (8, .int rr), (0, .ref o), (1, .int 2), (2, .int nb), (3, .int (nI nn)), (4, .int (nI sn)), (5, .int ne)]) hx hb dX11_drawn_118 hl (by decide) rfl (fun ls hl => ?_)
                            refine lv_iload hx hb dX11_drawn_120 (lv_at hl 5 rfl) ?_
                            refine lv_iload hx hb dX11_drawn_122 (lv_at hl 0 rfl) ?_
                            refine lv_iload_n hx hb dX11_drawn_124 rfl (lv_at hl 8 rfl) ?_
                            refine lv_icmp_ne (tgt := 132) hx hb dX11_drawn_125 (by decide) (fun c_57 => ?_) (fun c_57 => ?_)
                            · refine lv_iconst (v := 0) hx hb dX11_drawn_132 (by decide) ?_
                              refine lv_iadd hx hb dX11_drawn_133 ?_
                              refine lv_istore (lv' := [(8, .int (rr + 0)), (12, .int (dT zW nb sn ii)), (6, .long (lN (dX sn (ii + 1)))), (11, .int kk), (10, .int gr), (9, .int le), (0, .ref o), (1, .int 2), (2, .int nb), (3, .int (nI nn)), (4, .int (nI sn)), (5, .int ne)]) hx hb dX11_drawn_134 hl (by decide) rfl (fun ls hl => ?_)
                              refine lv_iload hx hb dX11_drawn_136 (lv_at hl 3 rfl) ?_
                              refine lv_if_ne (tgt := 146) hx hb dX11_drawn_138 (by decide) (fun c_58 => ?_) (fun c_58 => ?_)
                              · refine lv_iload hx hb dX11_drawn_146 (lv_at hl 5 rfl) ?_
                                refine lv_iload hx hb dX11_drawn_148 (lv_at hl 1 rfl) ?_
                                refine va_mmin hx hb (hml.trans hl.1.symm) hown (hts (.methodLink RX11 265 Lib.Math.min.name) (by decide +kernel)) (hts (.static Lib.Math.min.name) (by decide +kernel)) (hts (.initialized "java/lang/Math") (by decide +kernel)) (hts (.code Lib.Math.min.name Lib.Math.min.code 2 (some .int)) (by decide +kernel)) (Nat.le_of_ble_eq_true rfl) (Nat.le_of_ble_eq_true rfl) (Nat.le_of_ble_eq_true rfl) (Nat.le_of_ble_eq_true rfl) dX11_drawn_150 ?_
                                refine lv_istore (lv' := [(9, .int (if (dT zW nb sn ii) < le then (dT zW nb sn ii) else le)), (8, .int (rr + 0)), (12, .int (dT zW nb sn ii)), (6, .long (lN (dX sn (ii + 1)))), (11, .int kk), (10, .int gr), (0, .ref o), (1, .int 2), (2, .int nb), (3, .int (nI nn)), (4, .int (nI sn)), (5, .int ne)]) hx hb dX11_drawn_153 hl (by decide) rfl (fun ls hl => ?_)
                                refine lv_iload hx hb dX11_drawn_155 (lv_at hl 4 rfl) ?_
                                refine lv_if_ne (tgt := 165) hx hb dX11_drawn_157 (by decide) (fun c_59 => ?_) (fun c_59 => ?_)
                                · refine lv_iload hx hb dX11_drawn_165 (lv_at hl 5 rfl) ?_
                                  refine lv_iload hx hb dX11_drawn_167 (lv_at hl 2 rfl) ?_
                                  refine va_mmax hx hb (hml.trans hl.1.symm) hown (hts (.methodLink RX11 268 Lib.Math.max.name) (by decide +kernel)) (hts (.static Lib.Math.max.name) (by decide +kernel)) (hts (.initialized "java/lang/Math") (by decide +kernel)) (hts (.code Lib.Math.max.name Lib.Math.max.code 2 (some .int)) (by decide +kernel)) (Nat.le_of_ble_eq_true rfl) (Nat.le_of_ble_eq_true rfl) (Nat.le_of_ble_eq_true rfl) (Nat.le_of_ble_eq_true rfl) dX11_drawn_169 ?_
                                  refine lv_istore (lv' := [(10, .int (if gr < (dT zW nb sn ii) then (dT zW nb sn ii) else gr)), (9, .int (if (dT zW nb sn ii) < le then (dT zW nb sn ii) else le)), (8, .int (rr + 0)), (12, .int (dT zW nb sn ii)), (6, .long (lN (dX sn (ii + 1)))), (11, .int kk), (0, .ref o), (1, .int 2), (2, .int nb), (3, .int (nI nn)), (4, .int (nI sn)), (5, .int ne)]) hx hb dX11_drawn_172 hl (by decide) rfl (fun ls hl => ?_)
                                  refine lv_iinc (v := (kk + 1)) (lv' := [(11, .int (kk + 1)), (10, .int (if gr < (dT zW nb sn ii) then (dT zW nb sn ii) else gr)), (9, .int (if (dT zW nb sn ii) < le then (dT zW nb sn ii) else le)), (8, .int (rr + 0)), (12, .int (dT zW nb sn ii)), (6, .long (lN (dX sn (ii + 1)))), (0, .ref o), (1, .int 2), (2, .int nb), (3, .int (nI nn)), (4, .int (nI sn)), (5, .int ne)]) hx hb dX11_drawn_174 hl (k := 5) rfl rfl (by decide) rfl (fun ls hl => ?_)
                                  refine lv_goto (tgt := 74) hx hb dX11_drawn_177 (by decide) ?_
                                  exact ih ((lN (dX sn (ii + 1))), (rr + 0), (if (dT zW nb sn ii) < le then (dT zW nb sn ii) else le), (if gr < (dT zW nb sn ii) then (dT zW nb sn ii) else gr), kk + 1, ls) ⟨rfl, by rw [dR, if_neg c_57, ← er, Int32.add_zero], by rw [dL, if_neg (show ¬ ii = 0 from fun z => c_58 (by rw [ek, z]; rfl)), ← el], by rw [dG, if_neg (show ¬ ii = 0 from fun z => c_58 (by rw [ek, z]; rfl)), ← eg], by rw [ek]; exact nI_1 ii, lv_sub hl [0, 1, 2, 3, 5, 6, 7, 8, 9, 10, 11] rfl⟩
                                · exact absurd c_59 c_58
                              · refine lv_iload hx hb dX11_drawn_141 (lv_at hl 1 rfl) ?_
                                refine lv_goto (tgt := 153) hx hb dX11_drawn_143 (by decide) ?_
                                refine lv_istore (lv' := [(9, .int (dT zW nb sn ii)), (8, .int (rr + 0)), (12, .int (dT zW nb sn ii)), (6, .long (lN (dX sn (ii + 1)))), (11, .int kk), (10, .int gr), (0, .ref o), (1, .int 2), (2, .int nb), (3, .int (nI nn)), (4, .int (nI sn)), (5, .int ne)]) hx hb dX11_drawn_153 hl (by decide) rfl (fun ls hl => ?_)
                                refine lv_iload hx hb dX11_drawn_155 (lv_at hl 4 rfl) ?_
                                refine lv_if_ne (tgt := 165) hx hb dX11_drawn_157 (by decide) (fun c_60 => ?_) (fun c_60 => ?_)
                                · exact absurd c_58 c_60
                                · refine lv_iload hx hb dX11_drawn_160 (lv_at hl 2 rfl) ?_
                                  refine lv_goto (tgt := 172) hx hb dX11_drawn_162 (by decide) ?_
                                  refine lv_istore (lv' := [(10, .int (dT zW nb sn ii)), (9, .int (dT zW nb sn ii)), (8, .int (rr + 0)), (12, .int (dT zW nb sn ii)), (6, .long (lN (dX sn (ii + 1)))), (11, .int kk), (0, .ref o), (1, .int 2), (2, .int nb), (3, .int (nI nn)), (4, .int (nI sn)), (5, .int ne)]) hx hb dX11_drawn_172 hl (by decide) rfl (fun ls hl => ?_)
                                  refine lv_iinc (v := (kk + 1)) (lv' := [(11, .int (kk + 1)), (10, .int (dT zW nb sn ii)), (9, .int (dT zW nb sn ii)), (8, .int (rr + 0)), (12, .int (dT zW nb sn ii)), (6, .long (lN (dX sn (ii + 1)))), (0, .ref o), (1, .int 2), (2, .int nb), (3, .int (nI nn)), (4, .int (nI sn)), (5, .int ne)]) hx hb dX11_drawn_174 hl (k := 5) rfl rfl (by decide) rfl (fun ls hl => ?_)
                                  refine lv_goto (tgt := 74) hx hb dX11_drawn_177 (by decide) ?_
                                  exact ih ((lN (dX sn (ii + 1))), (rr + 0), (dT zW nb sn ii), (dT zW nb sn ii), kk + 1, ls) ⟨rfl, by rw [dR, if_neg c_57, ← er, Int32.add_zero], by rw [dL, if_pos (show ii = 0 from tz_n0 (by omega) (ek ▸ c_58))], by rw [dG, if_pos (show ii = 0 from tz_n0 (by omega) (ek ▸ c_58))], by rw [ek]; exact nI_1 ii, lv_sub hl [0, 1, 2, 3, 5, 6, 7, 8, 9, 10, 11] rfl⟩
                            · refine lv_iconst (v := 1) hx hb dX11_drawn_128 (by decide) ?_
                              refine lv_goto (tgt := 133) hx hb dX11_drawn_129 (by decide) ?_
                              refine lv_iadd hx hb dX11_drawn_133 ?_
                              refine lv_istore (lv' := [(8, .int (rr + 1)), (12, .int (dT zW nb sn ii)), (6, .long (lN (dX sn (ii + 1)))), (11, .int kk), (10, .int gr), (9, .int le), (0, .ref o), (1, .int 2), (2, .int nb), (3, .int (nI nn)), (4, .int (nI sn)), (5, .int ne)]) hx hb dX11_drawn_134 hl (by decide) rfl (fun ls hl => ?_)
                              refine lv_iload hx hb dX11_drawn_136 (lv_at hl 3 rfl) ?_
                              refine lv_if_ne (tgt := 146) hx hb dX11_drawn_138 (by decide) (fun c_61 => ?_) (fun c_61 => ?_)
                              · refine lv_iload hx hb dX11_drawn_146 (lv_at hl 5 rfl) ?_
                                refine lv_iload hx hb dX11_drawn_148 (lv_at hl 1 rfl) ?_
                                refine va_mmin hx hb (hml.trans hl.1.symm) hown (hts (.methodLink RX11 265 Lib.Math.min.name) (by decide +kernel)) (hts (.static Lib.Math.min.name) (by decide +kernel)) (hts (.initialized "java/lang/Math") (by decide +kernel)) (hts (.code Lib.Math.min.name Lib.Math.min.code 2 (some .int)) (by decide +kernel)) (Nat.le_of_ble_eq_true rfl) (Nat.le_of_ble_eq_true rfl) (Nat.le_of_ble_eq_true rfl) (Nat.le_of_ble_eq_true rfl) dX11_drawn_150 ?_
                                refine lv_istore (lv' := [(9, .int (if (dT zW nb sn ii) < le then (dT zW nb sn ii) else le)), (8, .int (rr + 1)), (12, .int (dT zW nb sn ii)), (6, .long (lN (dX sn (ii + 1)))), (11, .int kk), (10, .int gr), (0, .ref o), (1, .int 2), (2, .int nb), (3, .int (nI nn)), (4, .int (nI sn)), (5, .int ne)]) hx hb dX11_drawn_153 hl (by decide) rfl (fun ls hl => ?_)
                                refine lv_iload hx hb dX11_drawn_155 (lv_at hl 4 rfl) ?_
                                refine lv_if_ne (tgt := 165) hx hb dX11_drawn_157 (by decide) (fun c_62 => ?_) (fun c_62 => ?_)
                                · refine lv_iload hx hb dX11_drawn_165 (lv_at hl 5 rfl) ?_
                                  refine lv_iload hx hb dX11_drawn_167 (lv_at hl 2 rfl) ?_
                                  refine va_mmax hx hb (hml.trans hl.1.symm) hown (hts (.methodLink RX11 268 Lib.Math.max.name) (by decide +kernel)) (hts (.static Lib.Math.max.name) (by decide +kernel)) (hts (.initialized "java/lang/Math") (by decide +kernel)) (hts (.code Lib.Math.max.name Lib.Math.max.code 2 (some .int)) (by decide +kernel)) (Nat.le_of_ble_eq_true rfl) (Nat.le_of_ble_eq_true rfl) (Nat.le_of_ble_eq_true rfl) (Nat.le_of_ble_eq_true rfl) dX11_drawn_169 ?_
                                  refine lv_istore (lv' := [(10, .int (if gr < (dT zW nb sn ii) then (dT zW nb sn ii) else gr)), (9, .int (if (dT zW nb sn ii) < le then (dT zW nb sn ii) else le)), (8, .int (rr + 1)), (12, .int (dT zW nb sn ii)), (6, .long (lN (dX sn (ii + 1)))), (11, .int kk), (0, .ref o), (1, .int 2), (2, .int nb), (3, .int (nI nn)), (4, .int (nI sn)), (5, .int ne)]) hx hb dX11_drawn_172 hl (by decide) rfl (fun ls hl => ?_)
                                  refine lv_iinc (v := (kk + 1)) (lv' := [(11, .int (kk + 1)), (10, .int (if gr < (dT zW nb sn ii) then (dT zW nb sn ii) else gr)), (9, .int (if (dT zW nb sn ii) < le then (dT zW nb sn ii) else le)), (8, .int (rr + 1)), (12, .int (dT zW nb sn ii)), (6, .long (lN (dX sn (ii + 1)))), (0, .ref o), (1, .int 2), (2, .int nb), (3, .int (nI nn)), (4, .int (nI sn)), (5, .int ne)]) hx hb dX11_drawn_174 hl (k := 5) rfl rfl (by decide) rfl (fun ls hl => ?_)
                                  refine lv_goto (tgt := 74) hx hb dX11_drawn_177 (by decide) ?_
                                  exact ih ((lN (dX sn (ii + 1))), (rr + 1), (if (dT zW nb sn ii) < le then (dT zW nb sn ii) else le), (if gr < (dT zW nb sn ii) then (dT zW nb sn ii) else gr), kk + 1, ls) ⟨rfl, by rw [dR, if_pos c_57, ← er], by rw [dL, if_neg (show ¬ ii = 0 from fun z => c_61 (by rw [ek, z]; rfl)), ← el], by rw [dG, if_neg (show ¬ ii = 0 from fun z => c_61 (by rw [ek, z]; rfl)), ← eg], by rw [ek]; exact nI_1 ii, lv_sub hl [0, 1, 2, 3, 5, 6, 7, 8, 9, 10, 11] rfl⟩
                                · exact absurd c_62 c_61
                              · refine lv_iload hx hb dX11_drawn_141 (lv_at hl 1 rfl) ?_
                                refine lv_goto (tgt := 153) hx hb dX11_drawn_143 (by decide) ?_
                                refine lv_istore (lv' := [(9, .int (dT zW nb sn ii)), (8, .int (rr + 1)), (12, .int (dT zW nb sn ii)), (6, .long (lN (dX sn (ii + 1)))), (11, .int kk), (10, .int gr), (0, .ref o), (1, .int 2), (2, .int nb), (3, .int (nI nn)), (4, .int (nI sn)), (5, .int ne)]) hx hb dX11_drawn_153 hl (by decide) rfl (fun ls hl => ?_)
                                refine lv_iload hx hb dX11_drawn_155 (lv_at hl 4 rfl) ?_
                                refine lv_if_ne (tgt := 165) hx hb dX11_drawn_157 (by decide) (fun c_63 => ?_) (fun c_63 => ?_)
                                · exact absurd c_61 c_63
                                · refine lv_iload hx hb dX11_drawn_160 (lv_at hl 2 rfl) ?_
                                  refine lv_goto (tgt := 172) hx hb dX11_drawn_162 (by decide) ?_
                                  refine lv_istore (lv' := [(10, .int (dT zW nb sn ii)), (9, .int (dT zW nb sn ii)), (8, .int (rr + 1)), (12, .int (dT zW nb sn ii)), (6, .long (lN (dX sn (ii + 1)))), (11, .int kk), (0, .ref o), (1, .int 2), (2, .int nb), (3, .int (nI nn)), (4, .int (nI sn)), (5, .int ne)]) hx hb dX11_drawn_172 hl (by decide) rfl (fun ls hl => ?_)
                                  refine lv_iinc (v := (kk + 1)) (lv' := [(11, .int (kk + 1)), (10, .int (dT zW nb sn ii)), (9, .int (dT zW nb sn ii)), (8, .int (rr + 1)), (12, .int (dT zW nb sn ii)), (6, .long (lN (dX sn (ii + 1)))), (0, .ref o), (1, .int 2), (2, .int nb), (3, .int (nI nn)), (4, .int (nI sn)), (5, .int ne)]) hx hb dX11_drawn_174 hl (k := 5) rfl rfl (by decide) rfl (fun ls hl => ?_)
                                  refine lv_goto (tgt := 74) hx hb dX11_drawn_177 (by decide) ?_
                                  exact ih ((lN (dX sn (ii + 1))), (rr + 1), (dT zW nb sn ii), (dT zW nb sn ii), kk + 1, ls) ⟨rfl, by rw [dR, if_pos c_57, ← er], by rw [dL, if_pos (show ii = 0 from tz_n0 (by omega) (ek ▸ c_61))], by rw [dG, if_pos (show ii = 0 from tz_n0 (by omega) (ek ▸ c_61))], by rw [ek]; exact nI_1 ii, lv_sub hl [0, 1, 2, 3, 5, 6, 7, 8, 9, 10, 11] rfl⟩
                      · refine lv_iload hx hb dX11_drawn_57 (lv_at hl 4 rfl) ?_
                        refine lv_i2l (v := (nI sn).toInt64) hx hb dX11_drawn_59 rfl ?_
                        refine tz_l (lN sn) (nI_l (by omega)) ?_
                        refine lv_lstore (lv' := [(6, .long (lN sn)), (0, .ref o), (1, .int 3), (2, .int nb), (3, .int (nI nn)), (4, .int (nI sn)), (5, .int ne)]) hx hb dX11_drawn_60 hl (by decide) rfl (fun ls hl => ?_)
                        refine lv_iconst (v := 0) hx hb dX11_drawn_62 (by decide) ?_
                        refine lv_istore (lv' := [(8, .int 0), (6, .long (lN sn)), (0, .ref o), (1, .int 3), (2, .int nb), (3, .int (nI nn)), (4, .int (nI sn)), (5, .int ne)]) hx hb dX11_drawn_63 hl (by decide) rfl (fun ls hl => ?_)
                        refine lv_iconst (v := (-1)) hx hb dX11_drawn_65 (by decide) ?_
                        refine lv_istore (lv' := [(9, .int (-1)), (8, .int 0), (6, .long (lN sn)), (0, .ref o), (1, .int 3), (2, .int nb), (3, .int (nI nn)), (4, .int (nI sn)), (5, .int ne)]) hx hb dX11_drawn_66 hl (by decide) rfl (fun ls hl => ?_)
                        refine lv_iconst (v := (-1)) hx hb dX11_drawn_68 (by decide) ?_
                        refine lv_istore (lv' := [(10, .int (-1)), (9, .int (-1)), (8, .int 0), (6, .long (lN sn)), (0, .ref o), (1, .int 3), (2, .int nb), (3, .int (nI nn)), (4, .int (nI sn)), (5, .int ne)]) hx hb dX11_drawn_69 hl (by decide) rfl (fun ls hl => ?_)
                        refine lv_iconst (v := 0) hx hb dX11_drawn_71 (by decide) ?_
                        refine lv_istore (lv' := [(11, .int 0), (10, .int (-1)), (9, .int (-1)), (8, .int 0), (6, .long (lN sn)), (0, .ref o), (1, .int 3), (2, .int nb), (3, .int (nI nn)), (4, .int (nI sn)), (5, .int ne)]) hx hb dX11_drawn_72 hl (by decide) rfl (fun ls hl => ?_)
                        refine tz_for (σ := Int64 × Int32 × Int32 × Int32 × Int32 × Array Slot) (fun x => W p l e _ s m _ below meth c _ _ _ _ _ (F0 m 74 x.2.2.2.2.2 [])) (fun i x => x.1 = lN (dX sn i) ∧ x.2.1 = dR nb (dT zH nb sn) i ∧ x.2.2.1 = dL (dT zH nb sn) i ∧ x.2.2.2.1 = dG (dT zH nb sn) i ∧ x.2.2.2.2.1 = nI i ∧ lv_has x.2.2.2.2.2 13 [(11, .int x.2.2.2.2.1), (10, .int x.2.2.2.1), (9, .int x.2.2.1), (8, .int x.2.1), (6, .long x.1), (0, .ref o), (1, .int 3), (2, .int nb), (3, .int (nI nn)), (4, .int (nI sn)), (5, .int ne)]) nn ?_ ?_ (lN sn, 0, -1, -1, 0, ls) ⟨rfl, rfl, rfl, rfl, rfl, lv_sub hl [0, 1, 2, 3, 4, 5, 6, 7, 8, 9, 10] rfl⟩
                        · rintro ⟨xx, rr, le, gr, kk, ls⟩ ⟨ex, er, el, eg, ek, hl⟩
                          dsimp only at ex er el eg ek hl ⊢
                          refine lv_iload hx hb dX11_drawn_74 (lv_at hl 0 rfl) ?_
                          refine lv_iload_n hx hb dX11_drawn_76 rfl (lv_at hl 8 rfl) ?_
                          refine lv_icmp_ge (tgt := 180) hx hb dX11_drawn_77 (by decide) (fun c_64 => ?_) (fun c_64 => ?_)
                          · refine lv_iload hx hb dX11_drawn_180 (lv_at hl 10 rfl) ?_
                            refine lv_if_ne (tgt := 188) hx hb dX11_drawn_182 (by decide) (fun c_65 => ?_) (fun c_65 => ?_)
                            · refine lv_iload hx hb dX11_drawn_188 (lv_at hl 10 rfl) ?_
                              refine lv_iconst (v := 1) hx hb dX11_drawn_190 (by decide) ?_
                              refine lv_icmp_ne (tgt := 199) hx hb dX11_drawn_191 (by decide) (fun c_66 => ?_) (fun c_66 => ?_)
                              · refine lv_iload hx hb dX11_drawn_199 (lv_at hl 1 rfl) ?_
                                have hP9 := hP.sub (ws' := [(o, .inr (11, [.ref aw, .ref (ab 0), .ref ai, .ref ak, .ref sc, .ref rd, .ref fo, .ref tx, .int ty, .ref ar, .ref at_, .ref ao])), (aw, .inl (cw, 6, .inr (.inr (.inr (.inr (tz_w w0 w1 w2 w3 w4 w5)))))), (w0, .inr (4, [])), (w1, .inr (1, [])), (w2, .inr (10, [])), (w3, .inr (3, [])), (w4, .inr (9, [])), (w5, .inr (8, [])), (ar, .inl (cr, 3, .inl fr))]) [0, 1, 2, 3, 4, 5, 6, 7, 8] rfl
                                have hD9 := hD.sub (ws' := [(o, .inr (11, [.ref aw, .ref (ab 0), .ref ai, .ref ak, .ref sc, .ref rd, .ref fo, .ref tx, .int ty, .ref ar, .ref at_, .ref ao])), (aw, .inl (cw, 6, .inr (.inr (.inr (.inr (tz_w w0 w1 w2 w3 w4 w5)))))), (w0, .inr (4, [])), (w1, .inr (1, [])), (w2, .inr (10, [])), (w3, .inr (3, [])), (w4, .inr (9, [])), (w5, .inr (8, [])), (ar, .inl (cr, 3, .inl fr))]) [0, 1, 2, 3, 4, 5, 6, 7, 8] (by decide) rfl
                                have hK9 := hK.sub (tys' := [(cw, (.object "ThriceCounted$Ones")), (cr, .int)]) [0, 1] rfl
                                exact W.iret (v := gr) hx hb hr (fun t ht hW => ⟨⟨gr, (), rfl, (by unfold dS; rw [en, es]; exact eg.trans ((if_pos hc_5).trans ((if_pos hc_9).trans ((if_pos hc_13).trans ((if_pos hc_17).trans ((if_pos hc_21).trans ((if_neg c_65).trans (if_neg c_66))))))).symm), fr, by rw [ht]; exact hP9, va_K.moved hW.alike hK9, hD9⟩, hS.F ht⟩) hS.2.2 dX11_drawn_201
                              · refine lv_iload hx hb dX11_drawn_194 (lv_at hl 2 rfl) ?_
                                refine lv_goto (tgt := 201) hx hb dX11_drawn_196 (by decide) ?_
                                have hP9 := hP.sub (ws' := [(o, .inr (11, [.ref aw, .ref (ab 0), .ref ai, .ref ak, .ref sc, .ref rd, .ref fo, .ref tx, .int ty, .ref ar, .ref at_, .ref ao])), (aw, .inl (cw, 6, .inr (.inr (.inr (.inr (tz_w w0 w1 w2 w3 w4 w5)))))), (w0, .inr (4, [])), (w1, .inr (1, [])), (w2, .inr (10, [])), (w3, .inr (3, [])), (w4, .inr (9, [])), (w5, .inr (8, [])), (ar, .inl (cr, 3, .inl fr))]) [0, 1, 2, 3, 4, 5, 6, 7, 8] rfl
                                have hD9 := hD.sub (ws' := [(o, .inr (11, [.ref aw, .ref (ab 0), .ref ai, .ref ak, .ref sc, .ref rd, .ref fo, .ref tx, .int ty, .ref ar, .ref at_, .ref ao])), (aw, .inl (cw, 6, .inr (.inr (.inr (.inr (tz_w w0 w1 w2 w3 w4 w5)))))), (w0, .inr (4, [])), (w1, .inr (1, [])), (w2, .inr (10, [])), (w3, .inr (3, [])), (w4, .inr (9, [])), (w5, .inr (8, [])), (ar, .inl (cr, 3, .inl fr))]) [0, 1, 2, 3, 4, 5, 6, 7, 8] (by decide) rfl
                                have hK9 := hK.sub (tys' := [(cw, (.object "ThriceCounted$Ones")), (cr, .int)]) [0, 1] rfl
                                exact W.iret (v := le) hx hb hr (fun t ht hW => ⟨⟨le, (), rfl, (by unfold dS; rw [en, es]; exact el.trans ((if_pos hc_5).trans ((if_pos hc_9).trans ((if_pos hc_13).trans ((if_pos hc_17).trans ((if_pos hc_21).trans ((if_neg c_65).trans (if_pos c_66))))))).symm), fr, by rw [ht]; exact hP9, va_K.moved hW.alike hK9, hD9⟩, hS.F ht⟩) hS.2.2 dX11_drawn_201
                            · refine lv_iload hx hb dX11_drawn_185 (lv_at hl 3 rfl) ?_
                              have hP9 := hP.sub (ws' := [(o, .inr (11, [.ref aw, .ref (ab 0), .ref ai, .ref ak, .ref sc, .ref rd, .ref fo, .ref tx, .int ty, .ref ar, .ref at_, .ref ao])), (aw, .inl (cw, 6, .inr (.inr (.inr (.inr (tz_w w0 w1 w2 w3 w4 w5)))))), (w0, .inr (4, [])), (w1, .inr (1, [])), (w2, .inr (10, [])), (w3, .inr (3, [])), (w4, .inr (9, [])), (w5, .inr (8, [])), (ar, .inl (cr, 3, .inl fr))]) [0, 1, 2, 3, 4, 5, 6, 7, 8] rfl
                              have hD9 := hD.sub (ws' := [(o, .inr (11, [.ref aw, .ref (ab 0), .ref ai, .ref ak, .ref sc, .ref rd, .ref fo, .ref tx, .int ty, .ref ar, .ref at_, .ref ao])), (aw, .inl (cw, 6, .inr (.inr (.inr (.inr (tz_w w0 w1 w2 w3 w4 w5)))))), (w0, .inr (4, [])), (w1, .inr (1, [])), (w2, .inr (10, [])), (w3, .inr (3, [])), (w4, .inr (9, [])), (w5, .inr (8, [])), (ar, .inl (cr, 3, .inl fr))]) [0, 1, 2, 3, 4, 5, 6, 7, 8] (by decide) rfl
                              have hK9 := hK.sub (tys' := [(cw, (.object "ThriceCounted$Ones")), (cr, .int)]) [0, 1] rfl
                              exact W.iret (v := rr) hx hb hr (fun t ht hW => ⟨⟨rr, (), rfl, (by unfold dS; rw [en, es]; exact er.trans ((if_pos hc_5).trans ((if_pos hc_9).trans ((if_pos hc_13).trans ((if_pos hc_17).trans ((if_pos hc_21).trans (if_pos c_65)))))).symm), fr, by rw [ht]; exact hP9, va_K.moved hW.alike hK9, hD9⟩, hS.F ht⟩) hS.2.2 dX11_drawn_187
                          · exact absurd (by rw [ek]; exact nI_le (Nat.le_refl nn) (by omega)) c_64
                        · rintro ii ⟨xx, rr, le, gr, kk, ls⟩ hi ⟨ex, er, el, eg, ek, hl⟩ ih
                          dsimp only at ex er el eg ek hl ⊢
                          refine lv_iload hx hb dX11_drawn_74 (lv_at hl 0 rfl) ?_
                          refine lv_iload_n hx hb dX11_drawn_76 rfl (lv_at hl 8 rfl) ?_
                          refine lv_icmp_ge (tgt := 180) hx hb dX11_drawn_77 (by decide) (fun c_67 => ?_) (fun c_67 => ?_)
                          · exact absurd c_67 (by rw [ek]; exact nI_ge hi (by omega))
                          · refine lv_lload hx hb dX11_drawn_80 (lv_at hl 4 rfl) ?_
                            refine lv_ldc2 hx hb hown (hts (.constantLong RX11 255 (1103515245)) (by decide +kernel)) dX11_drawn_82 ?_
                            refine lv_lmul hx hb dX11_drawn_85 ?_
                            refine lv_ldc2 hx hb hown (hts (.constantLong RX11 257 (12345)) (by decide +kernel)) dX11_drawn_86 ?_
                            refine lv_ladd hx hb dX11_drawn_89 ?_
                            refine lv_ldc2 hx hb hown (hts (.constantLong RX11 259 (2147483648)) (by decide +kernel)) dX11_drawn_90 ?_
                            refine lv_lrem hx hb dX11_drawn_93 (by decide) ?_
                            refine tz_l (lN (dX sn (ii + 1))) (by rw [ex]; exact tz_dx (hdx ii)) ?_
                            refine lv_lstore (lv' := [(6, .long (lN (dX sn (ii + 1)))), (11, .int kk), (10, .int gr), (9, .int le), (8, .int rr), (0, .ref o), (1, .int 3), (2, .int nb), (3, .int (nI nn)), (4, .int (nI sn)), (5, .int ne)]) hx hb dX11_drawn_94 hl (by decide) rfl (fun ls hl => ?_)
                            refine lv_iload_n hx hb dX11_drawn_96 rfl (lv_at hl 7 rfl) ?_
                            refine lv_aload_n hx hb dX11_drawn_97 rfl (lv_at hl 5 rfl) ?_
                            refine va_get (D := (dC, dI)) (ci := 11) (v := .ref aw) (C := RX11) (T := TX11) (N := 12) hx hb hts iw_x_drawnF_X11 hown hK hP 0 rfl rfl 0 (by decide) (hts (.fieldLink RX11 25 "ThriceCounted" "ways" "[LThriceCounted$Ones;") (by decide +kernel)) (fun _ h9 => h9) rfl dX11_drawn_98 ?_
                            refine lv_iload_n hx hb dX11_drawn_101 rfl (lv_at hl 6 rfl) ?_
                            refine va_aldq hx hb hK hP 1 0 rfl rfl (show ¬ ((3 : Int32) < 0 ∨ 6 ≤ (3 : Int32).toNatClampNeg) by decide) dX11_drawn_102 ?_
                            refine tz_v (.ref w3) rfl ?_
                            refine lv_lload hx hb dX11_drawn_103 (lv_at hl 0 rfl) ?_
                            refine lv_ldc2 hx hb hown (hts (.constantLong RX11 261 (65536)) (by decide +kernel)) dX11_drawn_105 ?_
                            refine lv_ldiv hx hb dX11_drawn_108 (by decide) ?_
                            refine lv_ldc2 hx hb hown (hts (.constantLong RX11 263 (20)) (by decide +kernel)) dX11_drawn_109 ?_
                            refine lv_lrem hx hb dX11_drawn_112 (by decide) ?_
                            refine lv_l2i (v := (((lN (dX sn (ii + 1))) / 65536) - ((lN (dX sn (ii + 1))) / 65536) / 20 * 20).toInt32) hx hb dX11_drawn_113 rfl ?_
                            refine tz_i (nI (dX sn (ii + 1) / 65536 % 20)) (tz_di (hdx (ii + 1))) ?_
                            have hPc_68 := hP.sub (ws' := [(w3, .inr (3, []))]) [5] rfl
                            have hKc_69 := hK.sub (tys' := []) [] rfl
                            refine vp_callSi (va_Run.run (va_runU (C := RX3) (As := [.int (nI (dX sn (ii + 1) / 65536 % 20))]) (rest := [.int nb]) ⟨hx, hb, hml, hown, hts⟩ (k_slip_X3 l dC dI w3 (nI (dX sn (ii + 1) / 65536 % 20))) (va_cwO 1 hts gX11_drawn_X3_slip_u175X3 rfl rfl rfl (b0 := cX4_slip) (m0 := 2) (r0 := (some .int)) (by decide +kernel) (by decide +kernel) ⟨Nat.le_of_ble_eq_true rfl, Nat.le_of_ble_eq_true rfl⟩) ⟨fun a U g mk q => by obtain ⟨q0, qP, qK⟩ := q; exact ⟨q0, qP, va_K.moved (u := U) (U := U.calling g mk a) (Vm.Alike.refl U.vm) qK⟩, va_recv hK hP (ci := 3) (q0 := 5) rfl rfl, fun U hU hW => ⟨rfl, by rw [hU]; exact hPc_68, va_K.moved hW.alike hKc_69⟩⟩ rfl rfl hl.1 rfl (lv_room (Nat.le_of_ble_eq_true rfl)) dX11_drawn_114 ⟨Nat.le_of_ble_eq_true rfl, Nat.le_of_ble_eq_true rfl⟩)) (fun r_70 hw_71 => ?_)
                            obtain rfl : (zH (nI (dX sn (ii + 1) / 65536 % 20))) = r_70 := hw_71.symm
                            refine lv_iadd hx hb dX11_drawn_117 ?_
                            refine tz_i (dT zH nb sn ii) rfl ?_
                            refine lv_istore (lv' := [(12, .int (dT zH nb sn ii)), (6, .long (lN (dX sn (ii + 1)))), (11, .int kk), (10, .int gr), (9, .int le), (8, .int rr), (0, .ref o), (1, .int 3), (2, .int nb), (3, .int (nI nn)), (4, .int (nI sn)), (5, .int ne)]) hx hb dX11_drawn_118 hl (by decide) rfl (fun ls hl => ?_)
                            refine lv_iload hx hb dX11_drawn_120 (lv_at hl 5 rfl) ?_
                            refine lv_iload hx hb dX11_drawn_122 (lv_at hl 0 rfl) ?_
                            refine lv_iload_n hx hb dX11_drawn_124 rfl (lv_at hl 8 rfl) ?_
                            refine lv_icmp_ne (tgt := 132) hx hb dX11_drawn_125 (by decide) (fun c_72 => ?_) (fun c_72 => ?_)
                            · refine lv_iconst (v := 0) hx hb dX11_drawn_132 (by decide) ?_
                              refine lv_iadd hx hb dX11_drawn_133 ?_
                              refine lv_istore (lv' := [(8, .int (rr + 0)), (12, .int (dT zH nb sn ii)), (6, .long (lN (dX sn (ii + 1)))), (11, .int kk), (10, .int gr), (9, .int le), (0, .ref o), (1, .int 3), (2, .int nb), (3, .int (nI nn)), (4, .int (nI sn)), (5, .int ne)]) hx hb dX11_drawn_134 hl (by decide) rfl (fun ls hl => ?_)
                              refine lv_iload hx hb dX11_drawn_136 (lv_at hl 3 rfl) ?_
                              refine lv_if_ne (tgt := 146) hx hb dX11_drawn_138 (by decide) (fun c_73 => ?_) (fun c_73 => ?_)
                              · refine lv_iload hx hb dX11_drawn_146 (lv_at hl 5 rfl) ?_
                                refine lv_iload hx hb dX11_drawn_148 (lv_at hl 1 rfl) ?_
                                refine va_mmin hx hb (hml.trans hl.1.symm) hown (hts (.methodLink RX11 265 Lib.Math.min.name) (by decide +kernel)) (hts (.static Lib.Math.min.name) (by decide +kernel)) (hts (.initialized "java/lang/Math") (by decide +kernel)) (hts (.code Lib.Math.min.name Lib.Math.min.code 2 (some .int)) (by decide +kernel)) (Nat.le_of_ble_eq_true rfl) (Nat.le_of_ble_eq_true rfl) (Nat.le_of_ble_eq_true rfl) (Nat.le_of_ble_eq_true rfl) dX11_drawn_150 ?_
                                refine lv_istore (lv' := [(9, .int (if (dT zH nb sn ii) < le then (dT zH nb sn ii) else le)), (8, .int (rr + 0)), (12, .int (dT zH nb sn ii)), (6, .long (lN (dX sn (ii + 1)))), (11, .int kk), (10, .int gr), (0, .ref o), (1, .int 3), (2, .int nb), (3, .int (nI nn)), (4, .int (nI sn)), (5, .int ne)]) hx hb dX11_drawn_153 hl (by decide) rfl (fun ls hl => ?_)
                                refine lv_iload hx hb dX11_drawn_155 (lv_at hl 4 rfl) ?_
                                refine lv_if_ne (tgt := 165) hx hb dX11_drawn_157 (by decide) (fun c_74 => ?_) (fun c_74 => ?_)
                                · refine lv_iload hx hb dX11_drawn_165 (lv_at hl 5 rfl) ?_
                                  refine lv_iload hx hb dX11_drawn_167 (lv_at hl 2 rfl) ?_
                                  refine va_mmax hx hb (hml.trans hl.1.symm) hown (hts (.methodLink RX11 268 Lib.Math.max.name) (by decide +kernel)) (hts (.static Lib.Math.max.name) (by decide +kernel)) (hts (.initialized "java/lang/Math") (by decide +kernel)) (hts (.code Lib.Math.max.name Lib.Math.max.code 2 (some .int)) (by decide +kernel)) (Nat.le_of_ble_eq_true rfl) (Nat.le_of_ble_eq_true rfl) (Nat.le_of_ble_eq_true rfl) (Nat.le_of_ble_eq_true rfl) dX11_drawn_169 ?_
                                  refine lv_istore (lv' := [(10, .int (if gr < (dT zH nb sn ii) then (dT zH nb sn ii) else gr)), (9, .int (if (dT zH nb sn ii) < le then (dT zH nb sn ii) else le)), (8, .int (rr + 0)), (12, .int (dT zH nb sn ii)), (6, .long (lN (dX sn (ii + 1)))), (11, .int kk), (0, .ref o), (1, .int 3), (2, .int nb), (3, .int (nI nn)), (4, .int (nI sn)), (5, .int ne)]) hx hb dX11_drawn_172 hl (by decide) rfl (fun ls hl => ?_)
                                  refine lv_iinc (v := (kk + 1)) (lv' := [(11, .int (kk + 1)), (10, .int (if gr < (dT zH nb sn ii) then (dT zH nb sn ii) else gr)), (9, .int (if (dT zH nb sn ii) < le then (dT zH nb sn ii) else le)), (8, .int (rr + 0)), (12, .int (dT zH nb sn ii)), (6, .long (lN (dX sn (ii + 1)))), (0, .ref o), (1, .int 3), (2, .int nb), (3, .int (nI nn)), (4, .int (nI sn)), (5, .int ne)]) hx hb dX11_drawn_174 hl (k := 5) rfl rfl (by decide) rfl (fun ls hl => ?_)
                                  refine lv_goto (tgt := 74) hx hb dX11_drawn_177 (by decide) ?_
                                  exact ih ((lN (dX sn (ii + 1))), (rr + 0), (if (dT zH nb sn ii) < le then (dT zH nb sn ii) else le), (if gr < (dT zH nb sn ii) then (dT zH nb sn ii) else gr), kk + 1, ls) ⟨rfl, by rw [dR, if_neg c_72, ← er, Int32.add_zero], by rw [dL, if_neg (show ¬ ii = 0 from fun z => c_73 (by rw [ek, z]; rfl)), ← el], by rw [dG, if_neg (show ¬ ii = 0 from fun z => c_73 (by rw [ek, z]; rfl)), ← eg], by rw [ek]; exact nI_1 ii, lv_sub hl [0, 1, 2, 3, 5, 6, 7, 8, 9, 10, 11] rfl⟩
                                · exact absurd c_74 c_73
                              · refine lv_iload hx hb dX11_drawn_141 (lv_at hl 1 rfl) ?_
                                refine lv_goto (tgt := 153) hx hb dX11_drawn_143 (by decide) ?_
                                refine lv_istore (lv' := [(9, .int (dT zH nb sn ii)), (8, .int (rr + 0)), (12, .int (dT zH nb sn ii)), (6, .long (lN (dX sn (ii + 1)))), (11, .int kk), (10, .int gr), (0, .ref o), (1, .int 3), (2, .int nb), (3, .int (nI nn)), (4, .int (nI sn)), (5, .int ne)]) hx hb dX11_drawn_153 hl (by decide) rfl (fun ls hl => ?_)
                                refine lv_iload hx hb dX11_drawn_155 (lv_at hl 4 rfl) ?_
                                refine lv_if_ne (tgt := 165) hx hb dX11_drawn_157 (by decide) (fun c_75 => ?_) (fun c_75 => ?_)
                                · exact absurd c_73 c_75
                                · refine lv_iload hx hb dX11_drawn_160 (lv_at hl 2 rfl) ?_
                                  refine lv_goto (tgt := 172) hx hb dX11_drawn_162 (by decide) ?_
                                  refine lv_istore (lv' := [(10, .int (dT zH nb sn ii)), (9, .int (dT zH nb sn ii)), (8, .int (rr + 0)), (12, .int (dT zH nb sn ii)), (6, .long (lN (dX sn (ii + 1)))), (11, .int kk), (0, .ref o), (1, .int 3), (2, .int nb), (3, .int (nI nn)), (4, .int (nI sn)), (5, .int ne)]) hx hb dX11_drawn_172 hl (by decide) rfl (fun ls hl => ?_)
                                  refine lv_iinc (v := (kk + 1)) (lv' := [(11, .int (kk + 1)), (10, .int (dT zH nb sn ii)), (9, .int (dT zH nb sn ii)), (8, .int (rr + 0)), (12, .int (dT zH nb sn ii)), (6, .long (lN (dX sn (ii + 1)))), (0, .ref o), (1, .int 3), (2, .int nb), (3, .int (nI nn)), (4, .int (nI sn)), (5, .int ne)]) hx hb dX11_drawn_174 hl (k := 5) rfl rfl (by decide) rfl (fun ls hl => ?_)
                                  refine lv_goto (tgt := 74) hx hb dX11_drawn_177 (by decide) ?_
                                  exact ih ((lN (dX sn (ii + 1))), (rr + 0), (dT zH nb sn ii), (dT zH nb sn ii), kk + 1, ls) ⟨rfl, by rw [dR, if_neg c_72, ← er, Int32.add_zero], by rw [dL, if_pos (show ii = 0 from tz_n0 (by omega) (ek ▸ c_73))], by rw [dG, if_pos (show ii = 0 from tz_n0 (by omega) (ek ▸ c_73))], by rw [ek]; exact nI_1 ii, lv_sub hl [0, 1, 2, 3, 5, 6, 7, 8, 9, 10, 11] rfl⟩
                            · refine lv_iconst (v := 1) hx hb dX11_drawn_128 (by decide) ?_
                              refine lv_goto (tgt := 133) hx hb dX11_drawn_129 (by decide) ?_
                              refine lv_iadd hx hb dX11_drawn_133 ?_
                              refine lv_istore (lv' := [(8, .int (rr + 1)), (12, .int (dT zH nb sn ii)), (6, .long (lN (dX sn (ii + 1)))), (11, .int kk), (10, .int gr), (9, .int le), (0, .ref o), (1, .int 3), (2, .int nb), (3, .int (nI nn)), (4, .int (nI sn)), (5, .int ne)]) hx hb dX11_drawn_134 hl (by decide) rfl (fun ls hl => ?_)
                              refine lv_iload hx hb dX11_drawn_136 (lv_at hl 3 rfl) ?_
                              refine lv_if_ne (tgt := 146) hx hb dX11_drawn_138 (by decide) (fun c_76 => ?_) (fun c_76 => ?_)
                              · refine lv_iload hx hb dX11_drawn_146 (lv_at hl 5 rfl) ?_
                                refine lv_iload hx hb dX11_drawn_148 (lv_at hl 1 rfl) ?_
                                refine va_mmin hx hb (hml.trans hl.1.symm) hown (hts (.methodLink RX11 265 Lib.Math.min.name) (by decide +kernel)) (hts (.static Lib.Math.min.name) (by decide +kernel)) (hts (.initialized "java/lang/Math") (by decide +kernel)) (hts (.code Lib.Math.min.name Lib.Math.min.code 2 (some .int)) (by decide +kernel)) (Nat.le_of_ble_eq_true rfl) (Nat.le_of_ble_eq_true rfl) (Nat.le_of_ble_eq_true rfl) (Nat.le_of_ble_eq_true rfl) dX11_drawn_150 ?_
                                refine lv_istore (lv' := [(9, .int (if (dT zH nb sn ii) < le then (dT zH nb sn ii) else le)), (8, .int (rr + 1)), (12, .int (dT zH nb sn ii)), (6, .long (lN (dX sn (ii + 1)))), (11, .int kk), (10, .int gr), (0, .ref o), (1, .int 3), (2, .int nb), (3, .int (nI nn)), (4, .int (nI sn)), (5, .int ne)]) hx hb dX11_drawn_153 hl (by decide) rfl (fun ls hl => ?_)
                                refine lv_iload hx hb dX11_drawn_155 (lv_at hl 4 rfl) ?_
                                refine lv_if_ne (tgt := 165) hx hb dX11_drawn_157 (by decide) (fun c_77 => ?_) (fun c_77 => ?_)
                                · refine lv_iload hx hb dX11_drawn_165 (lv_at hl 5 rfl) ?_
                                  refine lv_iload hx hb dX11_drawn_167 (lv_at hl 2 rfl) ?_
                                  refine va_mmax hx hb (hml.trans hl.1.symm) hown (hts (.methodLink RX11 268 Lib.Math.max.name) (by decide +kernel)) (hts (.static Lib.Math.max.name) (by decide +kernel)) (hts (.initialized "java/lang/Math") (by decide +kernel)) (hts (.code Lib.Math.max.name Lib.Math.max.code 2 (some .int)) (by decide +kernel)) (Nat.le_of_ble_eq_true rfl) (Nat.le_of_ble_eq_true rfl) (Nat.le_of_ble_eq_true rfl) (Nat.le_of_ble_eq_true rfl) dX11_drawn_169 ?_
                                  refine lv_istore (lv' := [(10, .int (if gr < (dT zH nb sn ii) then (dT zH nb sn ii) else gr)), (9, .int (if (dT zH nb sn ii) < le then (dT zH nb sn ii) else le)), (8, .int (rr + 1)), (12, .int (dT zH nb sn ii)), (6, .long (lN (dX sn (ii + 1)))), (11, .int kk), (0, .ref o), (1, .int 3), (2, .int nb), (3, .int (nI nn)), (4, .int (nI sn)), (5, .int ne)]) hx hb dX11_drawn_172 hl (by decide) rfl (fun ls hl => ?_)
                                  refine lv_iinc (v := (kk + 1)) (lv' := [(11, .int (kk + 1)), (10, .int (if gr < (dT zH nb sn ii) then (dT zH nb sn ii) else gr)), (9, .int (if (dT zH nb sn ii) < le then (dT zH nb sn ii) else le)), (8, .int (rr + 1)), (12, .int (dT zH nb sn ii)), (6, .long (lN (dX sn (ii + 1)))), (0, .ref o), (1, .int 3), (2, .int nb), (3, .int (nI nn)), (4, .int (nI sn)), (5, .int ne)]) hx hb dX11_drawn_174 hl (k := 5) rfl rfl (by decide) rfl (fun ls hl => ?_)
                                  refine lv_goto (tgt := 74) hx hb dX11_drawn_177 (by decide) ?_
                                  exact ih ((lN (dX sn (ii + 1))), (rr + 1), (if (dT zH nb sn ii) < le then (dT zH nb sn ii) else le), (if gr < (dT zH nb sn ii) then (dT zH nb sn ii) else gr), kk + 1, ls) ⟨rfl, by rw [dR, if_pos c_72, ← er], by rw [dL, if_neg (show ¬ ii = 0 from fun z => c_76 (by rw [ek, z]; rfl)), ← el], by rw [dG, if_neg (show ¬ ii = 0 from fun z => c_76 (by rw [ek, z]; rfl)), ← eg], by rw [ek]; exact nI_1 ii, lv_sub hl [0, 1, 2, 3, 5, 6, 7, 8, 9, 10, 11] rfl⟩
                                · exact absurd c_77 c_76
                              · refine lv_iload hx hb dX11_drawn_141 (lv_at hl 1 rfl) ?_
                                refine lv_goto (tgt := 153) hx hb dX11_drawn_143 (by decide) ?_
                                refine lv_istore (lv' := [(9, .int (dT zH nb sn ii)), (8, .int (rr + 1)), (12, .int (dT zH nb sn ii)), (6, .long (lN (dX sn (ii + 1)))), (11, .int kk), (10, .int gr), (0, .ref o), (1, .int 3), (2, .int nb), (3, .int (nI nn)), (4, .int (nI sn)), (5, .int ne)]) hx hb dX11_drawn_153 hl (by decide) rfl (fun ls hl => ?_)
                                refine lv_iload hx hb dX11_drawn_155 (lv_at hl 4 rfl) ?_
                                refine lv_if_ne (tgt := 165) hx hb dX11_drawn_157 (by decide) (fun c_78 => ?_) (fun c_78 => ?_)
                                · exact absurd c_76 c_78
                                · refine lv_iload hx hb dX11_drawn_160 (lv_at hl 2 rfl) ?_
                                  refine lv_goto (tgt := 172) hx hb dX11_drawn_162 (by decide) ?_
                                  refine lv_istore (lv' := [(10, .int (dT zH nb sn ii)), (9, .int (dT zH nb sn ii)), (8, .int (rr + 1)), (12, .int (dT zH nb sn ii)), (6, .long (lN (dX sn (ii + 1)))), (11, .int kk), (0, .ref o), (1, .int 3), (2, .int nb), (3, .int (nI nn)), (4, .int (nI sn)), (5, .int ne)]) hx hb dX11_drawn_172 hl (by decide) rfl (fun ls hl => ?_)
                                  refine lv_iinc (v := (kk + 1)) (lv' := [(11, .int (kk + 1)), (10, .int (dT zH nb sn ii)), (9, .int (dT zH nb sn ii)), (8, .int (rr + 1)), (12, .int (dT zH nb sn ii)), (6, .long (lN (dX sn (ii + 1)))), (0, .ref o), (1, .int 3), (2, .int nb), (3, .int (nI nn)), (4, .int (nI sn)), (5, .int ne)]) hx hb dX11_drawn_174 hl (k := 5) rfl rfl (by decide) rfl (fun ls hl => ?_)
                                  refine lv_goto (tgt := 74) hx hb dX11_drawn_177 (by decide) ?_
                                  exact ih ((lN (dX sn (ii + 1))), (rr + 1), (dT zH nb sn ii), (dT zH nb sn ii), kk + 1, ls) ⟨rfl, by rw [dR, if_pos c_72, ← er], by rw [dL, if_pos (show ii = 0 from tz_n0 (by omega) (ek ▸ c_76))], by rw [dG, if_pos (show ii = 0 from tz_n0 (by omega) (ek ▸ c_76))], by rw [ek]; exact nI_1 ii, lv_sub hl [0, 1, 2, 3, 5, 6, 7, 8, 9, 10, 11] rfl⟩
                      · refine lv_iload hx hb dX11_drawn_57 (lv_at hl 4 rfl) ?_
                        refine lv_i2l (v := (nI sn).toInt64) hx hb dX11_drawn_59 rfl ?_
                        refine tz_l (lN sn) (nI_l (by omega)) ?_
                        refine lv_lstore (lv' := [(6, .long (lN sn)), (0, .ref o), (1, .int 4), (2, .int nb), (3, .int (nI nn)), (4, .int (nI sn)), (5, .int ne)]) hx hb dX11_drawn_60 hl (by decide) rfl (fun ls hl => ?_)
                        refine lv_iconst (v := 0) hx hb dX11_drawn_62 (by decide) ?_
                        refine lv_istore (lv' := [(8, .int 0), (6, .long (lN sn)), (0, .ref o), (1, .int 4), (2, .int nb), (3, .int (nI nn)), (4, .int (nI sn)), (5, .int ne)]) hx hb dX11_drawn_63 hl (by decide) rfl (fun ls hl => ?_)
                        refine lv_iconst (v := (-1)) hx hb dX11_drawn_65 (by decide) ?_
                        refine lv_istore (lv' := [(9, .int (-1)), (8, .int 0), (6, .long (lN sn)), (0, .ref o), (1, .int 4), (2, .int nb), (3, .int (nI nn)), (4, .int (nI sn)), (5, .int ne)]) hx hb dX11_drawn_66 hl (by decide) rfl (fun ls hl => ?_)
                        refine lv_iconst (v := (-1)) hx hb dX11_drawn_68 (by decide) ?_
                        refine lv_istore (lv' := [(10, .int (-1)), (9, .int (-1)), (8, .int 0), (6, .long (lN sn)), (0, .ref o), (1, .int 4), (2, .int nb), (3, .int (nI nn)), (4, .int (nI sn)), (5, .int ne)]) hx hb dX11_drawn_69 hl (by decide) rfl (fun ls hl => ?_)
                        refine lv_iconst (v := 0) hx hb dX11_drawn_71 (by decide) ?_
                        refine lv_istore (lv' := [(11, .int 0), (10, .int (-1)), (9, .int (-1)), (8, .int 0), (6, .long (lN sn)), (0, .ref o), (1, .int 4), (2, .int nb), (3, .int (nI nn)), (4, .int (nI sn)), (5, .int ne)]) hx hb dX11_drawn_72 hl (by decide) rfl (fun ls hl => ?_)
                        refine tz_for (σ := Int64 × Int32 × Int32 × Int32 × Int32 × Array Slot) (fun x => W p l e _ s m _ below meth c _ _ _ _ _ (F0 m 74 x.2.2.2.2.2 [])) (fun i x => x.1 = lN (dX sn i) ∧ x.2.1 = dR nb (dT zT nb sn) i ∧ x.2.2.1 = dL (dT zT nb sn) i ∧ x.2.2.2.1 = dG (dT zT nb sn) i ∧ x.2.2.2.2.1 = nI i ∧ lv_has x.2.2.2.2.2 13 [(11, .int x.2.2.2.2.1), (10, .int x.2.2.2.1), (9, .int x.2.2.1), (8, .int x.2.1), (6, .long x.1), (0, .ref o), (1, .int 4), (2, .int nb), (3, .int (nI nn)), (4, .int (nI sn)), (5, .int ne)]) nn ?_ ?_ (lN sn, 0, -1, -1, 0, ls) ⟨rfl, rfl, rfl, rfl, rfl, lv_sub hl [0, 1, 2, 3, 4, 5, 6, 7, 8, 9, 10] rfl⟩
                        · rintro ⟨xx, rr, le, gr, kk, ls⟩ ⟨ex, er, el, eg, ek, hl⟩
                          dsimp only at ex er el eg ek hl ⊢
                          refine lv_iload hx hb dX11_drawn_74 (lv_at hl 0 rfl) ?_
                          refine lv_iload_n hx hb dX11_drawn_76 rfl (lv_at hl 8 rfl) ?_
                          refine lv_icmp_ge (tgt := 180) hx hb dX11_drawn_77 (by decide) (fun c_79 => ?_) (fun c_79 => ?_)
                          · refine lv_iload hx hb dX11_drawn_180 (lv_at hl 10 rfl) ?_
                            refine lv_if_ne (tgt := 188) hx hb dX11_drawn_182 (by decide) (fun c_80 => ?_) (fun c_80 => ?_)
                            · refine lv_iload hx hb dX11_drawn_188 (lv_at hl 10 rfl) ?_
                              refine lv_iconst (v := 1) hx hb dX11_drawn_190 (by decide) ?_
                              refine lv_icmp_ne (tgt := 199) hx hb dX11_drawn_191 (by decide) (fun c_81 => ?_) (fun c_81 => ?_)
                              · refine lv_iload hx hb dX11_drawn_199 (lv_at hl 1 rfl) ?_
                                have hP9 := hP.sub (ws' := [(o, .inr (11, [.ref aw, .ref (ab 0), .ref ai, .ref ak, .ref sc, .ref rd, .ref fo, .ref tx, .int ty, .ref ar, .ref at_, .ref ao])), (aw, .inl (cw, 6, .inr (.inr (.inr (.inr (tz_w w0 w1 w2 w3 w4 w5)))))), (w0, .inr (4, [])), (w1, .inr (1, [])), (w2, .inr (10, [])), (w3, .inr (3, [])), (w4, .inr (9, [])), (w5, .inr (8, [])), (ar, .inl (cr, 3, .inl fr))]) [0, 1, 2, 3, 4, 5, 6, 7, 8] rfl
                                have hD9 := hD.sub (ws' := [(o, .inr (11, [.ref aw, .ref (ab 0), .ref ai, .ref ak, .ref sc, .ref rd, .ref fo, .ref tx, .int ty, .ref ar, .ref at_, .ref ao])), (aw, .inl (cw, 6, .inr (.inr (.inr (.inr (tz_w w0 w1 w2 w3 w4 w5)))))), (w0, .inr (4, [])), (w1, .inr (1, [])), (w2, .inr (10, [])), (w3, .inr (3, [])), (w4, .inr (9, [])), (w5, .inr (8, [])), (ar, .inl (cr, 3, .inl fr))]) [0, 1, 2, 3, 4, 5, 6, 7, 8] (by decide) rfl
                                have hK9 := hK.sub (tys' := [(cw, (.object "ThriceCounted$Ones")), (cr, .int)]) [0, 1] rfl
                                exact W.iret (v := gr) hx hb hr (fun t ht hW => ⟨⟨gr, (), rfl, (by unfold dS; rw [en, es]; exact eg.trans ((if_pos hc_5).trans ((if_pos hc_9).trans ((if_pos hc_13).trans ((if_pos hc_17).trans ((if_pos hc_21).trans ((if_neg c_80).trans (if_neg c_81))))))).symm), fr, by rw [ht]; exact hP9, va_K.moved hW.alike hK9, hD9⟩, hS.F ht⟩) hS.2.2 dX11_drawn_201
                              · refine lv_iload hx hb dX11_drawn_194 (lv_at hl 2 rfl) ?_
                                refine lv_goto (tgt := 201) hx hb dX11_drawn_196 (by decide) ?_
                                have hP9 := hP.sub (ws' := [(o, .inr (11, [.ref aw, .ref (ab 0), .ref ai, .ref ak, .ref sc, .ref rd, .ref fo, .ref tx, .int ty, .ref ar, .ref at_, .ref ao])), (aw, .inl (cw, 6, .inr (.inr (.inr (.inr (tz_w w0 w1 w2 w3 w4 w5)))))), (w0, .inr (4, [])), (w1, .inr (1, [])), (w2, .inr (10, [])), (w3, .inr (3, [])), (w4, .inr (9, [])), (w5, .inr (8, [])), (ar, .inl (cr, 3, .inl fr))]) [0, 1, 2, 3, 4, 5, 6, 7, 8] rfl
                                have hD9 := hD.sub (ws' := [(o, .inr (11, [.ref aw, .ref (ab 0), .ref ai, .ref ak, .ref sc, .ref rd, .ref fo, .ref tx, .int ty, .ref ar, .ref at_, .ref ao])), (aw, .inl (cw, 6, .inr (.inr (.inr (.inr (tz_w w0 w1 w2 w3 w4 w5)))))), (w0, .inr (4, [])), (w1, .inr (1, [])), (w2, .inr (10, [])), (w3, .inr (3, [])), (w4, .inr (9, [])), (w5, .inr (8, [])), (ar, .inl (cr, 3, .inl fr))]) [0, 1, 2, 3, 4, 5, 6, 7, 8] (by decide) rfl
                                have hK9 := hK.sub (tys' := [(cw, (.object "ThriceCounted$Ones")), (cr, .int)]) [0, 1] rfl
                                exact W.iret (v := le) hx hb hr (fun t ht hW => ⟨⟨le, (), rfl, (by unfold dS; rw [en, es]; exact el.trans ((if_pos hc_5).trans ((if_pos hc_9).trans ((if_pos hc_13).trans ((if_pos hc_17).trans ((if_pos hc_21).trans ((if_neg c_80).trans (if_pos c_81))))))).symm), fr, by rw [ht]; exact hP9, va_K.moved hW.alike hK9, hD9⟩, hS.F ht⟩) hS.2.2 dX11_drawn_201
                            · refine lv_iload hx hb dX11_drawn_185 (lv_at hl 3 rfl) ?_
                              have hP9 := hP.sub (ws' := [(o, .inr (11, [.ref aw, .ref (ab 0), .ref ai, .ref ak, .ref sc, .ref rd, .ref fo, .ref tx, .int ty, .ref ar, .ref at_, .ref ao])), (aw, .inl (cw, 6, .inr (.inr (.inr (.inr (tz_w w0 w1 w2 w3 w4 w5)))))), (w0, .inr (4, [])), (w1, .inr (1, [])), (w2, .inr (10, [])), (w3, .inr (3, [])), (w4, .inr (9, [])), (w5, .inr (8, [])), (ar, .inl (cr, 3, .inl fr))]) [0, 1, 2, 3, 4, 5, 6, 7, 8] rfl
                              have hD9 := hD.sub (ws' := [(o, .inr (11, [.ref aw, .ref (ab 0), .ref ai, .ref ak, .ref sc, .ref rd, .ref fo, .ref tx, .int ty, .ref ar, .ref at_, .ref ao])), (aw, .inl (cw, 6, .inr (.inr (.inr (.inr (tz_w w0 w1 w2 w3 w4 w5)))))), (w0, .inr (4, [])), (w1, .inr (1, [])), (w2, .inr (10, [])), (w3, .inr (3, [])), (w4, .inr (9, [])), (w5, .inr (8, [])), (ar, .inl (cr, 3, .inl fr))]) [0, 1, 2, 3, 4, 5, 6, 7, 8] (by decide) rfl
                              have hK9 := hK.sub (tys' := [(cw, (.object "ThriceCounted$Ones")), (cr, .int)]) [0, 1] rfl
                              exact W.iret (v := rr) hx hb hr (fun t ht hW => ⟨⟨rr, (), rfl, (by unfold dS; rw [en, es]; exact er.trans ((if_pos hc_5).trans ((if_pos hc_9).trans ((if_pos hc_13).trans ((if_pos hc_17).trans ((if_pos hc_21).trans (if_pos c_80)))))).symm), fr, by rw [ht]; exact hP9, va_K.moved hW.alike hK9, hD9⟩, hS.F ht⟩) hS.2.2 dX11_drawn_187
                          · exact absurd (by rw [ek]; exact nI_le (Nat.le_refl nn) (by omega)) c_79
                        · rintro ii ⟨xx, rr, le, gr, kk, ls⟩ hi ⟨ex, er, el, eg, ek, hl⟩ ih
                          dsimp only at ex er el eg ek hl ⊢
                          refine lv_iload hx hb dX11_drawn_74 (lv_at hl 0 rfl) ?_
                          refine lv_iload_n hx hb dX11_drawn_76 rfl (lv_at hl 8 rfl) ?_
                          refine lv_icmp_ge (tgt := 180) hx hb dX11_drawn_77 (by decide) (fun c_82 => ?_) (fun c_82 => ?_)
                          · exact absurd c_82 (by rw [ek]; exact nI_ge hi (by omega))
                          · refine lv_lload hx hb dX11_drawn_80 (lv_at hl 4 rfl) ?_
                            refine lv_ldc2 hx hb hown (hts (.constantLong RX11 255 (1103515245)) (by decide +kernel)) dX11_drawn_82 ?_
                            refine lv_lmul hx hb dX11_drawn_85 ?_
                            refine lv_ldc2 hx hb hown (hts (.constantLong RX11 257 (12345)) (by decide +kernel)) dX11_drawn_86 ?_
                            refine lv_ladd hx hb dX11_drawn_89 ?_
                            refine lv_ldc2 hx hb hown (hts (.constantLong RX11 259 (2147483648)) (by decide +kernel)) dX11_drawn_90 ?_
                            refine lv_lrem hx hb dX11_drawn_93 (by decide) ?_
                            refine tz_l (lN (dX sn (ii + 1))) (by rw [ex]; exact tz_dx (hdx ii)) ?_
                            refine lv_lstore (lv' := [(6, .long (lN (dX sn (ii + 1)))), (11, .int kk), (10, .int gr), (9, .int le), (8, .int rr), (0, .ref o), (1, .int 4), (2, .int nb), (3, .int (nI nn)), (4, .int (nI sn)), (5, .int ne)]) hx hb dX11_drawn_94 hl (by decide) rfl (fun ls hl => ?_)
                            refine lv_iload_n hx hb dX11_drawn_96 rfl (lv_at hl 7 rfl) ?_
                            refine lv_aload_n hx hb dX11_drawn_97 rfl (lv_at hl 5 rfl) ?_
                            refine va_get (D := (dC, dI)) (ci := 11) (v := .ref aw) (C := RX11) (T := TX11) (N := 12) hx hb hts iw_x_drawnF_X11 hown hK hP 0 rfl rfl 0 (by decide) (hts (.fieldLink RX11 25 "ThriceCounted" "ways" "[LThriceCounted$Ones;") (by decide +kernel)) (fun _ h9 => h9) rfl dX11_drawn_98 ?_
                            refine lv_iload_n hx hb dX11_drawn_101 rfl (lv_at hl 6 rfl) ?_
                            refine va_aldq hx hb hK hP 1 0 rfl rfl (show ¬ ((4 : Int32) < 0 ∨ 6 ≤ (4 : Int32).toNatClampNeg) by decide) dX11_drawn_102 ?_
                            refine tz_v (.ref w4) rfl ?_
                            refine lv_lload hx hb dX11_drawn_103 (lv_at hl 0 rfl) ?_
                            refine lv_ldc2 hx hb hown (hts (.constantLong RX11 261 (65536)) (by decide +kernel)) dX11_drawn_105 ?_
                            refine lv_ldiv hx hb dX11_drawn_108 (by decide) ?_
                            refine lv_ldc2 hx hb hown (hts (.constantLong RX11 263 (20)) (by decide +kernel)) dX11_drawn_109 ?_
                            refine lv_lrem hx hb dX11_drawn_112 (by decide) ?_
                            refine lv_l2i (v := (((lN (dX sn (ii + 1))) / 65536) - ((lN (dX sn (ii + 1))) / 65536) / 20 * 20).toInt32) hx hb dX11_drawn_113 rfl ?_
                            refine tz_i (nI (dX sn (ii + 1) / 65536 % 20)) (tz_di (hdx (ii + 1))) ?_
                            have hPc_83 := hP.sub (ws' := [(w4, .inr (9, []))]) [6] rfl
                            have hKc_84 := hK.sub (tys' := []) [] rfl
                            refine vp_callSi (va_Run.run (va_runU (C := RX9) (As := [.int (nI (dX sn (ii + 1) / 65536 % 20))]) (rest := [.int nb]) ⟨hx, hb, hml, hown, hts⟩ (k_slip_X9 l dC dI w4 (nI (dX sn (ii + 1) / 65536 % 20))) (va_cwO 1 hts gX11_drawn_X9_slip_u175X9 rfl rfl rfl (b0 := cX4_slip) (m0 := 2) (r0 := (some .int)) (by decide +kernel) (by decide +kernel) ⟨Nat.le_of_ble_eq_true rfl, Nat.le_of_ble_eq_true rfl⟩) ⟨fun a U g mk q => by obtain ⟨q0, qP, qK⟩ := q; exact ⟨q0, qP, va_K.moved (u := U) (U := U.calling g mk a) (Vm.Alike.refl U.vm) qK⟩, va_recv hK hP (ci := 9) (q0 := 6) rfl rfl, fun U hU hW => ⟨rfl, by rw [hU]; exact hPc_83, va_K.moved hW.alike hKc_84⟩⟩ rfl rfl hl.1 rfl (lv_room (Nat.le_of_ble_eq_true rfl)) dX11_drawn_114 ⟨Nat.le_of_ble_eq_true rfl, Nat.le_of_ble_eq_true rfl⟩)) (fun r_85 hw_86 => ?_)
                            obtain rfl : (zT (nI (dX sn (ii + 1) / 65536 % 20))) = r_85 := hw_86.symm
                            refine lv_iadd hx hb dX11_drawn_117 ?_
                            refine tz_i (dT zT nb sn ii) rfl ?_
                            refine lv_istore (lv' := [(12, .int (dT zT nb sn ii)), (6, .long (lN (dX sn (ii + 1)))), (11, .int kk), (10, .int gr), (9, .int le), (8, .int rr), (0, .ref o), (1, .int 4), (2, .int nb), (3, .int (nI nn)), (4, .int (nI sn)), (5, .int ne)]) hx hb dX11_drawn_118 hl (by decide) rfl (fun ls hl => ?_)
                            refine lv_iload hx hb dX11_drawn_120 (lv_at hl 5 rfl) ?_
                            refine lv_iload hx hb dX11_drawn_122 (lv_at hl 0 rfl) ?_
                            refine lv_iload_n hx hb dX11_drawn_124 rfl (lv_at hl 8 rfl) ?_
                            refine lv_icmp_ne (tgt := 132) hx hb dX11_drawn_125 (by decide) (fun c_87 => ?_) (fun c_87 => ?_)
                            · refine lv_iconst (v := 0) hx hb dX11_drawn_132 (by decide) ?_
                              refine lv_iadd hx hb dX11_drawn_133 ?_
                              refine lv_istore (lv' := [(8, .int (rr + 0)), (12, .int (dT zT nb sn ii)), (6, .long (lN (dX sn (ii + 1)))), (11, .int kk), (10, .int gr), (9, .int le), (0, .ref o), (1, .int 4), (2, .int nb), (3, .int (nI nn)), (4, .int (nI sn)), (5, .int ne)]) hx hb dX11_drawn_134 hl (by decide) rfl (fun ls hl => ?_)
                              refine lv_iload hx hb dX11_drawn_136 (lv_at hl 3 rfl) ?_
                              refine lv_if_ne (tgt := 146) hx hb dX11_drawn_138 (by decide) (fun c_88 => ?_) (fun c_88 => ?_)
                              · refine lv_iload hx hb dX11_drawn_146 (lv_at hl 5 rfl) ?_
                                refine lv_iload hx hb dX11_drawn_148 (lv_at hl 1 rfl) ?_
                                refine va_mmin hx hb (hml.trans hl.1.symm) hown (hts (.methodLink RX11 265 Lib.Math.min.name) (by decide +kernel)) (hts (.static Lib.Math.min.name) (by decide +kernel)) (hts (.initialized "java/lang/Math") (by decide +kernel)) (hts (.code Lib.Math.min.name Lib.Math.min.code 2 (some .int)) (by decide +kernel)) (Nat.le_of_ble_eq_true rfl) (Nat.le_of_ble_eq_true rfl) (Nat.le_of_ble_eq_true rfl) (Nat.le_of_ble_eq_true rfl) dX11_drawn_150 ?_
                                refine lv_istore (lv' := [(9, .int (if (dT zT nb sn ii) < le then (dT zT nb sn ii) else le)), (8, .int (rr + 0)), (12, .int (dT zT nb sn ii)), (6, .long (lN (dX sn (ii + 1)))), (11, .int kk), (10, .int gr), (0, .ref o), (1, .int 4), (2, .int nb), (3, .int (nI nn)), (4, .int (nI sn)), (5, .int ne)]) hx hb dX11_drawn_153 hl (by decide) rfl (fun ls hl => ?_)
                                refine lv_iload hx hb dX11_drawn_155 (lv_at hl 4 rfl) ?_
                                refine lv_if_ne (tgt := 165) hx hb dX11_drawn_157 (by decide) (fun c_89 => ?_) (fun c_89 => ?_)
                                · refine lv_iload hx hb dX11_drawn_165 (lv_at hl 5 rfl) ?_
                                  refine lv_iload hx hb dX11_drawn_167 (lv_at hl 2 rfl) ?_
                                  refine va_mmax hx hb (hml.trans hl.1.symm) hown (hts (.methodLink RX11 268 Lib.Math.max.name) (by decide +kernel)) (hts (.static Lib.Math.max.name) (by decide +kernel)) (hts (.initialized "java/lang/Math") (by decide +kernel)) (hts (.code Lib.Math.max.name Lib.Math.max.code 2 (some .int)) (by decide +kernel)) (Nat.le_of_ble_eq_true rfl) (Nat.le_of_ble_eq_true rfl) (Nat.le_of_ble_eq_true rfl) (Nat.le_of_ble_eq_true rfl) dX11_drawn_169 ?_
                                  refine lv_istore (lv' := [(10, .int (if gr < (dT zT nb sn ii) then (dT zT nb sn ii) else gr)), (9, .int (if (dT zT nb sn ii) < le then (dT zT nb sn ii) else le)), (8, .int (rr + 0)), (12, .int (dT zT nb sn ii)), (6, .long (lN (dX sn (ii + 1)))), (11, .int kk), (0, .ref o), (1, .int 4), (2, .int nb), (3, .int (nI nn)), (4, .int (nI sn)), (5, .int ne)]) hx hb dX11_drawn_172 hl (by decide) rfl (fun ls hl => ?_)
                                  refine lv_iinc (v := (kk + 1)) (lv' := [(11, .int (kk + 1)), (10, .int (if gr < (dT zT nb sn ii) then (dT zT nb sn ii) else gr)), (9, .int (if (dT zT nb sn ii) < le then (dT zT nb sn ii) else le)), (8, .int (rr + 0)), (12, .int (dT zT nb sn ii)), (6, .long (lN (dX sn (ii + 1)))), (0, .ref o), (1, .int 4), (2, .int nb), (3, .int (nI nn)), (4, .int (nI sn)), (5, .int ne)]) hx hb dX11_drawn_174 hl (k := 5) rfl rfl (by decide) rfl (fun ls hl => ?_)
                                  refine lv_goto (tgt := 74) hx hb dX11_drawn_177 (by decide) ?_
                                  exact ih ((lN (dX sn (ii + 1))), (rr + 0), (if (dT zT nb sn ii) < le then (dT zT nb sn ii) else le), (if gr < (dT zT nb sn ii) then (dT zT nb sn ii) else gr), kk + 1, ls) ⟨rfl, by rw [dR, if_neg c_87, ← er, Int32.add_zero], by rw [dL, if_neg (show ¬ ii = 0 from fun z => c_88 (by rw [ek, z]; rfl)), ← el], by rw [dG, if_neg (show ¬ ii = 0 from fun z => c_88 (by rw [ek, z]; rfl)), ← eg], by rw [ek]; exact nI_1 ii, lv_sub hl [0, 1, 2, 3, 5, 6, 7, 8, 9, 10, 11] rfl⟩
                                · exact absurd c_89 c_88
                              · refine lv_iload hx hb dX11_drawn_141 (lv_at hl 1 rfl) ?_
                                refine lv_goto (tgt := 153) hx hb dX11_drawn_143 (by decide) ?_
                                refine lv_istore (lv' := [(9, .int (dT zT nb sn ii)), (8, .int (rr + 0)), (12, .int (dT zT nb sn ii)), (6, .long (lN (dX sn (ii + 1)))), (11, .int kk), (10, .int gr), (0, .ref o), (1, .int 4), (2, .int nb), (3, .int (nI nn)), (4, .int (nI sn)), (5, .int ne)]) hx hb dX11_drawn_153 hl (by decide) rfl (fun ls hl => ?_)
                                refine lv_iload hx hb dX11_drawn_155 (lv_at hl 4 rfl) ?_
                                refine lv_if_ne (tgt := 165) hx hb dX11_drawn_157 (by decide) (fun c_90 => ?_) (fun c_90 => ?_)
                                · exact absurd c_88 c_90
                                · refine lv_iload hx hb dX11_drawn_160 (lv_at hl 2 rfl) ?_
                                  refine lv_goto (tgt := 172) hx hb dX11_drawn_162 (by decide) ?_
                                  refine lv_istore (lv' := [(10, .int (dT zT nb sn ii)), (9, .int (dT zT nb sn ii)), (8, .int (rr + 0)), (12, .int (dT zT nb sn ii)), (6, .long (lN (dX sn (ii + 1)))), (11, .int kk), (0, .ref o), (1, .int 4), (2, .int nb), (3, .int (nI nn)), (4, .int (nI sn)), (5, .int ne)]) hx hb dX11_drawn_172 hl (by decide) rfl (fun ls hl => ?_)
                                  refine lv_iinc (v := (kk + 1)) (lv' := [(11, .int (kk + 1)), (10, .int (dT zT nb sn ii)), (9, .int (dT zT nb sn ii)), (8, .int (rr + 0)), (12, .int (dT zT nb sn ii)), (6, .long (lN (dX sn (ii + 1)))), (0, .ref o), (1, .int 4), (2, .int nb), (3, .int (nI nn)), (4, .int (nI sn)), (5, .int ne)]) hx hb dX11_drawn_174 hl (k := 5) rfl rfl (by decide) rfl (fun ls hl => ?_)
                                  refine lv_goto (tgt := 74) hx hb dX11_drawn_177 (by decide) ?_
                                  exact ih ((lN (dX sn (ii + 1))), (rr + 0), (dT zT nb sn ii), (dT zT nb sn ii), kk + 1, ls) ⟨rfl, by rw [dR, if_neg c_87, ← er, Int32.add_zero], by rw [dL, if_pos (show ii = 0 from tz_n0 (by omega) (ek ▸ c_88))], by rw [dG, if_pos (show ii = 0 from tz_n0 (by omega) (ek ▸ c_88))], by rw [ek]; exact nI_1 ii, lv_sub hl [0, 1, 2, 3, 5, 6, 7, 8, 9, 10, 11] rfl⟩
                            · refine lv_iconst (v := 1) hx hb dX11_drawn_128 (by decide) ?_
                              refine lv_goto (tgt := 133) hx hb dX11_drawn_129 (by decide) ?_
                              refine lv_iadd hx hb dX11_drawn_133 ?_
                              refine lv_istore (lv' := [(8, .int (rr + 1)), (12, .int (dT zT nb sn ii)), (6, .long (lN (dX sn (ii + 1)))), (11, .int kk), (10, .int gr), (9, .int le), (0, .ref o), (1, .int 4), (2, .int nb), (3, .int (nI nn)), (4, .int (nI sn)), (5, .int ne)]) hx hb dX11_drawn_134 hl (by decide) rfl (fun ls hl => ?_)
                              refine lv_iload hx hb dX11_drawn_136 (lv_at hl 3 rfl) ?_
                              refine lv_if_ne (tgt := 146) hx hb dX11_drawn_138 (by decide) (fun c_91 => ?_) (fun c_91 => ?_)
                              · refine lv_iload hx hb dX11_drawn_146 (lv_at hl 5 rfl) ?_
                                refine lv_iload hx hb dX11_drawn_148 (lv_at hl 1 rfl) ?_
                                refine va_mmin hx hb (hml.trans hl.1.symm) hown (hts (.methodLink RX11 265 Lib.Math.min.name) (by decide +kernel)) (hts (.static Lib.Math.min.name) (by decide +kernel)) (hts (.initialized "java/lang/Math") (by decide +kernel)) (hts (.code Lib.Math.min.name Lib.Math.min.code 2 (some .int)) (by decide +kernel)) (Nat.le_of_ble_eq_true rfl) (Nat.le_of_ble_eq_true rfl) (Nat.le_of_ble_eq_true rfl) (Nat.le_of_ble_eq_true rfl) dX11_drawn_150 ?_
                                refine lv_istore (lv' := [(9, .int (if (dT zT nb sn ii) < le then (dT zT nb sn ii) else le)), (8, .int (rr + 1)), (12, .int (dT zT nb sn ii)), (6, .long (lN (dX sn (ii + 1)))), (11, .int kk), (10, .int gr), (0, .ref o), (1, .int 4), (2, .int nb), (3, .int (nI nn)), (4, .int (nI sn)), (5, .int ne)]) hx hb dX11_drawn_153 hl (by decide) rfl (fun ls hl => ?_)
                                refine lv_iload hx hb dX11_drawn_155 (lv_at hl 4 rfl) ?_
                                refine lv_if_ne (tgt := 165) hx hb dX11_drawn_157 (by decide) (fun c_92 => ?_) (fun c_92 => ?_)
                                · refine lv_iload hx hb dX11_drawn_165 (lv_at hl 5 rfl) ?_
                                  refine lv_iload hx hb dX11_drawn_167 (lv_at hl 2 rfl) ?_
                                  refine va_mmax hx hb (hml.trans hl.1.symm) hown (hts (.methodLink RX11 268 Lib.Math.max.name) (by decide +kernel)) (hts (.static Lib.Math.max.name) (by decide +kernel)) (hts (.initialized "java/lang/Math") (by decide +kernel)) (hts (.code Lib.Math.max.name Lib.Math.max.code 2 (some .int)) (by decide +kernel)) (Nat.le_of_ble_eq_true rfl) (Nat.le_of_ble_eq_true rfl) (Nat.le_of_ble_eq_true rfl) (Nat.le_of_ble_eq_true rfl) dX11_drawn_169 ?_
                                  refine lv_istore (lv' := [(10, .int (if gr < (dT zT nb sn ii) then (dT zT nb sn ii) else gr)), (9, .int (if (dT zT nb sn ii) < le then (dT zT nb sn ii) else le)), (8, .int (rr + 1)), (12, .int (dT zT nb sn ii)), (6, .long (lN (dX sn (ii + 1)))), (11, .int kk), (0, .ref o), (1, .int 4), (2, .int nb), (3, .int (nI nn)), (4, .int (nI sn)), (5, .int ne)]) hx hb dX11_drawn_172 hl (by decide) rfl (fun ls hl => ?_)
                                  refine lv_iinc (v := (kk + 1)) (lv' := [(11, .int (kk + 1)), (10, .int (if gr < (dT zT nb sn ii) then (dT zT nb sn ii) else gr)), (9, .int (if (dT zT nb sn ii) < le then (dT zT nb sn ii) else le)), (8, .int (rr + 1)), (12, .int (dT zT nb sn ii)), (6, .long (lN (dX sn (ii + 1)))), (0, .ref o), (1, .int 4), (2, .int nb), (3, .int (nI nn)), (4, .int (nI sn)), (5, .int ne)]) hx hb dX11_drawn_174 hl (k := 5) rfl rfl (by decide) rfl (fun ls hl => ?_)
                                  refine lv_goto (tgt := 74) hx hb dX11_drawn_177 (by decide) ?_
                                  exact ih ((lN (dX sn (ii + 1))), (rr + 1), (if (dT zT nb sn ii) < le then (dT zT nb sn ii) else le), (if gr < (dT zT nb sn ii) then (dT zT nb sn ii) else gr), kk + 1, ls) ⟨rfl, by rw [dR, if_pos c_87, ← er], by rw [dL, if_neg (show ¬ ii = 0 from fun z => c_91 (by rw [ek, z]; rfl)), ← el], by rw [dG, if_neg (show ¬ ii = 0 from fun z => c_91 (by rw [ek, z]; rfl)), ← eg], by rw [ek]; exact nI_1 ii, lv_sub hl [0, 1, 2, 3, 5, 6, 7, 8, 9, 10, 11] rfl⟩
                                · exact absurd c_92 c_91
                              · refine lv_iload hx hb dX11_drawn_141 (lv_at hl 1 rfl) ?_
                                refine lv_goto (tgt := 153) hx hb dX11_drawn_143 (by decide) ?_
                                refine lv_istore (lv' := [(9, .int (dT zT nb sn ii)), (8, .int (rr + 1)), (12, .int (dT zT nb sn ii)), (6, .long (lN (dX sn (ii + 1)))), (11, .int kk), (10, .int gr), (0, .ref o), (1, .int 4), (2, .int nb), (3, .int (nI nn)), (4, .int (nI sn)), (5, .int ne)]) hx hb dX11_drawn_153 hl (by decide) rfl (fun ls hl => ?_)
                                refine lv_iload hx hb dX11_drawn_155 (lv_at hl 4 rfl) ?_
                                refine lv_if_ne (tgt := 165) hx hb dX11_drawn_157 (by decide) (fun c_93 => ?_) (fun c_93 => ?_)
                                · exact absurd c_91 c_93
                                · refine lv_iload hx hb dX11_drawn_160 (lv_at hl 2 rfl) ?_
                                  refine lv_goto (tgt := 172) hx hb dX11_drawn_162 (by decide) ?_
                                  refine lv_istore (lv' := [(10, .int (dT zT nb sn ii)), (9, .int (dT zT nb sn ii)), (8, .int (rr + 1)), (12, .int (dT zT nb sn ii)), (6, .long (lN (dX sn (ii + 1)))), (11, .int kk), (0, .ref o), (1, .int 4), (2, .int nb), (3, .int (nI nn)), (4, .int (nI sn)), (5, .int ne)]) hx hb dX11_drawn_172 hl (by decide) rfl (fun ls hl => ?_)
                                  refine lv_iinc (v := (kk + 1)) (lv' := [(11, .int (kk + 1)), (10, .int (dT zT nb sn ii)), (9, .int (dT zT nb sn ii)), (8, .int (rr + 1)), (12, .int (dT zT nb sn ii)), (6, .long (lN (dX sn (ii + 1)))), (0, .ref o), (1, .int 4), (2, .int nb), (3, .int (nI nn)), (4, .int (nI sn)), (5, .int ne)]) hx hb dX11_drawn_174 hl (k := 5) rfl rfl (by decide) rfl (fun ls hl => ?_)
                                  refine lv_goto (tgt := 74) hx hb dX11_drawn_177 (by decide) ?_
                                  exact ih ((lN (dX sn (ii + 1))), (rr + 1), (dT zT nb sn ii), (dT zT nb sn ii), kk + 1, ls) ⟨rfl, by rw [dR, if_pos c_87, ← er], by rw [dL, if_pos (show ii = 0 from tz_n0 (by omega) (ek ▸ c_91))], by rw [dG, if_pos (show ii = 0 from tz_n0 (by omega) (ek ▸ c_91))], by rw [ek]; exact nI_1 ii, lv_sub hl [0, 1, 2, 3, 5, 6, 7, 8, 9, 10, 11] rfl⟩
                      · refine lv_iload hx hb dX11_drawn_57 (lv_at hl 4 rfl) ?_
                        refine lv_i2l (v := (nI sn).toInt64) hx hb dX11_drawn_59 rfl ?_
                        refine tz_l (lN sn) (nI_l (by omega)) ?_
                        refine lv_lstore (lv' := [(6, .long (lN sn)), (0, .ref o), (1, .int 5), (2, .int nb), (3, .int (nI nn)), (4, .int (nI sn)), (5, .int ne)]) hx hb dX11_drawn_60 hl (by decide) rfl (fun ls hl => ?_)
                        refine lv_iconst (v := 0) hx hb dX11_drawn_62 (by decide) ?_
                        refine lv_istore (lv' := [(8, .int 0), (6, .long (lN sn)), (0, .ref o), (1, .int 5), (2, .int nb), (3, .int (nI nn)), (4, .int (nI sn)), (5, .int ne)]) hx hb dX11_drawn_63 hl (by decide) rfl (fun ls hl => ?_)
                        refine lv_iconst (v := (-1)) hx hb dX11_drawn_65 (by decide) ?_
                        refine lv_istore (lv' := [(9, .int (-1)), (8, .int 0), (6, .long (lN sn)), (0, .ref o), (1, .int 5), (2, .int nb), (3, .int (nI nn)), (4, .int (nI sn)), (5, .int ne)]) hx hb dX11_drawn_66 hl (by decide) rfl (fun ls hl => ?_)
                        refine lv_iconst (v := (-1)) hx hb dX11_drawn_68 (by decide) ?_
                        refine lv_istore (lv' := [(10, .int (-1)), (9, .int (-1)), (8, .int 0), (6, .long (lN sn)), (0, .ref o), (1, .int 5), (2, .int nb), (3, .int (nI nn)), (4, .int (nI sn)), (5, .int ne)]) hx hb dX11_drawn_69 hl (by decide) rfl (fun ls hl => ?_)
                        refine lv_iconst (v := 0) hx hb dX11_drawn_71 (by decide) ?_
                        refine lv_istore (lv' := [(11, .int 0), (10, .int (-1)), (9, .int (-1)), (8, .int 0), (6, .long (lN sn)), (0, .ref o), (1, .int 5), (2, .int nb), (3, .int (nI nn)), (4, .int (nI sn)), (5, .int ne)]) hx hb dX11_drawn_72 hl (by decide) rfl (fun ls hl => ?_)
                        refine tz_for (σ := Int64 × Int32 × Int32 × Int32 × Int32 × Array Slot) (fun x => W p l e _ s m _ below meth c _ _ _ _ _ (F0 m 74 x.2.2.2.2.2 [])) (fun i x => x.1 = lN (dX sn i) ∧ x.2.1 = dR nb (dT zK nb sn) i ∧ x.2.2.1 = dL (dT zK nb sn) i ∧ x.2.2.2.1 = dG (dT zK nb sn) i ∧ x.2.2.2.2.1 = nI i ∧ lv_has x.2.2.2.2.2 13 [(11, .int x.2.2.2.2.1), (10, .int x.2.2.2.1), (9, .int x.2.2.1), (8, .int x.2.1), (6, .long x.1), (0, .ref o), (1, .int 5), (2, .int nb), (3, .int (nI nn)), (4, .int (nI sn)), (5, .int ne)]) nn ?_ ?_ (lN sn, 0, -1, -1, 0, ls) ⟨rfl, rfl, rfl, rfl, rfl, lv_sub hl [0, 1, 2, 3, 4, 5, 6, 7, 8, 9, 10] rfl⟩
                        · rintro ⟨xx, rr, le, gr, kk, ls⟩ ⟨ex, er, el, eg, ek, hl⟩
                          dsimp only at ex er el eg ek hl ⊢
                          refine lv_iload hx hb dX11_drawn_74 (lv_at hl 0 rfl) ?_
                          refine lv_iload_n hx hb dX11_drawn_76 rfl (lv_at hl 8 rfl) ?_
                          refine lv_icmp_ge (tgt := 180) hx hb dX11_drawn_77 (by decide) (fun c_94 => ?_) (fun c_94 => ?_)
                          · refine lv_iload hx hb dX11_drawn_180 (lv_at hl 10 rfl) ?_
                            refine lv_if_ne (tgt := 188) hx hb dX11_drawn_182 (by decide) (fun c_95 => ?_) (fun c_95 => ?_)
                            · refine lv_iload hx hb dX11_drawn_188 (lv_at hl 10 rfl) ?_
                              refine lv_iconst (v := 1) hx hb dX11_drawn_190 (by decide) ?_
                              refine lv_icmp_ne (tgt := 199) hx hb dX11_drawn_191 (by decide) (fun c_96 => ?_) (fun c_96 => ?_)
                              · refine lv_iload hx hb dX11_drawn_199 (lv_at hl 1 rfl) ?_
                                have hP9 := hP.sub (ws' := [(o, .inr (11, [.ref aw, .ref (ab 0), .ref ai, .ref ak, .ref sc, .ref rd, .ref fo, .ref tx, .int ty, .ref ar, .ref at_, .ref ao])), (aw, .inl (cw, 6, .inr (.inr (.inr (.inr (tz_w w0 w1 w2 w3 w4 w5)))))), (w0, .inr (4, [])), (w1, .inr (1, [])), (w2, .inr (10, [])), (w3, .inr (3, [])), (w4, .inr (9, [])), (w5, .inr (8, [])), (ar, .inl (cr, 3, .inl fr))]) [0, 1, 2, 3, 4, 5, 6, 7, 8] rfl
                                have hD9 := hD.sub (ws' := [(o, .inr (11, [.ref aw, .ref (ab 0), .ref ai, .ref ak, .ref sc, .ref rd, .ref fo, .ref tx, .int ty, .ref ar, .ref at_, .ref ao])), (aw, .inl (cw, 6, .inr (.inr (.inr (.inr (tz_w w0 w1 w2 w3 w4 w5)))))), (w0, .inr (4, [])), (w1, .inr (1, [])), (w2, .inr (10, [])), (w3, .inr (3, [])), (w4, .inr (9, [])), (w5, .inr (8, [])), (ar, .inl (cr, 3, .inl fr))]) [0, 1, 2, 3, 4, 5, 6, 7, 8] (by decide) rfl
                                have hK9 := hK.sub (tys' := [(cw, (.object "ThriceCounted$Ones")), (cr, .int)]) [0, 1] rfl
                                exact W.iret (v := gr) hx hb hr (fun t ht hW => ⟨⟨gr, (), rfl, (by unfold dS; rw [en, es]; exact eg.trans ((if_pos hc_5).trans ((if_pos hc_9).trans ((if_pos hc_13).trans ((if_pos hc_17).trans ((if_pos hc_21).trans ((if_neg c_95).trans (if_neg c_96))))))).symm), fr, by rw [ht]; exact hP9, va_K.moved hW.alike hK9, hD9⟩, hS.F ht⟩) hS.2.2 dX11_drawn_201
                              · refine lv_iload hx hb dX11_drawn_194 (lv_at hl 2 rfl) ?_
                                refine lv_goto (tgt := 201) hx hb dX11_drawn_196 (by decide) ?_
                                have hP9 := hP.sub (ws' := [(o, .inr (11, [.ref aw, .ref (ab 0), .ref ai, .ref ak, .ref sc, .ref rd, .ref fo, .ref tx, .int ty, .ref ar, .ref at_, .ref ao])), (aw, .inl (cw, 6, .inr (.inr (.inr (.inr (tz_w w0 w1 w2 w3 w4 w5)))))), (w0, .inr (4, [])), (w1, .inr (1, [])), (w2, .inr (10, [])), (w3, .inr (3, [])), (w4, .inr (9, [])), (w5, .inr (8, [])), (ar, .inl (cr, 3, .inl fr))]) [0, 1, 2, 3, 4, 5, 6, 7, 8] rfl
                                have hD9 := hD.sub (ws' := [(o, .inr (11, [.ref aw, .ref (ab 0), .ref ai, .ref ak, .ref sc, .ref rd, .ref fo, .ref tx, .int ty, .ref ar, .ref at_, .ref ao])), (aw, .inl (cw, 6, .inr (.inr (.inr (.inr (tz_w w0 w1 w2 w3 w4 w5)))))), (w0, .inr (4, [])), (w1, .inr (1, [])), (w2, .inr (10, [])), (w3, .inr (3, [])), (w4, .inr (9, [])), (w5, .inr (8, [])), (ar, .inl (cr, 3, .inl fr))]) [0, 1, 2, 3, 4, 5, 6, 7, 8] (by decide) rfl
                                have hK9 := hK.sub (tys' := [(cw, (.object "ThriceCounted$Ones")), (cr, .int)]) [0, 1] rfl
                                exact W.iret (v := le) hx hb hr (fun t ht hW => ⟨⟨le, (), rfl, (by unfold dS; rw [en, es]; exact el.trans ((if_pos hc_5).trans ((if_pos hc_9).trans ((if_pos hc_13).trans ((if_pos hc_17).trans ((if_pos hc_21).trans ((if_neg c_95).trans (if_pos c_96))))))).symm), fr, by rw [ht]; exact hP9, va_K.moved hW.alike hK9, hD9⟩, hS.F ht⟩) hS.2.2 dX11_drawn_201
                            · refine lv_iload hx hb dX11_drawn_185 (lv_at hl 3 rfl) ?_
                              have hP9 := hP.sub (ws' := [(o, .inr (11, [.ref aw, .ref (ab 0), .ref ai, .ref ak, .ref sc, .ref rd, .ref fo, .ref tx, .int ty, .ref ar, .ref at_, .ref ao])), (aw, .inl (cw, 6, .inr (.inr (.inr (.inr (tz_w w0 w1 w2 w3 w4 w5)))))), (w0, .inr (4, [])), (w1, .inr (1, [])), (w2, .inr (10, [])), (w3, .inr (3, [])), (w4, .inr (9, [])), (w5, .inr (8, [])), (ar, .inl (cr, 3, .inl fr))]) [0, 1, 2, 3, 4, 5, 6, 7, 8] rfl
                              have hD9 := hD.sub (ws' := [(o, .inr (11, [.ref aw, .ref (ab 0), .ref ai, .ref ak, .ref sc, .ref rd, .ref fo, .ref tx, .int ty, .ref ar, .ref at_, .ref ao])), (aw, .inl (cw, 6, .inr (.inr (.inr (.inr (tz_w w0 w1 w2 w3 w4 w5)))))), (w0, .inr (4, [])), (w1, .inr (1, [])), (w2, .inr (10, [])), (w3, .inr (3, [])), (w4, .inr (9, [])), (w5, .inr (8, [])), (ar, .inl (cr, 3, .inl fr))]) [0, 1, 2, 3, 4, 5, 6, 7, 8] (by decide) rfl
                              have hK9 := hK.sub (tys' := [(cw, (.object "ThriceCounted$Ones")), (cr, .int)]) [0, 1] rfl
                              exact W.iret (v := rr) hx hb hr (fun t ht hW => ⟨⟨rr, (), rfl, (by unfold dS; rw [en, es]; exact er.trans ((if_pos hc_5).trans ((if_pos hc_9).trans ((if_pos hc_13).trans ((if_pos hc_17).trans ((if_pos hc_21).trans (if_pos c_95)))))).symm), fr, by rw [ht]; exact hP9, va_K.moved hW.alike hK9, hD9⟩, hS.F ht⟩) hS.2.2 dX11_drawn_187
                          · exact absurd (by rw [ek]; exact nI_le (Nat.le_refl nn) (by omega)) c_94
                        · rintro ii ⟨xx, rr, le, gr, kk, ls⟩ hi ⟨ex, er, el, eg, ek, hl⟩ ih
                          dsimp only at ex er el eg ek hl ⊢
                          refine lv_iload hx hb dX11_drawn_74 (lv_at hl 0 rfl) ?_
                          refine lv_iload_n hx hb dX11_drawn_76 rfl (lv_at hl 8 rfl) ?_
                          refine lv_icmp_ge (tgt := 180) hx hb dX11_drawn_77 (by decide) (fun c_97 => ?_) (fun c_97 => ?_)
                          · exact absurd c_97 (by rw [ek]; exact nI_ge hi (by omega))
                          · refine lv_lload hx hb dX11_drawn_80 (lv_at hl 4 rfl) ?_
                            refine lv_ldc2 hx hb hown (hts (.constantLong RX11 255 (1103515245)) (by decide +kernel)) dX11_drawn_82 ?_
                            refine lv_lmul hx hb dX11_drawn_85 ?_
                            refine lv_ldc2 hx hb hown (hts (.constantLong RX11 257 (12345)) (by decide +kernel)) dX11_drawn_86 ?_
                            refine lv_ladd hx hb dX11_drawn_89 ?_
                            refine lv_ldc2 hx hb hown (hts (.constantLong RX11 259 (2147483648)) (by decide +kernel)) dX11_drawn_90 ?_
                            refine lv_lrem hx hb dX11_drawn_93 (by decide) ?_
                            refine tz_l (lN (dX sn (ii + 1))) (by rw [ex]; exact tz_dx (hdx ii)) ?_
                            refine lv_lstore (lv' := [(6, .long (lN (dX sn (ii + 1)))), (11, .int kk), (10, .int gr), (9, .int le), (8, .int rr), (0, .ref o), (1, .int 5), (2, .int nb), (3, .int (nI nn)), (4, .int (nI sn)), (5, .int ne)]) hx hb dX11_drawn_94 hl (by decide) rfl (fun ls hl => ?_)
                            refine lv_iload_n hx hb dX11_drawn_96 rfl (lv_at hl 7 rfl) ?_
                            refine lv_aload_n hx hb dX11_drawn_97 rfl (lv_at hl 5 rfl) ?_
                            refine va_get (D := (dC, dI)) (ci := 11) (v := .ref aw) (C := RX11) (T := TX11) (N := 12) hx hb hts iw_x_drawnF_X11 hown hK hP 0 rfl rfl 0 (by decide) (hts (.fieldLink RX11 25 "ThriceCounted" "ways" "[LThriceCounted$Ones;") (by decide +kernel)) (fun _ h9 => h9) rfl dX11_drawn_98 ?_
                            refine lv_iload_n hx hb dX11_drawn_101 rfl (lv_at hl 6 rfl) ?_
                            refine va_aldq hx hb hK hP 1 0 rfl rfl (show ¬ ((5 : Int32) < 0 ∨ 6 ≤ (5 : Int32).toNatClampNeg) by decide) dX11_drawn_102 ?_
                            refine tz_v (.ref w5) rfl ?_
                            refine lv_lload hx hb dX11_drawn_103 (lv_at hl 0 rfl) ?_
                            refine lv_ldc2 hx hb hown (hts (.constantLong RX11 261 (65536)) (by decide +kernel)) dX11_drawn_105 ?_
                            refine lv_ldiv hx hb dX11_drawn_108 (by decide) ?_
                            refine lv_ldc2 hx hb hown (hts (.constantLong RX11 263 (20)) (by decide +kernel)) dX11_drawn_109 ?_
                            refine lv_lrem hx hb dX11_drawn_112 (by decide) ?_
                            refine lv_l2i (v := (((lN (dX sn (ii + 1))) / 65536) - ((lN (dX sn (ii + 1))) / 65536) / 20 * 20).toInt32) hx hb dX11_drawn_113 rfl ?_
                            refine tz_i (nI (dX sn (ii + 1) / 65536 % 20)) (tz_di (hdx (ii + 1))) ?_
                            have hPc_98 := hP.sub (ws' := [(w5, .inr (8, []))]) [7] rfl
                            have hKc_99 := hK.sub (tys' := []) [] rfl
                            refine vp_callSi (va_Run.run (va_runU (C := RX8) (As := [.int (nI (dX sn (ii + 1) / 65536 % 20))]) (rest := [.int nb]) ⟨hx, hb, hml, hown, hts⟩ (k_slip_X8 l dC dI w5 (nI (dX sn (ii + 1) / 65536 % 20))) (va_cwO 1 hts gX11_drawn_X8_slip_u175X8 rfl rfl rfl (b0 := cX4_slip) (m0 := 2) (r0 := (some .int)) (by decide +kernel) (by decide +kernel) ⟨Nat.le_of_ble_eq_true rfl, Nat.le_of_ble_eq_true rfl⟩) ⟨fun a U g mk q => by obtain ⟨q0, qP, qK⟩ := q; exact ⟨q0, qP, va_K.moved (u := U) (U := U.calling g mk a) (Vm.Alike.refl U.vm) qK⟩, va_recv hK hP (ci := 8) (q0 := 7) rfl rfl, fun U hU hW => ⟨rfl, by rw [hU]; exact hPc_98, va_K.moved hW.alike hKc_99⟩⟩ rfl rfl hl.1 rfl (lv_room (Nat.le_of_ble_eq_true rfl)) dX11_drawn_114 ⟨Nat.le_of_ble_eq_true rfl, Nat.le_of_ble_eq_true rfl⟩)) (fun r_100 hw_101 => ?_)
                            obtain rfl : (zK (nI (dX sn (ii + 1) / 65536 % 20))) = r_100 := hw_101.symm
                            refine lv_iadd hx hb dX11_drawn_117 ?_
                            refine tz_i (dT zK nb sn ii) rfl ?_
                            refine lv_istore (lv' := [(12, .int (dT zK nb sn ii)), (6, .long (lN (dX sn (ii + 1)))), (11, .int kk), (10, .int gr), (9, .int le), (8, .int rr), (0, .ref o), (1, .int 5), (2, .int nb), (3, .int (nI nn)), (4, .int (nI sn)), (5, .int ne)]) hx hb dX11_drawn_118 hl (by decide) rfl (fun ls hl => ?_)
                            refine lv_iload hx hb dX11_drawn_120 (lv_at hl 5 rfl) ?_
                            refine lv_iload hx hb dX11_drawn_122 (lv_at hl 0 rfl) ?_
                            refine lv_iload_n hx hb dX11_drawn_124 rfl (lv_at hl 8 rfl) ?_
                            refine lv_icmp_ne (tgt := 132) hx hb dX11_drawn_125 (by decide) (fun c_102 => ?_) (fun c_102 => ?_)
                            · refine lv_iconst (v := 0) hx hb dX11_drawn_132 (by decide) ?_
                              refine lv_iadd hx hb dX11_drawn_133 ?_
                              refine lv_istore (lv' := [(8, .int (rr + 0)), (12, .int (dT zK nb sn ii)), (6, .long (lN (dX sn (ii + 1)))), (11, .int kk), (10, .int gr), (9, .int le), (0, .ref o), (1, .int 5), (2, .int nb), (3, .int (nI nn)), (4, .int (nI sn)), (5, .int ne)]) hx hb dX11_drawn_134 hl (by decide) rfl (fun ls hl => ?_)
                              refine lv_iload hx hb dX11_drawn_136 (lv_at hl 3 rfl) ?_
                              refine lv_if_ne (tgt := 146) hx hb dX11_drawn_138 (by decide) (fun c_103 => ?_) (fun c_103 => ?_)
                              · refine lv_iload hx hb dX11_drawn_146 (lv_at hl 5 rfl) ?_
                                refine lv_iload hx hb dX11_drawn_148 (lv_at hl 1 rfl) ?_
                                refine va_mmin hx hb (hml.trans hl.1.symm) hown (hts (.methodLink RX11 265 Lib.Math.min.name) (by decide +kernel)) (hts (.static Lib.Math.min.name) (by decide +kernel)) (hts (.initialized "java/lang/Math") (by decide +kernel)) (hts (.code Lib.Math.min.name Lib.Math.min.code 2 (some .int)) (by decide +kernel)) (Nat.le_of_ble_eq_true rfl) (Nat.le_of_ble_eq_true rfl) (Nat.le_of_ble_eq_true rfl) (Nat.le_of_ble_eq_true rfl) dX11_drawn_150 ?_
                                refine lv_istore (lv' := [(9, .int (if (dT zK nb sn ii) < le then (dT zK nb sn ii) else le)), (8, .int (rr + 0)), (12, .int (dT zK nb sn ii)), (6, .long (lN (dX sn (ii + 1)))), (11, .int kk), (10, .int gr), (0, .ref o), (1, .int 5), (2, .int nb), (3, .int (nI nn)), (4, .int (nI sn)), (5, .int ne)]) hx hb dX11_drawn_153 hl (by decide) rfl (fun ls hl => ?_)
                                refine lv_iload hx hb dX11_drawn_155 (lv_at hl 4 rfl) ?_
                                refine lv_if_ne (tgt := 165) hx hb dX11_drawn_157 (by decide) (fun c_104 => ?_) (fun c_104 => ?_)
                                · refine lv_iload hx hb dX11_drawn_165 (lv_at hl 5 rfl) ?_
                                  refine lv_iload hx hb dX11_drawn_167 (lv_at hl 2 rfl) ?_
                                  refine va_mmax hx hb (hml.trans hl.1.symm) hown (hts (.methodLink RX11 268 Lib.Math.max.name) (by decide +kernel)) (hts (.static Lib.Math.max.name) (by decide +kernel)) (hts (.initialized "java/lang/Math") (by decide +kernel)) (hts (.code Lib.Math.max.name Lib.Math.max.code 2 (some .int)) (by decide +kernel)) (Nat.le_of_ble_eq_true rfl) (Nat.le_of_ble_eq_true rfl) (Nat.le_of_ble_eq_true rfl) (Nat.le_of_ble_eq_true rfl) dX11_drawn_169 ?_
                                  refine lv_istore (lv' := [(10, .int (if gr < (dT zK nb sn ii) then (dT zK nb sn ii) else gr)), (9, .int (if (dT zK nb sn ii) < le then (dT zK nb sn ii) else le)), (8, .int (rr + 0)), (12, .int (dT zK nb sn ii)), (6, .long (lN (dX sn (ii + 1)))), (11, .int kk), (0, .ref o), (1, .int 5), (2, .int nb), (3, .int (nI nn)), (4, .int (nI sn)), (5, .int ne)]) hx hb dX11_drawn_172 hl (by decide) rfl (fun ls hl => ?_)
                                  refine lv_iinc (v := (kk + 1)) (lv' := [(11, .int (kk + 1)), (10, .int (if gr < (dT zK nb sn ii) then (dT zK nb sn ii) else gr)), (9, .int (if (dT zK nb sn ii) < le then (dT zK nb sn ii) else le)), (8, .int (rr + 0)), (12, .int (dT zK nb sn ii)), (6, .long (lN (dX sn (ii + 1)))), (0, .ref o), (1, .int 5), (2, .int nb), (3, .int (nI nn)), (4, .int (nI sn)), (5, .int ne)]) hx hb dX11_drawn_174 hl (k := 5) rfl rfl (by decide) rfl (fun ls hl => ?_)
                                  refine lv_goto (tgt := 74) hx hb dX11_drawn_177 (by decide) ?_
                                  exact ih ((lN (dX sn (ii + 1))), (rr + 0), (if (dT zK nb sn ii) < le then (dT zK nb sn ii) else le), (if gr < (dT zK nb sn ii) then (dT zK nb sn ii) else gr), kk + 1, ls) ⟨rfl, by rw [dR, if_neg c_102, ← er, Int32.add_zero], by rw [dL, if_neg (show ¬ ii = 0 from fun z => c_103 (by rw [ek, z]; rfl)), ← el], by rw [dG, if_neg (show ¬ ii = 0 from fun z => c_103 (by rw [ek, z]; rfl)), ← eg], by rw [ek]; exact nI_1 ii, lv_sub hl [0, 1, 2, 3, 5, 6, 7, 8, 9, 10, 11] rfl⟩
                                · exact absurd c_104 c_103
                              · refine lv_iload hx hb dX11_drawn_141 (lv_at hl 1 rfl) ?_
                                refine lv_goto (tgt := 153) hx hb dX11_drawn_143 (by decide) ?_
                                refine lv_istore (lv' := [(9, .int (dT zK nb sn ii)), (8, .int (rr + 0)), (12, .int (dT zK nb sn ii)), (6, .long (lN (dX sn (ii + 1)))), (11, .int kk), (10, .int gr), (0, .ref o), (1, .int 5), (2, .int nb), (3, .int (nI nn)), (4, .int (nI sn)), (5, .int ne)]) hx hb dX11_drawn_153 hl (by decide) rfl (fun ls hl => ?_)
                                refine lv_iload hx hb dX11_drawn_155 (lv_at hl 4 rfl) ?_
                                refine lv_if_ne (tgt := 165) hx hb dX11_drawn_157 (by decide) (fun c_105 => ?_) (fun c_105 => ?_)
                                · exact absurd c_103 c_105
                                · refine lv_iload hx hb dX11_drawn_160 (lv_at hl 2 rfl) ?_
                                  refine lv_goto (tgt := 172) hx hb dX11_drawn_162 (by decide) ?_
                                  refine lv_istore (lv' := [(10, .int (dT zK nb sn ii)), (9, .int (dT zK nb sn ii)), (8, .int (rr + 0)), (12, .int (dT zK nb sn ii)), (6, .long (lN (dX sn (ii + 1)))), (11, .int kk), (0, .ref o), (1, .int 5), (2, .int nb), (3, .int (nI nn)), (4, .int (nI sn)), (5, .int ne)]) hx hb dX11_drawn_172 hl (by decide) rfl (fun ls hl => ?_)
                                  refine lv_iinc (v := (kk + 1)) (lv' := [(11, .int (kk + 1)), (10, .int (dT zK nb sn ii)), (9, .int (dT zK nb sn ii)), (8, .int (rr + 0)), (12, .int (dT zK nb sn ii)), (6, .long (lN (dX sn (ii + 1)))), (0, .ref o), (1, .int 5), (2, .int nb), (3, .int (nI nn)), (4, .int (nI sn)), (5, .int ne)]) hx hb dX11_drawn_174 hl (k := 5) rfl rfl (by decide) rfl (fun ls hl => ?_)
                                  refine lv_goto (tgt := 74) hx hb dX11_drawn_177 (by decide) ?_
                                  exact ih ((lN (dX sn (ii + 1))), (rr + 0), (dT zK nb sn ii), (dT zK nb sn ii), kk + 1, ls) ⟨rfl, by rw [dR, if_neg c_102, ← er, Int32.add_zero], by rw [dL, if_pos (show ii = 0 from tz_n0 (by omega) (ek ▸ c_103))], by rw [dG, if_pos (show ii = 0 from tz_n0 (by omega) (ek ▸ c_103))], by rw [ek]; exact nI_1 ii, lv_sub hl [0, 1, 2, 3, 5, 6, 7, 8, 9, 10, 11] rfl⟩
                            · refine lv_iconst (v := 1) hx hb dX11_drawn_128 (by decide) ?_
                              refine lv_goto (tgt := 133) hx hb dX11_drawn_129 (by decide) ?_
                              refine lv_iadd hx hb dX11_drawn_133 ?_
                              refine lv_istore (lv' := [(8, .int (rr + 1)), (12, .int (dT zK nb sn ii)), (6, .long (lN (dX sn (ii + 1)))), (11, .int kk), (10, .int gr), (9, .int le), (0, .ref o), (1, .int 5), (2, .int nb), (3, .int (nI nn)), (4, .int (nI sn)), (5, .int ne)]) hx hb dX11_drawn_134 hl (by decide) rfl (fun ls hl => ?_)
                              refine lv_iload hx hb dX11_drawn_136 (lv_at hl 3 rfl) ?_
                              refine lv_if_ne (tgt := 146) hx hb dX11_drawn_138 (by decide) (fun c_106 => ?_) (fun c_106 => ?_)
                              · refine lv_iload hx hb dX11_drawn_146 (lv_at hl 5 rfl) ?_
                                refine lv_iload hx hb dX11_drawn_148 (lv_at hl 1 rfl) ?_
                                refine va_mmin hx hb (hml.trans hl.1.symm) hown (hts (.methodLink RX11 265 Lib.Math.min.name) (by decide +kernel)) (hts (.static Lib.Math.min.name) (by decide +kernel)) (hts (.initialized "java/lang/Math") (by decide +kernel)) (hts (.code Lib.Math.min.name Lib.Math.min.code 2 (some .int)) (by decide +kernel)) (Nat.le_of_ble_eq_true rfl) (Nat.le_of_ble_eq_true rfl) (Nat.le_of_ble_eq_true rfl) (Nat.le_of_ble_eq_true rfl) dX11_drawn_150 ?_
                                refine lv_istore (lv' := [(9, .int (if (dT zK nb sn ii) < le then (dT zK nb sn ii) else le)), (8, .int (rr + 1)), (12, .int (dT zK nb sn ii)), (6, .long (lN (dX sn (ii + 1)))), (11, .int kk), (10, .int gr), (0, .ref o), (1, .int 5), (2, .int nb), (3, .int (nI nn)), (4, .int (nI sn)), (5, .int ne)]) hx hb dX11_drawn_153 hl (by decide) rfl (fun ls hl => ?_)
                                refine lv_iload hx hb dX11_drawn_155 (lv_at hl 4 rfl) ?_
                                refine lv_if_ne (tgt := 165) hx hb dX11_drawn_157 (by decide) (fun c_107 => ?_) (fun c_107 => ?_)
                                · refine lv_iload hx hb dX11_drawn_165 (lv_at hl 5 rfl) ?_
                                  refine lv_iload hx hb dX11_drawn_167 (lv_at hl 2 rfl) ?_
                                  refine va_mmax hx hb (hml.trans hl.1.symm) hown (hts (.methodLink RX11 268 Lib.Math.max.name) (by decide +kernel)) (hts (.static Lib.Math.max.name) (by decide +kernel)) (hts (.initialized "java/lang/Math") (by decide +kernel)) (hts (.code Lib.Math.max.name Lib.Math.max.code 2 (some .int)) (by decide +kernel)) (Nat.le_of_ble_eq_true rfl) (Nat.le_of_ble_eq_true rfl) (Nat.le_of_ble_eq_true rfl) (Nat.le_of_ble_eq_true rfl) dX11_drawn_169 ?_
                                  refine lv_istore (lv' := [(10, .int (if gr < (dT zK nb sn ii) then (dT zK nb sn ii) else gr)), (9, .int (if (dT zK nb sn ii) < le then (dT zK nb sn ii) else le)), (8, .int (rr + 1)), (12, .int (dT zK nb sn ii)), (6, .long (lN (dX sn (ii + 1)))), (11, .int kk), (0, .ref o), (1, .int 5), (2, .int nb), (3, .int (nI nn)), (4, .int (nI sn)), (5, .int ne)]) hx hb dX11_drawn_172 hl (by decide) rfl (fun ls hl => ?_)
                                  refine lv_iinc (v := (kk + 1)) (lv' := [(11, .int (kk + 1)), (10, .int (if gr < (dT zK nb sn ii) then (dT zK nb sn ii) else gr)), (9, .int (if (dT zK nb sn ii) < le then (dT zK nb sn ii) else le)), (8, .int (rr + 1)), (12, .int (dT zK nb sn ii)), (6, .long (lN (dX sn (ii + 1)))), (0, .ref o), (1, .int 5), (2, .int nb), (3, .int (nI nn)), (4, .int (nI sn)), (5, .int ne)]) hx hb dX11_drawn_174 hl (k := 5) rfl rfl (by decide) rfl (fun ls hl => ?_)
                                  refine lv_goto (tgt := 74) hx hb dX11_drawn_177 (by decide) ?_
                                  exact ih ((lN (dX sn (ii + 1))), (rr + 1), (if (dT zK nb sn ii) < le then (dT zK nb sn ii) else le), (if gr < (dT zK nb sn ii) then (dT zK nb sn ii) else gr), kk + 1, ls) ⟨rfl, by rw [dR, if_pos c_102, ← er], by rw [dL, if_neg (show ¬ ii = 0 from fun z => c_106 (by rw [ek, z]; rfl)), ← el], by rw [dG, if_neg (show ¬ ii = 0 from fun z => c_106 (by rw [ek, z]; rfl)), ← eg], by rw [ek]; exact nI_1 ii, lv_sub hl [0, 1, 2, 3, 5, 6, 7, 8, 9, 10, 11] rfl⟩
                                · exact absurd c_107 c_106
                              · refine lv_iload hx hb dX11_drawn_141 (lv_at hl 1 rfl) ?_
                                refine lv_goto (tgt := 153) hx hb dX11_drawn_143 (by decide) ?_
                                refine lv_istore (lv' := [(9, .int (dT zK nb sn ii)), (8, .int (rr + 1)), (12, .int (dT zK nb sn ii)), (6, .long (lN (dX sn (ii + 1)))), (11, .int kk), (10, .int gr), (0, .ref o), (1, .int 5), (2, .int nb), (3, .int (nI nn)), (4, .int (nI sn)), (5, .int ne)]) hx hb dX11_drawn_153 hl (by decide) rfl (fun ls hl => ?_)
                                refine lv_iload hx hb dX11_drawn_155 (lv_at hl 4 rfl) ?_
                                refine lv_if_ne (tgt := 165) hx hb dX11_drawn_157 (by decide) (fun c_108 => ?_) (fun c_108 => ?_)
                                · exact absurd c_106 c_108
                                · refine lv_iload hx hb dX11_drawn_160 (lv_at hl 2 rfl) ?_
                                  refine lv_goto (tgt := 172) hx hb dX11_drawn_162 (by decide) ?_
                                  refine lv_istore (lv' := [(10, .int (dT zK nb sn ii)), (9, .int (dT zK nb sn ii)), (8, .int (rr + 1)), (12, .int (dT zK nb sn ii)), (6, .long (lN (dX sn (ii + 1)))), (11, .int kk), (0, .ref o), (1, .int 5), (2, .int nb), (3, .int (nI nn)), (4, .int (nI sn)), (5, .int ne)]) hx hb dX11_drawn_172 hl (by decide) rfl (fun ls hl => ?_)
                                  refine lv_iinc (v := (kk + 1)) (lv' := [(11, .int (kk + 1)), (10, .int (dT zK nb sn ii)), (9, .int (dT zK nb sn ii)), (8, .int (rr + 1)), (12, .int (dT zK nb sn ii)), (6, .long (lN (dX sn (ii + 1)))), (0, .ref o), (1, .int 5), (2, .int nb), (3, .int (nI nn)), (4, .int (nI sn)), (5, .int ne)]) hx hb dX11_drawn_174 hl (k := 5) rfl rfl (by decide) rfl (fun ls hl => ?_)
                                  refine lv_goto (tgt := 74) hx hb dX11_drawn_177 (by decide) ?_
                                  exact ih ((lN (dX sn (ii + 1))), (rr + 1), (dT zK nb sn ii), (dT zK nb sn ii), kk + 1, ls) ⟨rfl, by rw [dR, if_pos c_102, ← er], by rw [dL, if_pos (show ii = 0 from tz_n0 (by omega) (ek ▸ c_106))], by rw [dG, if_pos (show ii = 0 from tz_n0 (by omega) (ek ▸ c_106))], by rw [ek]; exact nI_1 ii, lv_sub hl [0, 1, 2, 3, 5, 6, 7, 8, 9, 10, 11] rfl⟩
                    · exact absurd c_22 (by decide)
                  · obtain rfl : 0 = r_19 := (hw_20.trans (if_neg hc_21)).symm
                    refine lv_if_ne (tgt := 57) hx hb dX11_drawn_47 (by decide) (fun c_109 => ?_) (fun c_109 => ?_)
                    · exact absurd c_109 (by decide)
                    · refine lv_aload_n hx hb dX11_drawn_50 rfl (lv_at hl 0 rfl) ?_
                      refine lv_bipush (v := (-2)) hx hb dX11_drawn_51 (by decide) ?_
                      have hPc := hP.sub (ws' := [(o, .inr (11, [.ref aw, .ref (ab 0), .ref ai, .ref ak, .ref sc, .ref rd, .ref fo, .ref tx, .int ty, .ref ar, .ref at_, .ref ao])), (ar, .inl (cr, 3, .inl fr))]) [0, 8] rfl
                      have hDc := hD.sub (ws' := [(o, .inr (11, [.ref aw, .ref (ab 0), .ref ai, .ref ak, .ref sc, .ref rd, .ref fo, .ref tx, .int ty, .ref ar, .ref at_, .ref ao])), (ar, .inl (cr, 3, .inl fr))]) [0, 8] (by decide) rfl
                      have hKc := hK.sub (tys' := [(cr, .int)]) [1] rfl
                      have hFc := va_free (wc := [(o, .inr (11, [.ref aw, .ref (ab 0), .ref ai, .ref ak, .ref sc, .ref rd, .ref fo, .ref tx, .int ty, .ref ar, .ref at_, .ref ao])), (ar, .inl (cr, 3, .inl fr))]) hD hS hA [0, 8] rfl
                      refine va_calli (va_runV (As := [.int (-2)]) (rest := []) ⟨hx, hb, hml, hown, hts⟩ (x_refuse l dC dI o aw ab ai ak sc rd fo tx ty ar at_ ao cr fr (-2) s.heap.size) (cwV 1 hts gX11_drawn_X11_refuse rfl rfl rfl (by decide +kernel) ⟨Nat.le_of_ble_eq_true rfl, Nat.le_of_ble_eq_true rfl⟩) ⟨fun a U g mk q => by obtain ⟨q0, q1, qP, qK, qD⟩ := q; exact ⟨q0, q1, qP, va_K.moved (u := U) (U := U.calling g mk a) (Vm.Alike.refl U.vm) qK, qD⟩, va_recv hK hP (ci := 11) (q0 := 0) rfl rfl, fun U hU hW => ⟨rfl, by rw [hU], by rw [hU]; exact hPc, va_K.moved hW.alike hKc, hDc.weaken (fun _ _ _ _ => trivial)⟩⟩ rfl rfl hl.1 rfl (lv_room (Nat.le_of_ble_eq_true rfl)) dX11_drawn_53 ⟨Nat.le_of_ble_eq_true rfl, Nat.le_of_ble_eq_true rfl⟩) hS (fun q _ h => hFc q h) hFc (fun r_110 u_ t H1 locs ht hvm hw_111 hB hz1 hk1 hS => ?_)
                      obtain ⟨gr_112, hP1, hK1, hD1⟩ := hB
                      rw [ht] at hP1
                      have hK1 := va_K.moved hvm.symm hK1
                      obtain ⟨hP, hD⟩ := va_join (wr := [(aw, .inl (cw, 6, .inr (.inr (.inr (.inr (tz_w w0 w1 w2 w3 w4 w5)))))), (w0, .inr (4, [])), (w1, .inr (1, [])), (w2, .inr (10, [])), (w3, .inr (3, [])), (w4, .inr (9, [])), (w5, .inr (8, []))]) (w1 := [(o, .inr (11, [.ref aw, .ref (ab 0), .ref ai, .ref ak, .ref sc, .ref rd, .ref fo, .ref tx, .int ty, .ref ar, .ref at_, .ref ao])), (ar, .inl (cr, 3, .inl gr_112))]) hP hD [0, 8] [1, 2, 3, 4, 5, 6, 7] rfl rfl (by decide) (by decide) hk1 hFc hP1 hD1
                      generalize H1 = H at hP hS ⊢
                      have hP : va_P (dC, dI) vwCl [(aw, .inl (cw, 6, .inr (.inr (.inr (.inr (tz_w w0 w1 w2 w3 w4 w5)))))), (w0, .inr (4, [])), (w1, .inr (1, [])), (w2, .inr (10, [])), (w3, .inr (3, [])), (w4, .inr (9, [])), (w5, .inr (8, [])), (o, .inr (11, [.ref aw, .ref (ab 0), .ref ai, .ref ak, .ref sc, .ref rd, .ref fo, .ref tx, .int ty, .ref ar, .ref at_, .ref ao])), (ar, .inl (cr, 3, .inl gr_112))] H := hP
                      have hD : va_D A [(aw, .inl (cw, 6, .inr (.inr (.inr (.inr (tz_w w0 w1 w2 w3 w4 w5)))))), (w0, .inr (4, [])), (w1, .inr (1, [])), (w2, .inr (10, [])), (w3, .inr (3, [])), (w4, .inr (9, [])), (w5, .inr (8, [])), (o, .inr (11, [.ref aw, .ref (ab 0), .ref ai, .ref ak, .ref sc, .ref rd, .ref fo, .ref tx, .int ty, .ref ar, .ref at_, .ref ao])), (ar, .inl (cr, 3, .inl gr_112))] := hD
                      obtain rfl : (-2) = r_110 := hw_111.symm
                      have hP9 := hP.sub (ws' := [(o, .inr (11, [.ref aw, .ref (ab 0), .ref ai, .ref ak, .ref sc, .ref rd, .ref fo, .ref tx, .int ty, .ref ar, .ref at_, .ref ao])), (aw, .inl (cw, 6, .inr (.inr (.inr (.inr (tz_w w0 w1 w2 w3 w4 w5)))))), (w0, .inr (4, [])), (w1, .inr (1, [])), (w2, .inr (10, [])), (w3, .inr (3, [])), (w4, .inr (9, [])), (w5, .inr (8, [])), (ar, .inl (cr, 3, .inl gr_112))]) [7, 0, 1, 2, 3, 4, 5, 6, 8] rfl
                      have hD9 := hD.sub (ws' := [(o, .inr (11, [.ref aw, .ref (ab 0), .ref ai, .ref ak, .ref sc, .ref rd, .ref fo, .ref tx, .int ty, .ref ar, .ref at_, .ref ao])), (aw, .inl (cw, 6, .inr (.inr (.inr (.inr (tz_w w0 w1 w2 w3 w4 w5)))))), (w0, .inr (4, [])), (w1, .inr (1, [])), (w2, .inr (10, [])), (w3, .inr (3, [])), (w4, .inr (9, [])), (w5, .inr (8, [])), (ar, .inl (cr, 3, .inl gr_112))]) [7, 0, 1, 2, 3, 4, 5, 6, 8] (by decide) rfl
                      have hK9 := hK.sub (tys' := [(cw, (.object "ThriceCounted$Ones")), (cr, .int)]) [0, 1] rfl
                      exact W.iret (v := (-2)) hx hb hr (fun t ht hW => ⟨⟨(-2), (), rfl, (show (-2) = _ from by unfold dS; exact ((if_pos hc_5).trans ((if_pos hc_9).trans ((if_pos hc_13).trans ((if_pos hc_17).trans (if_neg hc_21))))).symm), gr_112, by rw [ht]; exact hP9, va_K.moved hW.alike hK9, hD9⟩, hS.F ht⟩) hS.2.2 dX11_drawn_56
              · obtain rfl : 0 = r_15 := (hw_16.trans (if_neg hc_17)).symm
                refine lv_if_eq (tgt := 50) hx hb dX11_drawn_37 (by decide) (fun c_113 => ?_) (fun c_113 => ?_)
                · refine lv_aload_n hx hb dX11_drawn_50 rfl (lv_at hl 0 rfl) ?_
                  refine lv_bipush (v := (-2)) hx hb dX11_drawn_51 (by decide) ?_
                  have hPc := hP.sub (ws' := [(o, .inr (11, [.ref aw, .ref (ab 0), .ref ai, .ref ak, .ref sc, .ref rd, .ref fo, .ref tx, .int ty, .ref ar, .ref at_, .ref ao])), (ar, .inl (cr, 3, .inl fr))]) [0, 8] rfl
                  have hDc := hD.sub (ws' := [(o, .inr (11, [.ref aw, .ref (ab 0), .ref ai, .ref ak, .ref sc, .ref rd, .ref fo, .ref tx, .int ty, .ref ar, .ref at_, .ref ao])), (ar, .inl (cr, 3, .inl fr))]) [0, 8] (by decide) rfl
                  have hKc := hK.sub (tys' := [(cr, .int)]) [1] rfl
                  have hFc := va_free (wc := [(o, .inr (11, [.ref aw, .ref (ab 0), .ref ai, .ref ak, .ref sc, .ref rd, .ref fo, .ref tx, .int ty, .ref ar, .ref at_, .ref ao])), (ar, .inl (cr, 3, .inl fr))]) hD hS hA [0, 8] rfl
                  refine va_calli (va_runV (As := [.int (-2)]) (rest := []) ⟨hx, hb, hml, hown, hts⟩ (x_refuse l dC dI o aw ab ai ak sc rd fo tx ty ar at_ ao cr fr (-2) s.heap.size) (cwV 1 hts gX11_drawn_X11_refuse rfl rfl rfl (by decide +kernel) ⟨Nat.le_of_ble_eq_true rfl, Nat.le_of_ble_eq_true rfl⟩) ⟨fun a U g mk q => by obtain ⟨q0, q1, qP, qK, qD⟩ := q; exact ⟨q0, q1, qP, va_K.moved (u := U) (U := U.calling g mk a) (Vm.Alike.refl U.vm) qK, qD⟩, va_recv hK hP (ci := 11) (q0 := 0) rfl rfl, fun U hU hW => ⟨rfl, by rw [hU], by rw [hU]; exact hPc, va_K.moved hW.alike hKc, hDc.weaken (fun _ _ _ _ => trivial)⟩⟩ rfl rfl hl.1 rfl (lv_room (Nat.le_of_ble_eq_true rfl)) dX11_drawn_53 ⟨Nat.le_of_ble_eq_true rfl, Nat.le_of_ble_eq_true rfl⟩) hS (fun q _ h => hFc q h) hFc (fun r_114 u_ t H1 locs ht hvm hw_115 hB hz1 hk1 hS => ?_)
                  obtain ⟨gr_116, hP1, hK1, hD1⟩ := hB
                  rw [ht] at hP1
                  have hK1 := va_K.moved hvm.symm hK1
                  obtain ⟨hP, hD⟩ := va_join (wr := [(aw, .inl (cw, 6, .inr (.inr (.inr (.inr (tz_w w0 w1 w2 w3 w4 w5)))))), (w0, .inr (4, [])), (w1, .inr (1, [])), (w2, .inr (10, [])), (w3, .inr (3, [])), (w4, .inr (9, [])), (w5, .inr (8, []))]) (w1 := [(o, .inr (11, [.ref aw, .ref (ab 0), .ref ai, .ref ak, .ref sc, .ref rd, .ref fo, .ref tx, .int ty, .ref ar, .ref at_, .ref ao])), (ar, .inl (cr, 3, .inl gr_116))]) hP hD [0, 8] [1, 2, 3, 4, 5, 6, 7] rfl rfl (by decide) (by decide) hk1 hFc hP1 hD1
                  generalize H1 = H at hP hS ⊢
                  have hP : va_P (dC, dI) vwCl [(aw, .inl (cw, 6, .inr (.inr (.inr (.inr (tz_w w0 w1 w2 w3 w4 w5)))))), (w0, .inr (4, [])), (w1, .inr (1, [])), (w2, .inr (10, [])), (w3, .inr (3, [])), (w4, .inr (9, [])), (w5, .inr (8, [])), (o, .inr (11, [.ref aw, .ref (ab 0), .ref ai, .ref ak, .ref sc, .ref rd, .ref fo, .ref tx, .int ty, .ref ar, .ref at_, .ref ao])), (ar, .inl (cr, 3, .inl gr_116))] H := hP
                  have hD : va_D A [(aw, .inl (cw, 6, .inr (.inr (.inr (.inr (tz_w w0 w1 w2 w3 w4 w5)))))), (w0, .inr (4, [])), (w1, .inr (1, [])), (w2, .inr (10, [])), (w3, .inr (3, [])), (w4, .inr (9, [])), (w5, .inr (8, [])), (o, .inr (11, [.ref aw, .ref (ab 0), .ref ai, .ref ak, .ref sc, .ref rd, .ref fo, .ref tx, .int ty, .ref ar, .ref at_, .ref ao])), (ar, .inl (cr, 3, .inl gr_116))] := hD
                  obtain rfl : (-2) = r_114 := hw_115.symm
                  have hP9 := hP.sub (ws' := [(o, .inr (11, [.ref aw, .ref (ab 0), .ref ai, .ref ak, .ref sc, .ref rd, .ref fo, .ref tx, .int ty, .ref ar, .ref at_, .ref ao])), (aw, .inl (cw, 6, .inr (.inr (.inr (.inr (tz_w w0 w1 w2 w3 w4 w5)))))), (w0, .inr (4, [])), (w1, .inr (1, [])), (w2, .inr (10, [])), (w3, .inr (3, [])), (w4, .inr (9, [])), (w5, .inr (8, [])), (ar, .inl (cr, 3, .inl gr_116))]) [7, 0, 1, 2, 3, 4, 5, 6, 8] rfl
                  have hD9 := hD.sub (ws' := [(o, .inr (11, [.ref aw, .ref (ab 0), .ref ai, .ref ak, .ref sc, .ref rd, .ref fo, .ref tx, .int ty, .ref ar, .ref at_, .ref ao])), (aw, .inl (cw, 6, .inr (.inr (.inr (.inr (tz_w w0 w1 w2 w3 w4 w5)))))), (w0, .inr (4, [])), (w1, .inr (1, [])), (w2, .inr (10, [])), (w3, .inr (3, [])), (w4, .inr (9, [])), (w5, .inr (8, [])), (ar, .inl (cr, 3, .inl gr_116))]) [7, 0, 1, 2, 3, 4, 5, 6, 8] (by decide) rfl
                  have hK9 := hK.sub (tys' := [(cw, (.object "ThriceCounted$Ones")), (cr, .int)]) [0, 1] rfl
                  exact W.iret (v := (-2)) hx hb hr (fun t ht hW => ⟨⟨(-2), (), rfl, (show (-2) = _ from by unfold dS; exact ((if_pos hc_5).trans ((if_pos hc_9).trans ((if_pos hc_13).trans (if_neg hc_17)))).symm), gr_116, by rw [ht]; exact hP9, va_K.moved hW.alike hK9, hD9⟩, hS.F ht⟩) hS.2.2 dX11_drawn_56
                · exact absurd c_113 (by decide)
          · obtain rfl : 0 = r_11 := (hw_12.trans (if_neg hc_13)).symm
            refine lv_if_eq (tgt := 50) hx hb dX11_drawn_26 (by decide) (fun c_117 => ?_) (fun c_117 => ?_)
            · refine lv_aload_n hx hb dX11_drawn_50 rfl (lv_at hl 0 rfl) ?_
              refine lv_bipush (v := (-2)) hx hb dX11_drawn_51 (by decide) ?_
              have hPc := hP.sub (ws' := [(o, .inr (11, [.ref aw, .ref (ab 0), .ref ai, .ref ak, .ref sc, .ref rd, .ref fo, .ref tx, .int ty, .ref ar, .ref at_, .ref ao])), (ar, .inl (cr, 3, .inl fr))]) [0, 8] rfl
              have hDc := hD.sub (ws' := [(o, .inr (11, [.ref aw, .ref (ab 0), .ref ai, .ref ak, .ref sc, .ref rd, .ref fo, .ref tx, .int ty, .ref ar, .ref at_, .ref ao])), (ar, .inl (cr, 3, .inl fr))]) [0, 8] (by decide) rfl
              have hKc := hK.sub (tys' := [(cr, .int)]) [1] rfl
              have hFc := va_free (wc := [(o, .inr (11, [.ref aw, .ref (ab 0), .ref ai, .ref ak, .ref sc, .ref rd, .ref fo, .ref tx, .int ty, .ref ar, .ref at_, .ref ao])), (ar, .inl (cr, 3, .inl fr))]) hD hS hA [0, 8] rfl
              refine va_calli (va_runV (As := [.int (-2)]) (rest := []) ⟨hx, hb, hml, hown, hts⟩ (x_refuse l dC dI o aw ab ai ak sc rd fo tx ty ar at_ ao cr fr (-2) s.heap.size) (cwV 1 hts gX11_drawn_X11_refuse rfl rfl rfl (by decide +kernel) ⟨Nat.le_of_ble_eq_true rfl, Nat.le_of_ble_eq_true rfl⟩) ⟨fun a U g mk q => by obtain ⟨q0, q1, qP, qK, qD⟩ := q; exact ⟨q0, q1, qP, va_K.moved (u := U) (U := U.calling g mk a) (Vm.Alike.refl U.vm) qK, qD⟩, va_recv hK hP (ci := 11) (q0 := 0) rfl rfl, fun U hU hW => ⟨rfl, by rw [hU], by rw [hU]; exact hPc, va_K.moved hW.alike hKc, hDc.weaken (fun _ _ _ _ => trivial)⟩⟩ rfl rfl hl.1 rfl (lv_room (Nat.le_of_ble_eq_true rfl)) dX11_drawn_53 ⟨Nat.le_of_ble_eq_true rfl, Nat.le_of_ble_eq_true rfl⟩) hS (fun q _ h => hFc q h) hFc (fun r_118 u_ t H1 locs ht hvm hw_119 hB hz1 hk1 hS => ?_)
              obtain ⟨gr_120, hP1, hK1, hD1⟩ := hB
              rw [ht] at hP1
              have hK1 := va_K.moved hvm.symm hK1
              obtain ⟨hP, hD⟩ := va_join (wr := [(aw, .inl (cw, 6, .inr (.inr (.inr (.inr (tz_w w0 w1 w2 w3 w4 w5)))))), (w0, .inr (4, [])), (w1, .inr (1, [])), (w2, .inr (10, [])), (w3, .inr (3, [])), (w4, .inr (9, [])), (w5, .inr (8, []))]) (w1 := [(o, .inr (11, [.ref aw, .ref (ab 0), .ref ai, .ref ak, .ref sc, .ref rd, .ref fo, .ref tx, .int ty, .ref ar, .ref at_, .ref ao])), (ar, .inl (cr, 3, .inl gr_120))]) hP hD [0, 8] [1, 2, 3, 4, 5, 6, 7] rfl rfl (by decide) (by decide) hk1 hFc hP1 hD1
              generalize H1 = H at hP hS ⊢
              have hP : va_P (dC, dI) vwCl [(aw, .inl (cw, 6, .inr (.inr (.inr (.inr (tz_w w0 w1 w2 w3 w4 w5)))))), (w0, .inr (4, [])), (w1, .inr (1, [])), (w2, .inr (10, [])), (w3, .inr (3, [])), (w4, .inr (9, [])), (w5, .inr (8, [])), (o, .inr (11, [.ref aw, .ref (ab 0), .ref ai, .ref ak, .ref sc, .ref rd, .ref fo, .ref tx, .int ty, .ref ar, .ref at_, .ref ao])), (ar, .inl (cr, 3, .inl gr_120))] H := hP
              have hD : va_D A [(aw, .inl (cw, 6, .inr (.inr (.inr (.inr (tz_w w0 w1 w2 w3 w4 w5)))))), (w0, .inr (4, [])), (w1, .inr (1, [])), (w2, .inr (10, [])), (w3, .inr (3, [])), (w4, .inr (9, [])), (w5, .inr (8, [])), (o, .inr (11, [.ref aw, .ref (ab 0), .ref ai, .ref ak, .ref sc, .ref rd, .ref fo, .ref tx, .int ty, .ref ar, .ref at_, .ref ao])), (ar, .inl (cr, 3, .inl gr_120))] := hD
              obtain rfl : (-2) = r_118 := hw_119.symm
              have hP9 := hP.sub (ws' := [(o, .inr (11, [.ref aw, .ref (ab 0), .ref ai, .ref ak, .ref sc, .ref rd, .ref fo, .ref tx, .int ty, .ref ar, .ref at_, .ref ao])), (aw, .inl (cw, 6, .inr (.inr (.inr (.inr (tz_w w0 w1 w2 w3 w4 w5)))))), (w0, .inr (4, [])), (w1, .inr (1, [])), (w2, .inr (10, [])), (w3, .inr (3, [])), (w4, .inr (9, [])), (w5, .inr (8, [])), (ar, .inl (cr, 3, .inl gr_120))]) [7, 0, 1, 2, 3, 4, 5, 6, 8] rfl
              have hD9 := hD.sub (ws' := [(o, .inr (11, [.ref aw, .ref (ab 0), .ref ai, .ref ak, .ref sc, .ref rd, .ref fo, .ref tx, .int ty, .ref ar, .ref at_, .ref ao])), (aw, .inl (cw, 6, .inr (.inr (.inr (.inr (tz_w w0 w1 w2 w3 w4 w5)))))), (w0, .inr (4, [])), (w1, .inr (1, [])), (w2, .inr (10, [])), (w3, .inr (3, [])), (w4, .inr (9, [])), (w5, .inr (8, [])), (ar, .inl (cr, 3, .inl gr_120))]) [7, 0, 1, 2, 3, 4, 5, 6, 8] (by decide) rfl
              have hK9 := hK.sub (tys' := [(cw, (.object "ThriceCounted$Ones")), (cr, .int)]) [0, 1] rfl
              exact W.iret (v := (-2)) hx hb hr (fun t ht hW => ⟨⟨(-2), (), rfl, (show (-2) = _ from by unfold dS; exact ((if_pos hc_5).trans ((if_pos hc_9).trans (if_neg hc_13))).symm), gr_120, by rw [ht]; exact hP9, va_K.moved hW.alike hK9, hD9⟩, hS.F ht⟩) hS.2.2 dX11_drawn_56
            · exact absurd c_117 (by decide)
      · obtain rfl : 0 = r_7 := (hw_8.trans (if_neg hc_9)).symm
        refine lv_if_eq (tgt := 50) hx hb dX11_drawn_16 (by decide) (fun c_121 => ?_) (fun c_121 => ?_)
        · refine lv_aload_n hx hb dX11_drawn_50 rfl (lv_at hl 0 rfl) ?_
          refine lv_bipush (v := (-2)) hx hb dX11_drawn_51 (by decide) ?_
          have hPc := hP.sub (ws' := [(o, .inr (11, [.ref aw, .ref (ab 0), .ref ai, .ref ak, .ref sc, .ref rd, .ref fo, .ref tx, .int ty, .ref ar, .ref at_, .ref ao])), (ar, .inl (cr, 3, .inl fr))]) [0, 8] rfl
          have hDc := hD.sub (ws' := [(o, .inr (11, [.ref aw, .ref (ab 0), .ref ai, .ref ak, .ref sc, .ref rd, .ref fo, .ref tx, .int ty, .ref ar, .ref at_, .ref ao])), (ar, .inl (cr, 3, .inl fr))]) [0, 8] (by decide) rfl
          have hKc := hK.sub (tys' := [(cr, .int)]) [1] rfl
          have hFc := va_free (wc := [(o, .inr (11, [.ref aw, .ref (ab 0), .ref ai, .ref ak, .ref sc, .ref rd, .ref fo, .ref tx, .int ty, .ref ar, .ref at_, .ref ao])), (ar, .inl (cr, 3, .inl fr))]) hD hS hA [0, 8] rfl
          refine va_calli (va_runV (As := [.int (-2)]) (rest := []) ⟨hx, hb, hml, hown, hts⟩ (x_refuse l dC dI o aw ab ai ak sc rd fo tx ty ar at_ ao cr fr (-2) s.heap.size) (cwV 1 hts gX11_drawn_X11_refuse rfl rfl rfl (by decide +kernel) ⟨Nat.le_of_ble_eq_true rfl, Nat.le_of_ble_eq_true rfl⟩) ⟨fun a U g mk q => by obtain ⟨q0, q1, qP, qK, qD⟩ := q; exact ⟨q0, q1, qP, va_K.moved (u := U) (U := U.calling g mk a) (Vm.Alike.refl U.vm) qK, qD⟩, va_recv hK hP (ci := 11) (q0 := 0) rfl rfl, fun U hU hW => ⟨rfl, by rw [hU], by rw [hU]; exact hPc, va_K.moved hW.alike hKc, hDc.weaken (fun _ _ _ _ => trivial)⟩⟩ rfl rfl hl.1 rfl (lv_room (Nat.le_of_ble_eq_true rfl)) dX11_drawn_53 ⟨Nat.le_of_ble_eq_true rfl, Nat.le_of_ble_eq_true rfl⟩) hS (fun q _ h => hFc q h) hFc (fun r_122 u_ t H1 locs ht hvm hw_123 hB hz1 hk1 hS => ?_)
          obtain ⟨gr_124, hP1, hK1, hD1⟩ := hB
          rw [ht] at hP1
          have hK1 := va_K.moved hvm.symm hK1
          obtain ⟨hP, hD⟩ := va_join (wr := [(aw, .inl (cw, 6, .inr (.inr (.inr (.inr (tz_w w0 w1 w2 w3 w4 w5)))))), (w0, .inr (4, [])), (w1, .inr (1, [])), (w2, .inr (10, [])), (w3, .inr (3, [])), (w4, .inr (9, [])), (w5, .inr (8, []))]) (w1 := [(o, .inr (11, [.ref aw, .ref (ab 0), .ref ai, .ref ak, .ref sc, .ref rd, .ref fo, .ref tx, .int ty, .ref ar, .ref at_, .ref ao])), (ar, .inl (cr, 3, .inl gr_124))]) hP hD [0, 8] [1, 2, 3, 4, 5, 6, 7] rfl rfl (by decide) (by decide) hk1 hFc hP1 hD1
          generalize H1 = H at hP hS ⊢
          have hP : va_P (dC, dI) vwCl [(aw, .inl (cw, 6, .inr (.inr (.inr (.inr (tz_w w0 w1 w2 w3 w4 w5)))))), (w0, .inr (4, [])), (w1, .inr (1, [])), (w2, .inr (10, [])), (w3, .inr (3, [])), (w4, .inr (9, [])), (w5, .inr (8, [])), (o, .inr (11, [.ref aw, .ref (ab 0), .ref ai, .ref ak, .ref sc, .ref rd, .ref fo, .ref tx, .int ty, .ref ar, .ref at_, .ref ao])), (ar, .inl (cr, 3, .inl gr_124))] H := hP
          have hD : va_D A [(aw, .inl (cw, 6, .inr (.inr (.inr (.inr (tz_w w0 w1 w2 w3 w4 w5)))))), (w0, .inr (4, [])), (w1, .inr (1, [])), (w2, .inr (10, [])), (w3, .inr (3, [])), (w4, .inr (9, [])), (w5, .inr (8, [])), (o, .inr (11, [.ref aw, .ref (ab 0), .ref ai, .ref ak, .ref sc, .ref rd, .ref fo, .ref tx, .int ty, .ref ar, .ref at_, .ref ao])), (ar, .inl (cr, 3, .inl gr_124))] := hD
          obtain rfl : (-2) = r_122 := hw_123.symm
          have hP9 := hP.sub (ws' := [(o, .inr (11, [.ref aw, .ref (ab 0), .ref ai, .ref ak, .ref sc, .ref rd, .ref fo, .ref tx, .int ty, .ref ar, .ref at_, .ref ao])), (aw, .inl (cw, 6, .inr (.inr (.inr (.inr (tz_w w0 w1 w2 w3 w4 w5)))))), (w0, .inr (4, [])), (w1, .inr (1, [])), (w2, .inr (10, [])), (w3, .inr (3, [])), (w4, .inr (9, [])), (w5, .inr (8, [])), (ar, .inl (cr, 3, .inl gr_124))]) [7, 0, 1, 2, 3, 4, 5, 6, 8] rfl
          have hD9 := hD.sub (ws' := [(o, .inr (11, [.ref aw, .ref (ab 0), .ref ai, .ref ak, .ref sc, .ref rd, .ref fo, .ref tx, .int ty, .ref ar, .ref at_, .ref ao])), (aw, .inl (cw, 6, .inr (.inr (.inr (.inr (tz_w w0 w1 w2 w3 w4 w5)))))), (w0, .inr (4, [])), (w1, .inr (1, [])), (w2, .inr (10, [])), (w3, .inr (3, [])), (w4, .inr (9, [])), (w5, .inr (8, [])), (ar, .inl (cr, 3, .inl gr_124))]) [7, 0, 1, 2, 3, 4, 5, 6, 8] (by decide) rfl
          have hK9 := hK.sub (tys' := [(cw, (.object "ThriceCounted$Ones")), (cr, .int)]) [0, 1] rfl
          exact W.iret (v := (-2)) hx hb hr (fun t ht hW => ⟨⟨(-2), (), rfl, (show (-2) = _ from by unfold dS; exact ((if_pos hc_5).trans (if_neg hc_9)).symm), gr_124, by rw [ht]; exact hP9, va_K.moved hW.alike hK9, hD9⟩, hS.F ht⟩) hS.2.2 dX11_drawn_56
        · exact absurd c_121 (by decide)
  · obtain rfl : 0 = r_3 := (hw_4.trans (if_neg hc_5)).symm
    refine lv_if_eq (tgt := 50) hx hb dX11_drawn_5 (by decide) (fun c_125 => ?_) (fun c_125 => ?_)
    · refine lv_aload_n hx hb dX11_drawn_50 rfl (lv_at hl 0 rfl) ?_
      refine lv_bipush (v := (-2)) hx hb dX11_drawn_51 (by decide) ?_
      have hPc := hP.sub (ws' := [(o, .inr (11, [.ref aw, .ref (ab 0), .ref ai, .ref ak, .ref sc, .ref rd, .ref fo, .ref tx, .int ty, .ref ar, .ref at_, .ref ao])), (ar, .inl (cr, 3, .inl fr))]) [0, 8] rfl
      have hDc := hD.sub (ws' := [(o, .inr (11, [.ref aw, .ref (ab 0), .ref ai, .ref ak, .ref sc, .ref rd, .ref fo, .ref tx, .int ty, .ref ar, .ref at_, .ref ao])), (ar, .inl (cr, 3, .inl fr))]) [0, 8] (by decide) rfl
      have hKc := hK.sub (tys' := [(cr, .int)]) [1] rfl
      have hFc := va_free (wc := [(o, .inr (11, [.ref aw, .ref (ab 0), .ref ai, .ref ak, .ref sc, .ref rd, .ref fo, .ref tx, .int ty, .ref ar, .ref at_, .ref ao])), (ar, .inl (cr, 3, .inl fr))]) hD hS hA [0, 8] rfl
      refine va_calli (va_runV (As := [.int (-2)]) (rest := []) ⟨hx, hb, hml, hown, hts⟩ (x_refuse l dC dI o aw ab ai ak sc rd fo tx ty ar at_ ao cr fr (-2) s.heap.size) (cwV 1 hts gX11_drawn_X11_refuse rfl rfl rfl (by decide +kernel) ⟨Nat.le_of_ble_eq_true rfl, Nat.le_of_ble_eq_true rfl⟩) ⟨fun a U g mk q => by obtain ⟨q0, q1, qP, qK, qD⟩ := q; exact ⟨q0, q1, qP, va_K.moved (u := U) (U := U.calling g mk a) (Vm.Alike.refl U.vm) qK, qD⟩, va_recv hK hP (ci := 11) (q0 := 0) rfl rfl, fun U hU hW => ⟨rfl, by rw [hU], by rw [hU]; exact hPc, va_K.moved hW.alike hKc, hDc.weaken (fun _ _ _ _ => trivial)⟩⟩ rfl rfl hl.1 rfl (lv_room (Nat.le_of_ble_eq_true rfl)) dX11_drawn_53 ⟨Nat.le_of_ble_eq_true rfl, Nat.le_of_ble_eq_true rfl⟩) hS (fun q _ h => hFc q h) hFc (fun r_126 u_ t H1 locs ht hvm hw_127 hB hz1 hk1 hS => ?_)
      obtain ⟨gr_128, hP1, hK1, hD1⟩ := hB
      rw [ht] at hP1
      have hK1 := va_K.moved hvm.symm hK1
      obtain ⟨hP, hD⟩ := va_join (wr := [(aw, .inl (cw, 6, .inr (.inr (.inr (.inr (tz_w w0 w1 w2 w3 w4 w5)))))), (w0, .inr (4, [])), (w1, .inr (1, [])), (w2, .inr (10, [])), (w3, .inr (3, [])), (w4, .inr (9, [])), (w5, .inr (8, []))]) (w1 := [(o, .inr (11, [.ref aw, .ref (ab 0), .ref ai, .ref ak, .ref sc, .ref rd, .ref fo, .ref tx, .int ty, .ref ar, .ref at_, .ref ao])), (ar, .inl (cr, 3, .inl gr_128))]) hP hD [0, 8] [1, 2, 3, 4, 5, 6, 7] rfl rfl (by decide) (by decide) hk1 hFc hP1 hD1
      generalize H1 = H at hP hS ⊢
      have hP : va_P (dC, dI) vwCl [(aw, .inl (cw, 6, .inr (.inr (.inr (.inr (tz_w w0 w1 w2 w3 w4 w5)))))), (w0, .inr (4, [])), (w1, .inr (1, [])), (w2, .inr (10, [])), (w3, .inr (3, [])), (w4, .inr (9, [])), (w5, .inr (8, [])), (o, .inr (11, [.ref aw, .ref (ab 0), .ref ai, .ref ak, .ref sc, .ref rd, .ref fo, .ref tx, .int ty, .ref ar, .ref at_, .ref ao])), (ar, .inl (cr, 3, .inl gr_128))] H := hP
      have hD : va_D A [(aw, .inl (cw, 6, .inr (.inr (.inr (.inr (tz_w w0 w1 w2 w3 w4 w5)))))), (w0, .inr (4, [])), (w1, .inr (1, [])), (w2, .inr (10, [])), (w3, .inr (3, [])), (w4, .inr (9, [])), (w5, .inr (8, [])), (o, .inr (11, [.ref aw, .ref (ab 0), .ref ai, .ref ak, .ref sc, .ref rd, .ref fo, .ref tx, .int ty, .ref ar, .ref at_, .ref ao])), (ar, .inl (cr, 3, .inl gr_128))] := hD
      obtain rfl : (-2) = r_126 := hw_127.symm
      have hP9 := hP.sub (ws' := [(o, .inr (11, [.ref aw, .ref (ab 0), .ref ai, .ref ak, .ref sc, .ref rd, .ref fo, .ref tx, .int ty, .ref ar, .ref at_, .ref ao])), (aw, .inl (cw, 6, .inr (.inr (.inr (.inr (tz_w w0 w1 w2 w3 w4 w5)))))), (w0, .inr (4, [])), (w1, .inr (1, [])), (w2, .inr (10, [])), (w3, .inr (3, [])), (w4, .inr (9, [])), (w5, .inr (8, [])), (ar, .inl (cr, 3, .inl gr_128))]) [7, 0, 1, 2, 3, 4, 5, 6, 8] rfl
      have hD9 := hD.sub (ws' := [(o, .inr (11, [.ref aw, .ref (ab 0), .ref ai, .ref ak, .ref sc, .ref rd, .ref fo, .ref tx, .int ty, .ref ar, .ref at_, .ref ao])), (aw, .inl (cw, 6, .inr (.inr (.inr (.inr (tz_w w0 w1 w2 w3 w4 w5)))))), (w0, .inr (4, [])), (w1, .inr (1, [])), (w2, .inr (10, [])), (w3, .inr (3, [])), (w4, .inr (9, [])), (w5, .inr (8, [])), (ar, .inl (cr, 3, .inl gr_128))]) [7, 0, 1, 2, 3, 4, 5, 6, 8] (by decide) rfl
      have hK9 := hK.sub (tys' := [(cw, (.object "ThriceCounted$Ones")), (cr, .int)]) [0, 1] rfl
      exact W.iret (v := (-2)) hx hb hr (fun t ht hW => ⟨⟨(-2), (), rfl, (show (-2) = _ from by unfold dS; exact (if_neg hc_5).symm), gr_128, by rw [ht]; exact hP9, va_K.moved hW.alike hK9, hD9⟩, hS.F ht⟩) hS.2.2 dX11_drawn_56
    · exact absurd c_125 (by decide)
set_option maxHeartbeats 4000000 in
set_option maxRecDepth 100000 in
theorem m_drawnF (l : Launch) (dC : Nat → ClassId) (dI : Nat → Nat → Nat) (mo : Nat) (nw : Nat) (kp : Nat) (ik : Nat) (mr : Nat) (la_ : Int64) (lb_ : Int64) (mw : Nat) (lc_ : Int64) (ti_ : Int32) (cb_ : Int32) (ld_ : Int64) (le_ : Int64) (mq : Nat) (mz : Nat) (my : Nat) (sm_ : Int32) (mb : Nat) (bl_ : Int32) (ta_ : Int32) (tl_ : Int32) (tk_ : Int32) (vl_ : Int32) (mx : Nat) (mv : Nat) (cr_ : ClassId) (fr_ : Nat → Int32) (na : Int32) (nb : Int32) (nc : Int32) (nd : Int32) (ne : Int32) (sz : Nat) : Met l yX12_drawn wsX12_drawn ({ frames := 2, cells := 0, slots := 0, locals := 46 }) (va_Pc [.ref mo, .int na, .int nb, .int nc, .int nd, .int ne] (fun U => U.heap.size = sz ∧ va_P (dC, dI) vwCl [(mo, .inr (12, [.ref nw, .ref kp, .ref ik, .ref mr, .long la_, .long lb_, .ref mw, .long lc_, .int ti_, .int cb_, .long ld_, .long le_, .ref mq, .ref mz, .ref my, .int sm_, .ref mb, .int bl_, .int ta_, .int tl_, .int tk_, .int vl_, .ref mx, .ref mv])), (mr, .inl (cr_, 3, .inl fr_))] U.heap ∧ va_K (dC, dI) vwCl [(cr_, .int)] U ∧ va_D (fun _ => True) [(mo, .inr (12, [.ref nw, .ref kp, .ref ik, .ref mr, .long la_, .long lb_, .ref mw, .long lc_, .int ti_, .int cb_, .long ld_, .long le_, .ref mq, .ref mz, .ref my, .int sm_, .ref mb, .int bl_, .int ta_, .int tl_, .int tk_, .int vl_, .ref mx, .ref mv])), (mr, .inl (cr_, 3, .inl fr_))])) (va_Qi (fun (r : Int32) (_ : Unit) => r = (dS yS eL eG na nb nc nd ne)) (fun _ t => ∃ (gr_ : Nat → Int32), va_P (dC, dI) vwCl [(mo, .inr (12, [.ref nw, .ref kp, .ref ik, .ref mr, .long la_, .long lb_, .ref mw, .long lc_, .int ti_, .int cb_, .long ld_, .long le_, .ref mq, .ref mz, .ref my, .int sm_, .ref mb, .int bl_, .int ta_, .int tl_, .int tk_, .int vl_, .ref mx, .ref mv])), (mr, .inl (cr_, 3, .inl gr_))] t.heap ∧ va_K (dC, dI) vwCl [(cr_, .int)] t ∧ va_D (va_A [(mo, .inr (12, [.ref nw, .ref kp, .ref ik, .ref mr, .long la_, .long lb_, .ref mw, .long lc_, .int ti_, .int cb_, .long ld_, .long le_, .ref mq, .ref mz, .ref my, .int sm_, .ref mb, .int bl_, .int ta_, .int tl_, .int tk_, .int vl_, .ref mx, .ref mv])), (mr, .inl (cr_, 3, .inl fr_))] sz) [(mo, .inr (12, [.ref nw, .ref kp, .ref ik, .ref mr, .long la_, .long lb_, .ref mw, .long lc_, .int ti_, .int cb_, .long ld_, .long le_, .ref mq, .ref mz, .ref my, .int sm_, .ref mb, .int bl_, .int ta_, .int tl_, .int tk_, .int vl_, .ref mx, .ref mv])), (mr, .inl (cr_, 3, .inl gr_))]) (va_A [(mo, .inr (12, [.ref nw, .ref kp, .ref ik, .ref mr, .long la_, .long lb_, .ref mw, .long lc_, .int ti_, .int cb_, .long ld_, .long le_, .ref mq, .ref mz, .ref my, .int sm_, .ref mb, .int bl_, .int ta_, .int tl_, .int tk_, .int vl_, .ref mx, .ref mv])), (mr, .inl (cr_, 3, .inl fr_))] sz)) 0 0 (va_A [(mo, .inr (12, [.ref nw, .ref kp, .ref ik, .ref mr, .long la_, .long lb_, .ref mw, .long lc_, .int ti_, .int cb_, .long ld_, .long le_, .ref mq, .ref mz, .ref my, .int sm_, .ref mb, .int bl_, .int ta_, .int tl_, .int tk_, .int vl_, .ref mx, .ref mv])), (mr, .inl (cr_, 3, .inl fr_))] sz) := by
  refine Met.ofW (cc := cX12_drawn) (maxL := 13) (ret := (some .int)) (by decide) rfl ?_
  intro p e s m args below meth c s₁ B hml hv
  obtain ⟨rfl, hsz, hP, hK, hD0⟩ := hv
  have hx := B.exec
  have hb := B.bytes
  have hr := B.returns
  have hts := atoms_spec (ws := wsX12_drawn) B.pre
  have hown : s.vm.findClass RX12 = some m.cls := findClass_of_methodNamed B.named
  have hlocks := B.notSynchronized
  subst hsz
  have hD := hD0.self (sz := s.heap.size)
  generalize hAe : va_A [(mo, .inr (12, [.ref nw, .ref kp, .ref ik, .ref mr, .long la_, .long lb_, .ref mw, .long lc_, .int ti_, .int cb_, .long ld_, .long le_, .ref mq, .ref mz, .ref my, .int sm_, .ref mb, .int bl_, .int ta_, .int tl_, .int tk_, .int vl_, .ref mx, .ref mv])), (mr, .inl (cr_, 3, .inl fr_))] s.heap.size = A at hD ⊢
  have hA : ∀ q : Nat, s.heap.size ≤ q → A q := fun q h => by rw [← hAe]; exact Or.inr h
  have hS : va_S A s.heap s.heap [] := va_S.rf
  have hP : va_P (dC, dI) vwCl [(mo, .inr (12, [.ref nw, .ref kp, .ref ik, .ref mr, .long la_, .long lb_, .ref mw, .long lc_, .int ti_, .int cb_, .long ld_, .long le_, .ref mq, .ref mz, .ref my, .int sm_, .ref mb, .int bl_, .int ta_, .int tl_, .int tk_, .int vl_, .ref mx, .ref mv])), (mr, .inl (cr_, 3, .inl fr_))] s.heap := hP
  have hl := lv_entry ([.ref mo, .int na, .int nb, .int nc, .int nd, .int ne]) (n := 13) (Nat.le_of_ble_eq_true rfl)
  rw [lg_entry_eq]
  generalize (lg_sl ([.ref mo, .int na, .int nb, .int nc, .int nd, .int ne]) ++ List.replicate (13 - (lg_sl ([.ref mo, .int na, .int nb, .int nc, .int nd, .int ne])).length) Slot.unset).toArray = ls at hl ⊢
  have hl : lv_has ls 13 [(0, .ref mo), (1, .int na), (2, .int nb), (3, .int nc), (4, .int nd), (5, .int ne)] := hl
  refine lv_iload_n hx hb dX12_drawn_0 rfl (lv_at hl 1 rfl) ?_
  refine vp_callSi (va_Run.run (va_runS (As := [.int na]) (rest := []) ⟨hx, hb, hml, hown, hts⟩ (m_isWay l dC dI na) (va_cwS 1 hts gX12_drawn_X12_isWay rfl rfl rfl (by decide +kernel) ⟨Nat.le_of_ble_eq_true rfl, Nat.le_of_ble_eq_true rfl⟩) ⟨fun a U g mk q => ⟨q.1, trivial⟩, fun U hU hW => ⟨rfl, trivial⟩⟩ rfl rfl hl.1 rfl (lv_room (Nat.le_of_ble_eq_true rfl)) dX12_drawn_1 ⟨Nat.le_of_ble_eq_true rfl, Nat.le_of_ble_eq_true rfl⟩)) (fun r_1 hw_2 => ?_)
  by_cases hc_3 : 0 ≤ na ∧ na ≤ 5
  · obtain rfl : 1 = r_1 := (hw_2.trans (if_pos hc_3)).symm
    refine lv_if_eq (tgt := 59) hx hb dX12_drawn_4 (by decide) (fun c_4 => ?_) (fun c_4 => ?_)
    · exact absurd c_4 (by decide)
    · refine lv_iload_n hx hb dX12_drawn_7 rfl (lv_at hl 2 rfl) ?_
      refine lv_i2l (v := nb.toInt64) hx hb dX12_drawn_8 rfl ?_
      refine lv_ldc2 hx hb hown (hts (.constantLong RX12 99 (80)) (by decide +kernel)) dX12_drawn_9 ?_
      refine lv_ldc2 hx hb hown (hts (.constantLong RX12 101 (120)) (by decide +kernel)) dX12_drawn_12 ?_
      refine vp_callSi (va_Run.run (va_runS (As := [.long nb.toInt64, .long 80, .long 120]) (rest := []) ⟨hx, hb, hml, hown, hts⟩ (m_in l dC dI nb.toInt64 80 120) (va_cwS 3 hts gX12_drawn_X12_in rfl rfl rfl (by decide +kernel) ⟨Nat.le_of_ble_eq_true rfl, Nat.le_of_ble_eq_true rfl⟩) ⟨fun a U g mk q => ⟨q.1, trivial⟩, fun U hU hW => ⟨rfl, trivial⟩⟩ rfl rfl hl.1 rfl (lv_room (Nat.le_of_ble_eq_true rfl)) dX12_drawn_15 ⟨Nat.le_of_ble_eq_true rfl, Nat.le_of_ble_eq_true rfl⟩)) (fun r_5 hw_6 => ?_)
      by_cases hc_7 : 80 ≤ nb ∧ nb ≤ 120
      · obtain rfl : 1 = r_5 := (hw_6.trans (if_pos ((tz_in64 (by first | rfl | decide) rfl (by first | rfl | decide)).mpr hc_7))).symm
        refine lv_if_eq (tgt := 59) hx hb dX12_drawn_18 (by decide) (fun c_8 => ?_) (fun c_8 => ?_)
        · exact absurd c_8 (by decide)
        · refine lv_iload_n hx hb dX12_drawn_21 rfl (lv_at hl 3 rfl) ?_
          refine lv_i2l (v := nc.toInt64) hx hb dX12_drawn_22 rfl ?_
          refine lv_lconst (v := 0) hx hb dX12_drawn_23 (by decide) ?_
          refine lv_ldc2 hx hb hown (hts (.constantLong RX12 237 (60)) (by decide +kernel)) dX12_drawn_24 ?_
          refine vp_callSi (va_Run.run (va_runS (As := [.long nc.toInt64, .long 0, .long 60]) (rest := []) ⟨hx, hb, hml, hown, hts⟩ (m_in l dC dI nc.toInt64 0 60) (va_cwS 3 hts gX12_drawn_X12_in rfl rfl rfl (by decide +kernel) ⟨Nat.le_of_ble_eq_true rfl, Nat.le_of_ble_eq_true rfl⟩) ⟨fun a U g mk q => ⟨q.1, trivial⟩, fun U hU hW => ⟨rfl, trivial⟩⟩ rfl rfl hl.1 rfl (lv_room (Nat.le_of_ble_eq_true rfl)) dX12_drawn_27 ⟨Nat.le_of_ble_eq_true rfl, Nat.le_of_ble_eq_true rfl⟩)) (fun r_9 hw_10 => ?_)
          by_cases hc_11 : 0 ≤ nc ∧ nc ≤ 60
          · obtain rfl : 1 = r_9 := (hw_10.trans (if_pos ((tz_in64 (by first | rfl | decide) rfl (by first | rfl | decide)).mpr hc_11))).symm
            refine lv_if_eq (tgt := 59) hx hb dX12_drawn_30 (by decide) (fun c_12 => ?_) (fun c_12 => ?_)
            · exact absurd c_12 (by decide)
            · refine lv_iload hx hb dX12_drawn_33 (lv_at hl 4 rfl) ?_
              refine lv_i2l (v := nd.toInt64) hx hb dX12_drawn_35 rfl ?_
              refine lv_lconst (v := 0) hx hb dX12_drawn_36 (by decide) ?_
              refine lv_ldc2 hx hb hown (hts (.constantLong RX12 239 (999999)) (by decide +kernel)) dX12_drawn_37 ?_
              refine vp_callSi (va_Run.run (va_runS (As := [.long nd.toInt64, .long 0, .long 999999]) (rest := []) ⟨hx, hb, hml, hown, hts⟩ (m_in l dC dI nd.toInt64 0 999999) (va_cwS 3 hts gX12_drawn_X12_in rfl rfl rfl (by decide +kernel) ⟨Nat.le_of_ble_eq_true rfl, Nat.le_of_ble_eq_true rfl⟩) ⟨fun a U g mk q => ⟨q.1, trivial⟩, fun U hU hW => ⟨rfl, trivial⟩⟩ rfl rfl hl.1 rfl (lv_room (Nat.le_of_ble_eq_true rfl)) dX12_drawn_40 ⟨Nat.le_of_ble_eq_true rfl, Nat.le_of_ble_eq_true rfl⟩)) (fun r_13 hw_14 => ?_)
              by_cases hc_15 : 0 ≤ nd ∧ nd ≤ 999999
              · obtain rfl : 1 = r_13 := (hw_14.trans (if_pos ((tz_in64 (by first | rfl | decide) rfl (by first | rfl | decide)).mpr hc_15))).symm
                refine lv_if_eq (tgt := 59) hx hb dX12_drawn_43 (by decide) (fun c_16 => ?_) (fun c_16 => ?_)
                · exact absurd c_16 (by decide)
                · refine lv_iload hx hb dX12_drawn_46 (lv_at hl 5 rfl) ?_
                  refine lv_i2l (v := ne.toInt64) hx hb dX12_drawn_48 rfl ?_
                  refine lv_lconst (v := 0) hx hb dX12_drawn_49 (by decide) ?_
                  refine lv_ldc2 hx hb hown (hts (.constantLong RX12 241 (2)) (by decide +kernel)) dX12_drawn_50 ?_
                  refine vp_callSi (va_Run.run (va_runS (As := [.long ne.toInt64, .long 0, .long 2]) (rest := []) ⟨hx, hb, hml, hown, hts⟩ (m_in l dC dI ne.toInt64 0 2) (va_cwS 3 hts gX12_drawn_X12_in rfl rfl rfl (by decide +kernel) ⟨Nat.le_of_ble_eq_true rfl, Nat.le_of_ble_eq_true rfl⟩) ⟨fun a U g mk q => ⟨q.1, trivial⟩, fun U hU hW => ⟨rfl, trivial⟩⟩ rfl rfl hl.1 rfl (lv_room (Nat.le_of_ble_eq_true rfl)) dX12_drawn_53 ⟨Nat.le_of_ble_eq_true rfl, Nat.le_of_ble_eq_true rfl⟩)) (fun r_17 hw_18 => ?_)
                  by_cases hc_19 : 0 ≤ ne ∧ ne ≤ 2
                  · obtain rfl : 1 = r_17 := (hw_18.trans (if_pos ((tz_in64 (by first | rfl | decide) rfl (by first | rfl | decide)).mpr hc_19))).symm
                    refine lv_if_ne (tgt := 66) hx hb dX12_drawn_56 (by decide) (fun c_20 => ?_) (fun c_20 => ?_)
                    · obtain ⟨nn, hnn, rfl⟩ := tz_pick (n := 61) hc_11.1 hc_11.2 (by decide)
                      obtain ⟨sn, hsn, rfl⟩ := tz_pick (n := 1000000) hc_15.1 hc_15.2 (by decide)
                      have en : (nI nn).toNatClampNeg = nn := nI_clamp (by omega)
                      have es : (nI sn).toNatClampNeg = sn := nI_clamp (by omega)
                      have hdx := tz_dxlt (sd := sn) (by omega)
                      refine lv_iload hx hb dX12_drawn_66 (lv_at hl 4 rfl) ?_
                      refine lv_i2l (v := (nI sn).toInt64) hx hb dX12_drawn_68 rfl ?_
                      refine tz_l (lN sn) (nI_l (by omega)) ?_
                      refine lv_lstore (lv' := [(6, .long (lN sn)), (0, .ref mo), (1, .int na), (2, .int nb), (3, .int (nI nn)), (4, .int (nI sn)), (5, .int ne)]) hx hb dX12_drawn_69 hl (by decide) rfl (fun ls hl => ?_)
                      refine lv_iconst (v := 0) hx hb dX12_drawn_71 (by decide) ?_
                      refine lv_istore (lv' := [(8, .int 0), (6, .long (lN sn)), (0, .ref mo), (1, .int na), (2, .int nb), (3, .int (nI nn)), (4, .int (nI sn)), (5, .int ne)]) hx hb dX12_drawn_72 hl (by decide) rfl (fun ls hl => ?_)
                      refine lv_iconst (v := (-1)) hx hb dX12_drawn_74 (by decide) ?_
                      refine lv_istore (lv' := [(9, .int (-1)), (8, .int 0), (6, .long (lN sn)), (0, .ref mo), (1, .int na), (2, .int nb), (3, .int (nI nn)), (4, .int (nI sn)), (5, .int ne)]) hx hb dX12_drawn_75 hl (by decide) rfl (fun ls hl => ?_)
                      refine lv_iconst (v := (-1)) hx hb dX12_drawn_77 (by decide) ?_
                      refine lv_istore (lv' := [(10, .int (-1)), (9, .int (-1)), (8, .int 0), (6, .long (lN sn)), (0, .ref mo), (1, .int na), (2, .int nb), (3, .int (nI nn)), (4, .int (nI sn)), (5, .int ne)]) hx hb dX12_drawn_78 hl (by decide) rfl (fun ls hl => ?_)
                      refine lv_iconst (v := 0) hx hb dX12_drawn_80 (by decide) ?_
                      refine lv_istore (lv' := [(11, .int 0), (10, .int (-1)), (9, .int (-1)), (8, .int 0), (6, .long (lN sn)), (0, .ref mo), (1, .int na), (2, .int nb), (3, .int (nI nn)), (4, .int (nI sn)), (5, .int ne)]) hx hb dX12_drawn_81 hl (by decide) rfl (fun ls hl => ?_)
                      refine tz_for (σ := Int64 × Int32 × Int32 × Int32 × Int32 × Array Slot) (fun x => W p l e _ s m _ below meth c _ _ _ _ _ (F0 m 83 x.2.2.2.2.2 [])) (fun i x => x.1 = lN (dX sn i) ∧ x.2.1 = dR nb (dT (yS na) nb sn) i ∧ x.2.2.1 = eL (dT (yS na) nb sn) i ∧ x.2.2.2.1 = eG (dT (yS na) nb sn) i ∧ x.2.2.2.2.1 = nI i ∧ lv_has x.2.2.2.2.2 13 [(11, .int x.2.2.2.2.1), (10, .int x.2.2.2.1), (9, .int x.2.2.1), (8, .int x.2.1), (6, .long x.1), (0, .ref mo), (1, .int na), (2, .int nb), (3, .int (nI nn)), (4, .int (nI sn)), (5, .int ne)]) nn ?_ ?_ (lN sn, 0, -1, -1, 0, ls) ⟨rfl, rfl, rfl, rfl, rfl, lv_sub hl [0, 1, 2, 3, 4, 5, 6, 7, 8, 9, 10] rfl⟩
                      · rintro ⟨xx, rr, le, gr, kk, ls⟩ ⟨ex, er, el, eg, ek, hl⟩
                        dsimp only at ex er el eg ek hl ⊢
                        refine lv_iload hx hb dX12_drawn_83 (lv_at hl 0 rfl) ?_
                        refine lv_iload_n hx hb dX12_drawn_85 rfl (lv_at hl 8 rfl) ?_
                        refine lv_icmp_ge (tgt := 183) hx hb dX12_drawn_86 (by decide) (fun c_21 => ?_) (fun c_21 => ?_)
                        · refine lv_iload hx hb dX12_drawn_183 (lv_at hl 10 rfl) ?_
                          refine lv_if_ne (tgt := 193) hx hb dX12_drawn_185 (by decide) (fun c_22 => ?_) (fun c_22 => ?_)
                          · refine lv_iload hx hb dX12_drawn_193 (lv_at hl 10 rfl) ?_
                            refine lv_iconst (v := 1) hx hb dX12_drawn_195 (by decide) ?_
                            refine lv_icmp_ne (tgt := 204) hx hb dX12_drawn_196 (by decide) (fun c_23 => ?_) (fun c_23 => ?_)
                            · refine lv_iload hx hb dX12_drawn_204 (lv_at hl 1 rfl) ?_
                              have hP9 := hP.sub (ws' := [(mo, .inr (12, [.ref nw, .ref kp, .ref ik, .ref mr, .long la_, .long lb_, .ref mw, .long lc_, .int ti_, .int cb_, .long ld_, .long le_, .ref mq, .ref mz, .ref my, .int sm_, .ref mb, .int bl_, .int ta_, .int tl_, .int tk_, .int vl_, .ref mx, .ref mv])), (mr, .inl (cr_, 3, .inl fr_))]) [0, 1] rfl
                              have hD9 := hD.sub (ws' := [(mo, .inr (12, [.ref nw, .ref kp, .ref ik, .ref mr, .long la_, .long lb_, .ref mw, .long lc_, .int ti_, .int cb_, .long ld_, .long le_, .ref mq, .ref mz, .ref my, .int sm_, .ref mb, .int bl_, .int ta_, .int tl_, .int tk_, .int vl_, .ref mx, .ref mv])), (mr, .inl (cr_, 3, .inl fr_))]) [0, 1] (by decide) rfl
                              have hK9 := hK.sub (tys' := [(cr_, .int)]) [0] rfl
                              exact W.iret (v := gr) hx hb hr (fun t ht hW => ⟨⟨gr, (), rfl, (by unfold dS; rw [en, es]; exact eg.trans ((if_pos hc_3).trans ((if_pos hc_7).trans ((if_pos hc_11).trans ((if_pos hc_15).trans ((if_pos hc_19).trans ((if_neg c_22).trans (if_neg c_23))))))).symm), fr_, by rw [ht]; exact hP9, va_K.moved hW.alike hK9, hD9⟩, hS.F ht⟩) hS.2.2 dX12_drawn_206
                            · refine lv_iload hx hb dX12_drawn_199 (lv_at hl 2 rfl) ?_
                              refine lv_goto (tgt := 206) hx hb dX12_drawn_201 (by decide) ?_
                              have hP9 := hP.sub (ws' := [(mo, .inr (12, [.ref nw, .ref kp, .ref ik, .ref mr, .long la_, .long lb_, .ref mw, .long lc_, .int ti_, .int cb_, .long ld_, .long le_, .ref mq, .ref mz, .ref my, .int sm_, .ref mb, .int bl_, .int ta_, .int tl_, .int tk_, .int vl_, .ref mx, .ref mv])), (mr, .inl (cr_, 3, .inl fr_))]) [0, 1] rfl
                              have hD9 := hD.sub (ws' := [(mo, .inr (12, [.ref nw, .ref kp, .ref ik, .ref mr, .long la_, .long lb_, .ref mw, .long lc_, .int ti_, .int cb_, .long ld_, .long le_, .ref mq, .ref mz, .ref my, .int sm_, .ref mb, .int bl_, .int ta_, .int tl_, .int tk_, .int vl_, .ref mx, .ref mv])), (mr, .inl (cr_, 3, .inl fr_))]) [0, 1] (by decide) rfl
                              have hK9 := hK.sub (tys' := [(cr_, .int)]) [0] rfl
                              exact W.iret (v := le) hx hb hr (fun t ht hW => ⟨⟨le, (), rfl, (by unfold dS; rw [en, es]; exact el.trans ((if_pos hc_3).trans ((if_pos hc_7).trans ((if_pos hc_11).trans ((if_pos hc_15).trans ((if_pos hc_19).trans ((if_neg c_22).trans (if_pos c_23))))))).symm), fr_, by rw [ht]; exact hP9, va_K.moved hW.alike hK9, hD9⟩, hS.F ht⟩) hS.2.2 dX12_drawn_206
                          · refine lv_iload hx hb dX12_drawn_188 (lv_at hl 3 rfl) ?_
                            refine lv_goto (tgt := 206) hx hb dX12_drawn_190 (by decide) ?_
                            have hP9 := hP.sub (ws' := [(mo, .inr (12, [.ref nw, .ref kp, .ref ik, .ref mr, .long la_, .long lb_, .ref mw, .long lc_, .int ti_, .int cb_, .long ld_, .long le_, .ref mq, .ref mz, .ref my, .int sm_, .ref mb, .int bl_, .int ta_, .int tl_, .int tk_, .int vl_, .ref mx, .ref mv])), (mr, .inl (cr_, 3, .inl fr_))]) [0, 1] rfl
                            have hD9 := hD.sub (ws' := [(mo, .inr (12, [.ref nw, .ref kp, .ref ik, .ref mr, .long la_, .long lb_, .ref mw, .long lc_, .int ti_, .int cb_, .long ld_, .long le_, .ref mq, .ref mz, .ref my, .int sm_, .ref mb, .int bl_, .int ta_, .int tl_, .int tk_, .int vl_, .ref mx, .ref mv])), (mr, .inl (cr_, 3, .inl fr_))]) [0, 1] (by decide) rfl
                            have hK9 := hK.sub (tys' := [(cr_, .int)]) [0] rfl
                            exact W.iret (v := rr) hx hb hr (fun t ht hW => ⟨⟨rr, (), rfl, (by unfold dS; rw [en, es]; exact er.trans ((if_pos hc_3).trans ((if_pos hc_7).trans ((if_pos hc_11).trans ((if_pos hc_15).trans ((if_pos hc_19).trans (if_pos c_22)))))).symm), fr_, by rw [ht]; exact hP9, va_K.moved hW.alike hK9, hD9⟩, hS.F ht⟩) hS.2.2 dX12_drawn_206
                        · exact absurd (by rw [ek]; exact nI_le (Nat.le_refl nn) (by omega)) c_21
                      · rintro ii ⟨xx, rr, le, gr, kk, ls⟩ hi ⟨ex, er, el, eg, ek, hl⟩ ih
                        dsimp only at ex er el eg ek hl ⊢
                        refine lv_iload hx hb dX12_drawn_83 (lv_at hl 0 rfl) ?_
                        refine lv_iload_n hx hb dX12_drawn_85 rfl (lv_at hl 8 rfl) ?_
                        refine lv_icmp_ge (tgt := 183) hx hb dX12_drawn_86 (by decide) (fun c_24 => ?_) (fun c_24 => ?_)
                        · exact absurd c_24 (by rw [ek]; exact nI_ge hi (by omega))
                        · refine lv_lload hx hb dX12_drawn_89 (lv_at hl 4 rfl) ?_
                          refine lv_ldc2 hx hb hown (hts (.constantLong RX12 243 (1103515245)) (by decide +kernel)) dX12_drawn_91 ?_
                          refine lv_lmul hx hb dX12_drawn_94 ?_
                          refine lv_ldc2 hx hb hown (hts (.constantLong RX12 245 (12345)) (by decide +kernel)) dX12_drawn_95 ?_
                          refine lv_ladd hx hb dX12_drawn_98 ?_
                          refine lv_ldc2 hx hb hown (hts (.constantLong RX12 247 (2147483648)) (by decide +kernel)) dX12_drawn_99 ?_
                          refine lv_lrem hx hb dX12_drawn_102 (by decide) ?_
                          refine tz_l (lN (dX sn (ii + 1))) (by rw [ex]; exact tz_dx (hdx ii)) ?_
                          refine lv_lstore (lv' := [(6, .long (lN (dX sn (ii + 1)))), (11, .int kk), (10, .int gr), (9, .int le), (8, .int rr), (0, .ref mo), (1, .int na), (2, .int nb), (3, .int (nI nn)), (4, .int (nI sn)), (5, .int ne)]) hx hb dX12_drawn_103 hl (by decide) rfl (fun ls hl => ?_)
                          refine lv_iload_n hx hb dX12_drawn_105 rfl (lv_at hl 7 rfl) ?_
                          refine lv_iload_n hx hb dX12_drawn_106 rfl (lv_at hl 6 rfl) ?_
                          refine lv_lload hx hb dX12_drawn_107 (lv_at hl 0 rfl) ?_
                          refine lv_ldc2 hx hb hown (hts (.constantLong RX12 249 (65536)) (by decide +kernel)) dX12_drawn_109 ?_
                          refine lv_ldiv hx hb dX12_drawn_112 (by decide) ?_
                          refine lv_ldc2 hx hb hown (hts (.constantLong RX12 206 (20)) (by decide +kernel)) dX12_drawn_113 ?_
                          refine lv_lrem hx hb dX12_drawn_116 (by decide) ?_
                          refine lv_l2i (v := (((lN (dX sn (ii + 1))) / 65536) - ((lN (dX sn (ii + 1))) / 65536) / 20 * 20).toInt32) hx hb dX12_drawn_117 rfl ?_
                          refine tz_i (nI (dX sn (ii + 1) / 65536 % 20)) (tz_di (hdx (ii + 1))) ?_
                          refine vp_callSi (va_Run.run (va_runS (As := [.int na, .int (nI (dX sn (ii + 1) / 65536 % 20))]) (rest := [.int nb]) ⟨hx, hb, hml, hown, hts⟩ (m_offBy l dC dI na (nI (dX sn (ii + 1) / 65536 % 20)) hc_3) (va_cwS 2 hts gX12_drawn_X12_offBy rfl rfl rfl (by decide +kernel) ⟨Nat.le_of_ble_eq_true rfl, Nat.le_of_ble_eq_true rfl⟩) ⟨fun a U g mk q => ⟨q.1, trivial⟩, fun U hU hW => ⟨rfl, trivial⟩⟩ rfl rfl hl.1 rfl (lv_room (Nat.le_of_ble_eq_true rfl)) dX12_drawn_118 ⟨Nat.le_of_ble_eq_true rfl, Nat.le_of_ble_eq_true rfl⟩)) (fun r_25 hw_26 => ?_)
                          obtain rfl : (yS na (nI (dX sn (ii + 1) / 65536 % 20))) = r_25 := hw_26.symm
                          refine lv_iadd hx hb dX12_drawn_121 ?_
                          refine tz_i (dT (yS na) nb sn ii) rfl ?_
                          refine lv_istore (lv' := [(12, .int (dT (yS na) nb sn ii)), (6, .long (lN (dX sn (ii + 1)))), (11, .int kk), (10, .int gr), (9, .int le), (8, .int rr), (0, .ref mo), (1, .int na), (2, .int nb), (3, .int (nI nn)), (4, .int (nI sn)), (5, .int ne)]) hx hb dX12_drawn_122 hl (by decide) rfl (fun ls hl => ?_)
                          refine lv_iload hx hb dX12_drawn_124 (lv_at hl 5 rfl) ?_
                          refine lv_iload hx hb dX12_drawn_126 (lv_at hl 0 rfl) ?_
                          refine lv_iload_n hx hb dX12_drawn_128 rfl (lv_at hl 8 rfl) ?_
                          refine lv_icmp_ne (tgt := 136) hx hb dX12_drawn_129 (by decide) (fun c_27 => ?_) (fun c_27 => ?_)
                          · refine lv_iconst (v := 0) hx hb dX12_drawn_136 (by decide) ?_
                            refine lv_iadd hx hb dX12_drawn_137 ?_
                            refine lv_istore (lv' := [(8, .int (rr + 0)), (12, .int (dT (yS na) nb sn ii)), (6, .long (lN (dX sn (ii + 1)))), (11, .int kk), (10, .int gr), (9, .int le), (0, .ref mo), (1, .int na), (2, .int nb), (3, .int (nI nn)), (4, .int (nI sn)), (5, .int ne)]) hx hb dX12_drawn_138 hl (by decide) rfl (fun ls hl => ?_)
                            refine lv_iload hx hb dX12_drawn_140 (lv_at hl 3 rfl) ?_
                            refine lv_if_eq (tgt := 152) hx hb dX12_drawn_142 (by decide) (fun c_28 => ?_) (fun c_28 => ?_)
                            · refine lv_iload hx hb dX12_drawn_152 (lv_at hl 1 rfl) ?_
                              refine lv_goto (tgt := 159) hx hb dX12_drawn_154 (by decide) ?_
                              refine lv_istore (lv' := [(9, .int (dT (yS na) nb sn ii)), (8, .int (rr + 0)), (12, .int (dT (yS na) nb sn ii)), (6, .long (lN (dX sn (ii + 1)))), (11, .int kk), (10, .int gr), (0, .ref mo), (1, .int na), (2, .int nb), (3, .int (nI nn)), (4, .int (nI sn)), (5, .int ne)]) hx hb dX12_drawn_159 hl (by decide) rfl (fun ls hl => ?_)
                              refine lv_iload hx hb dX12_drawn_161 (lv_at hl 2 rfl) ?_
                              refine lv_iload hx hb dX12_drawn_163 (lv_at hl 5 rfl) ?_
                              refine lv_icmp_le (tgt := 173) hx hb dX12_drawn_165 (by decide) (fun c_29 => ?_) (fun c_29 => ?_)
                              · refine lv_iload hx hb dX12_drawn_173 (lv_at hl 5 rfl) ?_
                                refine lv_istore (lv' := [(10, .int gr), (9, .int (dT (yS na) nb sn ii)), (8, .int (rr + 0)), (12, .int (dT (yS na) nb sn ii)), (6, .long (lN (dX sn (ii + 1)))), (11, .int kk), (0, .ref mo), (1, .int na), (2, .int nb), (3, .int (nI nn)), (4, .int (nI sn)), (5, .int ne)]) hx hb dX12_drawn_175 hl (by decide) rfl (fun ls hl => ?_)
                                refine lv_iinc (v := (kk + 1)) (lv' := [(11, .int (kk + 1)), (10, .int gr), (9, .int (dT (yS na) nb sn ii)), (8, .int (rr + 0)), (12, .int (dT (yS na) nb sn ii)), (6, .long (lN (dX sn (ii + 1)))), (0, .ref mo), (1, .int na), (2, .int nb), (3, .int (nI nn)), (4, .int (nI sn)), (5, .int ne)]) hx hb dX12_drawn_177 hl (k := 5) rfl rfl (by decide) rfl (fun ls hl => ?_)
                                refine lv_goto (tgt := 83) hx hb dX12_drawn_180 (by decide) ?_
                                exact ih ((lN (dX sn (ii + 1))), (rr + 0), (dT (yS na) nb sn ii), gr, kk + 1, ls) ⟨rfl, by rw [dR, if_neg c_27, ← er, Int32.add_zero], by rw [eL, if_pos (show ii = 0 from tz_n0 (by omega) (ek ▸ c_28))], by rw [eG, ← eg, if_pos c_29], by rw [ek]; exact nI_1 ii, lv_sub hl [0, 1, 2, 3, 5, 6, 7, 8, 9, 10, 11] rfl⟩
                              · refine lv_iload hx hb dX12_drawn_168 (lv_at hl 2 rfl) ?_
                                refine lv_goto (tgt := 175) hx hb dX12_drawn_170 (by decide) ?_
                                refine lv_istore (lv' := [(10, .int (dT (yS na) nb sn ii)), (9, .int (dT (yS na) nb sn ii)), (8, .int (rr + 0)), (12, .int (dT (yS na) nb sn ii)), (6, .long (lN (dX sn (ii + 1)))), (11, .int kk), (0, .ref mo), (1, .int na), (2, .int nb), (3, .int (nI nn)), (4, .int (nI sn)), (5, .int ne)]) hx hb dX12_drawn_175 hl (by decide) rfl (fun ls hl => ?_)
                                refine lv_iinc (v := (kk + 1)) (lv' := [(11, .int (kk + 1)), (10, .int (dT (yS na) nb sn ii)), (9, .int (dT (yS na) nb sn ii)), (8, .int (rr + 0)), (12, .int (dT (yS na) nb sn ii)), (6, .long (lN (dX sn (ii + 1)))), (0, .ref mo), (1, .int na), (2, .int nb), (3, .int (nI nn)), (4, .int (nI sn)), (5, .int ne)]) hx hb dX12_drawn_177 hl (k := 5) rfl rfl (by decide) rfl (fun ls hl => ?_)
                                refine lv_goto (tgt := 83) hx hb dX12_drawn_180 (by decide) ?_
                                exact ih ((lN (dX sn (ii + 1))), (rr + 0), (dT (yS na) nb sn ii), (dT (yS na) nb sn ii), kk + 1, ls) ⟨rfl, by rw [dR, if_neg c_27, ← er, Int32.add_zero], by rw [eL, if_pos (show ii = 0 from tz_n0 (by omega) (ek ▸ c_28))], by rw [eG, ← eg, if_neg c_29], by rw [ek]; exact nI_1 ii, lv_sub hl [0, 1, 2, 3, 5, 6, 7, 8, 9, 10, 11] rfl⟩
                            · refine lv_iload hx hb dX12_drawn_145 (lv_at hl 1 rfl) ?_
                              refine lv_iload hx hb dX12_drawn_147 (lv_at hl 5 rfl) ?_
                              refine lv_icmp_ge (tgt := 157) hx hb dX12_drawn_149 (by decide) (fun c_30 => ?_) (fun c_30 => ?_)
                              · refine lv_iload hx hb dX12_drawn_157 (lv_at hl 5 rfl) ?_
                                refine lv_istore (lv' := [(9, .int le), (8, .int (rr + 0)), (12, .int (dT (yS na) nb sn ii)), (6, .long (lN (dX sn (ii + 1)))), (11, .int kk), (10, .int gr), (0, .ref mo), (1, .int na), (2, .int nb), (3, .int (nI nn)), (4, .int (nI sn)), (5, .int ne)]) hx hb dX12_drawn_159 hl (by decide) rfl (fun ls hl => ?_)
                                refine lv_iload hx hb dX12_drawn_161 (lv_at hl 2 rfl) ?_
                                refine lv_iload hx hb dX12_drawn_163 (lv_at hl 5 rfl) ?_
                                refine lv_icmp_le (tgt := 173) hx hb dX12_drawn_165 (by decide) (fun c_31 => ?_) (fun c_31 => ?_)
                                · refine lv_iload hx hb dX12_drawn_173 (lv_at hl 5 rfl) ?_
                                  refine lv_istore (lv' := [(10, .int gr), (9, .int le), (8, .int (rr + 0)), (12, .int (dT (yS na) nb sn ii)), (6, .long (lN (dX sn (ii + 1)))), (11, .int kk), (0, .ref mo), (1, .int na), (2, .int nb), (3, .int (nI nn)), (4, .int (nI sn)), (5, .int ne)]) hx hb dX12_drawn_175 hl (by decide) rfl (fun ls hl => ?_)
                                  refine lv_iinc (v := (kk + 1)) (lv' := [(11, .int (kk + 1)), (10, .int gr), (9, .int le), (8, .int (rr + 0)), (12, .int (dT (yS na) nb sn ii)), (6, .long (lN (dX sn (ii + 1)))), (0, .ref mo), (1, .int na), (2, .int nb), (3, .int (nI nn)), (4, .int (nI sn)), (5, .int ne)]) hx hb dX12_drawn_177 hl (k := 5) rfl rfl (by decide) rfl (fun ls hl => ?_)
                                  refine lv_goto (tgt := 83) hx hb dX12_drawn_180 (by decide) ?_
                                  exact ih ((lN (dX sn (ii + 1))), (rr + 0), le, gr, kk + 1, ls) ⟨rfl, by rw [dR, if_neg c_27, ← er, Int32.add_zero], by rw [eL, if_neg (show ¬ ii = 0 from fun z => c_28 (by rw [ek, z]; rfl)), ← el, if_pos c_30], by rw [eG, ← eg, if_pos c_31], by rw [ek]; exact nI_1 ii, lv_sub hl [0, 1, 2, 3, 5, 6, 7, 8, 9, 10, 11] rfl⟩
                                · refine lv_iload hx hb dX12_drawn_168 (lv_at hl 2 rfl) ?_
                                  refine lv_goto (tgt := 175) hx hb dX12_drawn_170 (by decide) ?_
                                  refine lv_istore (lv' := [(10, .int (dT (yS na) nb sn ii)), (9, .int le), (8, .int (rr + 0)), (12, .int (dT (yS na) nb sn ii)), (6, .long (lN (dX sn (ii + 1)))), (11, .int kk), (0, .ref mo), (1, .int na), (2, .int nb), (3, .int (nI nn)), (4, .int (nI sn)), (5, .int ne)]) hx hb dX12_drawn_175 hl (by decide) rfl (fun ls hl => ?_)
                                  refine lv_iinc (v := (kk + 1)) (lv' := [(11, .int (kk + 1)), (10, .int (dT (yS na) nb sn ii)), (9, .int le), (8, .int (rr + 0)), (12, .int (dT (yS na) nb sn ii)), (6, .long (lN (dX sn (ii + 1)))), (0, .ref mo), (1, .int na), (2, .int nb), (3, .int (nI nn)), (4, .int (nI sn)), (5, .int ne)]) hx hb dX12_drawn_177 hl (k := 5) rfl rfl (by decide) rfl (fun ls hl => ?_)
                                  refine lv_goto (tgt := 83) hx hb dX12_drawn_180 (by decide) ?_
                                  exact ih ((lN (dX sn (ii + 1))), (rr + 0), le, (dT (yS na) nb sn ii), kk + 1, ls) ⟨rfl, by rw [dR, if_neg c_27, ← er, Int32.add_zero], by rw [eL, if_neg (show ¬ ii = 0 from fun z => c_28 (by rw [ek, z]; rfl)), ← el, if_pos c_30], by rw [eG, ← eg, if_neg c_31], by rw [ek]; exact nI_1 ii, lv_sub hl [0, 1, 2, 3, 5, 6, 7, 8, 9, 10, 11] rfl⟩
                              · refine lv_iload hx hb dX12_drawn_152 (lv_at hl 1 rfl) ?_
                                refine lv_goto (tgt := 159) hx hb dX12_drawn_154 (by decide) ?_
                                refine lv_istore (lv' := [(9, .int (dT (yS na) nb sn ii)), (8, .int (rr + 0)), (12, .int (dT (yS na) nb sn ii)), (6, .long (lN (dX sn (ii + 1)))), (11, .int kk), (10, .int gr), (0, .ref mo), (1, .int na), (2, .int nb), (3, .int (nI nn)), (4, .int (nI sn)), (5, .int ne)]) hx hb dX12_drawn_159 hl (by decide) rfl (fun ls hl => ?_)
                                refine lv_iload hx hb dX12_drawn_161 (lv_at hl 2 rfl) ?_
                                refine lv_iload hx hb dX12_drawn_163 (lv_at hl 5 rfl) ?_
                                refine lv_icmp_le (tgt := 173) hx hb dX12_drawn_165 (by decide) (fun c_32 => ?_) (fun c_32 => ?_)
                                · refine lv_iload hx hb dX12_drawn_173 (lv_at hl 5 rfl) ?_
                                  refine lv_istore (lv' := [(10, .int gr), (9, .int (dT (yS na) nb sn ii)), (8, .int (rr + 0)), (12, .int (dT (yS na) nb sn ii)), (6, .long (lN (dX sn (ii + 1)))), (11, .int kk), (0, .ref mo), (1, .int na), (2, .int nb), (3, .int (nI nn)), (4, .int (nI sn)), (5, .int ne)]) hx hb dX12_drawn_175 hl (by decide) rfl (fun ls hl => ?_)
                                  refine lv_iinc (v := (kk + 1)) (lv' := [(11, .int (kk + 1)), (10, .int gr), (9, .int (dT (yS na) nb sn ii)), (8, .int (rr + 0)), (12, .int (dT (yS na) nb sn ii)), (6, .long (lN (dX sn (ii + 1)))), (0, .ref mo), (1, .int na), (2, .int nb), (3, .int (nI nn)), (4, .int (nI sn)), (5, .int ne)]) hx hb dX12_drawn_177 hl (k := 5) rfl rfl (by decide) rfl (fun ls hl => ?_)
                                  refine lv_goto (tgt := 83) hx hb dX12_drawn_180 (by decide) ?_
                                  exact ih ((lN (dX sn (ii + 1))), (rr + 0), (dT (yS na) nb sn ii), gr, kk + 1, ls) ⟨rfl, by rw [dR, if_neg c_27, ← er, Int32.add_zero], by rw [eL, if_neg (show ¬ ii = 0 from fun z => c_28 (by rw [ek, z]; rfl)), ← el, if_neg c_30], by rw [eG, ← eg, if_pos c_32], by rw [ek]; exact nI_1 ii, lv_sub hl [0, 1, 2, 3, 5, 6, 7, 8, 9, 10, 11] rfl⟩
                                · refine lv_iload hx hb dX12_drawn_168 (lv_at hl 2 rfl) ?_
                                  refine lv_goto (tgt := 175) hx hb dX12_drawn_170 (by decide) ?_
                                  refine lv_istore (lv' := [(10, .int (dT (yS na) nb sn ii)), (9, .int (dT (yS na) nb sn ii)), (8, .int (rr + 0)), (12, .int (dT (yS na) nb sn ii)), (6, .long (lN (dX sn (ii + 1)))), (11, .int kk), (0, .ref mo), (1, .int na), (2, .int nb), (3, .int (nI nn)), (4, .int (nI sn)), (5, .int ne)]) hx hb dX12_drawn_175 hl (by decide) rfl (fun ls hl => ?_)
                                  refine lv_iinc (v := (kk + 1)) (lv' := [(11, .int (kk + 1)), (10, .int (dT (yS na) nb sn ii)), (9, .int (dT (yS na) nb sn ii)), (8, .int (rr + 0)), (12, .int (dT (yS na) nb sn ii)), (6, .long (lN (dX sn (ii + 1)))), (0, .ref mo), (1, .int na), (2, .int nb), (3, .int (nI nn)), (4, .int (nI sn)), (5, .int ne)]) hx hb dX12_drawn_177 hl (k := 5) rfl rfl (by decide) rfl (fun ls hl => ?_)
                                  refine lv_goto (tgt := 83) hx hb dX12_drawn_180 (by decide) ?_
                                  exact ih ((lN (dX sn (ii + 1))), (rr + 0), (dT (yS na) nb sn ii), (dT (yS na) nb sn ii), kk + 1, ls) ⟨rfl, by rw [dR, if_neg c_27, ← er, Int32.add_zero], by rw [eL, if_neg (show ¬ ii = 0 from fun z => c_28 (by rw [ek, z]; rfl)), ← el, if_neg c_30], by rw [eG, ← eg, if_neg c_32], by rw [ek]; exact nI_1 ii, lv_sub hl [0, 1, 2, 3, 5, 6, 7, 8, 9, 10, 11] rfl⟩
                          · refine lv_iconst (v := 1) hx hb dX12_drawn_132 (by decide) ?_
                            refine lv_goto (tgt := 137) hx hb dX12_drawn_133 (by decide) ?_
                            refine lv_iadd hx hb dX12_drawn_137 ?_
                            refine lv_istore (lv' := [(8, .int (rr + 1)), (12, .int (dT (yS na) nb sn ii)), (6, .long (lN (dX sn (ii + 1)))), (11, .int kk), (10, .int gr), (9, .int le), (0, .ref mo), (1, .int na), (2, .int nb), (3, .int (nI nn)), (4, .int (nI sn)), (5, .int ne)]) hx hb dX12_drawn_138 hl (by decide) rfl (fun ls hl => ?_)
                            refine lv_iload hx hb dX12_drawn_140 (lv_at hl 3 rfl) ?_
                            refine lv_if_eq (tgt := 152) hx hb dX12_drawn_142 (by decide) (fun c_33 => ?_) (fun c_33 => ?_)
                            · refine lv_iload hx hb dX12_drawn_152 (lv_at hl 1 rfl) ?_
                              refine lv_goto (tgt := 159) hx hb dX12_drawn_154 (by decide) ?_
                              refine lv_istore (lv' := [(9, .int (dT (yS na) nb sn ii)), (8, .int (rr + 1)), (12, .int (dT (yS na) nb sn ii)), (6, .long (lN (dX sn (ii + 1)))), (11, .int kk), (10, .int gr), (0, .ref mo), (1, .int na), (2, .int nb), (3, .int (nI nn)), (4, .int (nI sn)), (5, .int ne)]) hx hb dX12_drawn_159 hl (by decide) rfl (fun ls hl => ?_)
                              refine lv_iload hx hb dX12_drawn_161 (lv_at hl 2 rfl) ?_
                              refine lv_iload hx hb dX12_drawn_163 (lv_at hl 5 rfl) ?_
                              refine lv_icmp_le (tgt := 173) hx hb dX12_drawn_165 (by decide) (fun c_34 => ?_) (fun c_34 => ?_)
                              · refine lv_iload hx hb dX12_drawn_173 (lv_at hl 5 rfl) ?_
                                refine lv_istore (lv' := [(10, .int gr), (9, .int (dT (yS na) nb sn ii)), (8, .int (rr + 1)), (12, .int (dT (yS na) nb sn ii)), (6, .long (lN (dX sn (ii + 1)))), (11, .int kk), (0, .ref mo), (1, .int na), (2, .int nb), (3, .int (nI nn)), (4, .int (nI sn)), (5, .int ne)]) hx hb dX12_drawn_175 hl (by decide) rfl (fun ls hl => ?_)
                                refine lv_iinc (v := (kk + 1)) (lv' := [(11, .int (kk + 1)), (10, .int gr), (9, .int (dT (yS na) nb sn ii)), (8, .int (rr + 1)), (12, .int (dT (yS na) nb sn ii)), (6, .long (lN (dX sn (ii + 1)))), (0, .ref mo), (1, .int na), (2, .int nb), (3, .int (nI nn)), (4, .int (nI sn)), (5, .int ne)]) hx hb dX12_drawn_177 hl (k := 5) rfl rfl (by decide) rfl (fun ls hl => ?_)
                                refine lv_goto (tgt := 83) hx hb dX12_drawn_180 (by decide) ?_
                                exact ih ((lN (dX sn (ii + 1))), (rr + 1), (dT (yS na) nb sn ii), gr, kk + 1, ls) ⟨rfl, by rw [dR, if_pos c_27, ← er], by rw [eL, if_pos (show ii = 0 from tz_n0 (by omega) (ek ▸ c_33))], by rw [eG, ← eg, if_pos c_34], by rw [ek]; exact nI_1 ii, lv_sub hl [0, 1, 2, 3, 5, 6, 7, 8, 9, 10, 11] rfl⟩
                              · refine lv_iload hx hb dX12_drawn_168 (lv_at hl 2 rfl) ?_
                                refine lv_goto (tgt := 175) hx hb dX12_drawn_170 (by decide) ?_
                                refine lv_istore (lv' := [(10, .int (dT (yS na) nb sn ii)), (9, .int (dT (yS na) nb sn ii)), (8, .int (rr + 1)), (12, .int (dT (yS na) nb sn ii)), (6, .long (lN (dX sn (ii + 1)))), (11, .int kk), (0, .ref mo), (1, .int na), (2, .int nb), (3, .int (nI nn)), (4, .int (nI sn)), (5, .int ne)]) hx hb dX12_drawn_175 hl (by decide) rfl (fun ls hl => ?_)
                                refine lv_iinc (v := (kk + 1)) (lv' := [(11, .int (kk + 1)), (10, .int (dT (yS na) nb sn ii)), (9, .int (dT (yS na) nb sn ii)), (8, .int (rr + 1)), (12, .int (dT (yS na) nb sn ii)), (6, .long (lN (dX sn (ii + 1)))), (0, .ref mo), (1, .int na), (2, .int nb), (3, .int (nI nn)), (4, .int (nI sn)), (5, .int ne)]) hx hb dX12_drawn_177 hl (k := 5) rfl rfl (by decide) rfl (fun ls hl => ?_)
                                refine lv_goto (tgt := 83) hx hb dX12_drawn_180 (by decide) ?_
                                exact ih ((lN (dX sn (ii + 1))), (rr + 1), (dT (yS na) nb sn ii), (dT (yS na) nb sn ii), kk + 1, ls) ⟨rfl, by rw [dR, if_pos c_27, ← er], by rw [eL, if_pos (show ii = 0 from tz_n0 (by omega) (ek ▸ c_33))], by rw [eG, ← eg, if_neg c_34], by rw [ek]; exact nI_1 ii, lv_sub hl [0, 1, 2, 3, 5, 6, 7, 8, 9, 10, 11] rfl⟩
                            · refine lv_iload hx hb dX12_drawn_145 (lv_at hl 1 rfl) ?_
                              refine lv_iload hx hb dX12_drawn_147 (lv_at hl 5 rfl) ?_
                              refine lv_icmp_ge (tgt := 157) hx hb dX12_drawn_149 (by decide) (fun c_35 => ?_) (fun c_35 => ?_)
                              · refine lv_iload hx hb dX12_drawn_157 (lv_at hl 5 rfl) ?_
                                refine lv_istore (lv' := [(9, .int le), (8, .int (rr + 1)), (12, .int (dT (yS na) nb sn ii)), (6, .long (lN (dX sn (ii + 1)))), (11, .int kk), (10, .int gr), (0, .ref mo), (1, .int na), (2, .int nb), (3, .int (nI nn)), (4, .int (nI sn)), (5, .int ne)]) hx hb dX12_drawn_159 hl (by decide) rfl (fun ls hl => ?_)
                                refine lv_iload hx hb dX12_drawn_161 (lv_at hl 2 rfl) ?_
                                refine lv_iload hx hb dX12_drawn_163 (lv_at hl 5 rfl) ?_
                                refine lv_icmp_le (tgt := 173) hx hb dX12_drawn_165 (by decide) (fun c_36 => ?_) (fun c_36 => ?_)
                                · refine lv_iload hx hb dX12_drawn_173 (lv_at hl 5 rfl) ?_
                                  refine lv_istore (lv' := [(10, .int gr), (9, .int le), (8, .int (rr + 1)), (12, .int (dT (yS na) nb sn ii)), (6, .long (lN (dX sn (ii + 1)))), (11, .int kk), (0, .ref mo), (1, .int na), (2, .int nb), (3, .int (nI nn)), (4, .int (nI sn)), (5, .int ne)]) hx hb dX12_drawn_175 hl (by decide) rfl (fun ls hl => ?_)
                                  refine lv_iinc (v := (kk + 1)) (lv' := [(11, .int (kk + 1)), (10, .int gr), (9, .int le), (8, .int (rr + 1)), (12, .int (dT (yS na) nb sn ii)), (6, .long (lN (dX sn (ii + 1)))), (0, .ref mo), (1, .int na), (2, .int nb), (3, .int (nI nn)), (4, .int (nI sn)), (5, .int ne)]) hx hb dX12_drawn_177 hl (k := 5) rfl rfl (by decide) rfl (fun ls hl => ?_)
                                  refine lv_goto (tgt := 83) hx hb dX12_drawn_180 (by decide) ?_
                                  exact ih ((lN (dX sn (ii + 1))), (rr + 1), le, gr, kk + 1, ls) ⟨rfl, by rw [dR, if_pos c_27, ← er], by rw [eL, if_neg (show ¬ ii = 0 from fun z => c_33 (by rw [ek, z]; rfl)), ← el, if_pos c_35], by rw [eG, ← eg, if_pos c_36], by rw [ek]; exact nI_1 ii, lv_sub hl [0, 1, 2, 3, 5, 6, 7, 8, 9, 10, 11] rfl⟩
                                · refine lv_iload hx hb dX12_drawn_168 (lv_at hl 2 rfl) ?_
                                  refine lv_goto (tgt := 175) hx hb dX12_drawn_170 (by decide) ?_
                                  refine lv_istore (lv' := [(10, .int (dT (yS na) nb sn ii)), (9, .int le), (8, .int (rr + 1)), (12, .int (dT (yS na) nb sn ii)), (6, .long (lN (dX sn (ii + 1)))), (11, .int kk), (0, .ref mo), (1, .int na), (2, .int nb), (3, .int (nI nn)), (4, .int (nI sn)), (5, .int ne)]) hx hb dX12_drawn_175 hl (by decide) rfl (fun ls hl => ?_)
                                  refine lv_iinc (v := (kk + 1)) (lv' := [(11, .int (kk + 1)), (10, .int (dT (yS na) nb sn ii)), (9, .int le), (8, .int (rr + 1)), (12, .int (dT (yS na) nb sn ii)), (6, .long (lN (dX sn (ii + 1)))), (0, .ref mo), (1, .int na), (2, .int nb), (3, .int (nI nn)), (4, .int (nI sn)), (5, .int ne)]) hx hb dX12_drawn_177 hl (k := 5) rfl rfl (by decide) rfl (fun ls hl => ?_)
                                  refine lv_goto (tgt := 83) hx hb dX12_drawn_180 (by decide) ?_
                                  exact ih ((lN (dX sn (ii + 1))), (rr + 1), le, (dT (yS na) nb sn ii), kk + 1, ls) ⟨rfl, by rw [dR, if_pos c_27, ← er], by rw [eL, if_neg (show ¬ ii = 0 from fun z => c_33 (by rw [ek, z]; rfl)), ← el, if_pos c_35], by rw [eG, ← eg, if_neg c_36], by rw [ek]; exact nI_1 ii, lv_sub hl [0, 1, 2, 3, 5, 6, 7, 8, 9, 10, 11] rfl⟩
                              · refine lv_iload hx hb dX12_drawn_152 (lv_at hl 1 rfl) ?_
                                refine lv_goto (tgt := 159) hx hb dX12_drawn_154 (by decide) ?_
                                refine lv_istore (lv' := [(9, .int (dT (yS na) nb sn ii)), (8, .int (rr + 1)), (12, .int (dT (yS na) nb sn ii)), (6, .long (lN (dX sn (ii + 1)))), (11, .int kk), (10, .int gr), (0, .ref mo), (1, .int na), (2, .int nb), (3, .int (nI nn)), (4, .int (nI sn)), (5, .int ne)]) hx hb dX12_drawn_159 hl (by decide) rfl (fun ls hl => ?_)
                                refine lv_iload hx hb dX12_drawn_161 (lv_at hl 2 rfl) ?_
                                refine lv_iload hx hb dX12_drawn_163 (lv_at hl 5 rfl) ?_
                                refine lv_icmp_le (tgt := 173) hx hb dX12_drawn_165 (by decide) (fun c_37 => ?_) (fun c_37 => ?_)
                                · refine lv_iload hx hb dX12_drawn_173 (lv_at hl 5 rfl) ?_
                                  refine lv_istore (lv' := [(10, .int gr), (9, .int (dT (yS na) nb sn ii)), (8, .int (rr + 1)), (12, .int (dT (yS na) nb sn ii)), (6, .long (lN (dX sn (ii + 1)))), (11, .int kk), (0, .ref mo), (1, .int na), (2, .int nb), (3, .int (nI nn)), (4, .int (nI sn)), (5, .int ne)]) hx hb dX12_drawn_175 hl (by decide) rfl (fun ls hl => ?_)
                                  refine lv_iinc (v := (kk + 1)) (lv' := [(11, .int (kk + 1)), (10, .int gr), (9, .int (dT (yS na) nb sn ii)), (8, .int (rr + 1)), (12, .int (dT (yS na) nb sn ii)), (6, .long (lN (dX sn (ii + 1)))), (0, .ref mo), (1, .int na), (2, .int nb), (3, .int (nI nn)), (4, .int (nI sn)), (5, .int ne)]) hx hb dX12_drawn_177 hl (k := 5) rfl rfl (by decide) rfl (fun ls hl => ?_)
                                  refine lv_goto (tgt := 83) hx hb dX12_drawn_180 (by decide) ?_
                                  exact ih ((lN (dX sn (ii + 1))), (rr + 1), (dT (yS na) nb sn ii), gr, kk + 1, ls) ⟨rfl, by rw [dR, if_pos c_27, ← er], by rw [eL, if_neg (show ¬ ii = 0 from fun z => c_33 (by rw [ek, z]; rfl)), ← el, if_neg c_35], by rw [eG, ← eg, if_pos c_37], by rw [ek]; exact nI_1 ii, lv_sub hl [0, 1, 2, 3, 5, 6, 7, 8, 9, 10, 11] rfl⟩
                                · refine lv_iload hx hb dX12_drawn_168 (lv_at hl 2 rfl) ?_
                                  refine lv_goto (tgt := 175) hx hb dX12_drawn_170 (by decide) ?_
                                  refine lv_istore (lv' := [(10, .int (dT (yS na) nb sn ii)), (9, .int (dT (yS na) nb sn ii)), (8, .int (rr + 1)), (12, .int (dT (yS na) nb sn ii)), (6, .long (lN (dX sn (ii + 1)))), (11, .int kk), (0, .ref mo), (1, .int na), (2, .int nb), (3, .int (nI nn)), (4, .int (nI sn)), (5, .int ne)]) hx hb dX12_drawn_175 hl (by decide) rfl (fun ls hl => ?_)
                                  refine lv_iinc (v := (kk + 1)) (lv' := [(11, .int (kk + 1)), (10, .int (dT (yS na) nb sn ii)), (9, .int (dT (yS na) nb sn ii)), (8, .int (rr + 1)), (12, .int (dT (yS na) nb sn ii)), (6, .long (lN (dX sn (ii + 1)))), (0, .ref mo), (1, .int na), (2, .int nb), (3, .int (nI nn)), (4, .int (nI sn)), (5, .int ne)]) hx hb dX12_drawn_177 hl (k := 5) rfl rfl (by decide) rfl (fun ls hl => ?_)
                                  refine lv_goto (tgt := 83) hx hb dX12_drawn_180 (by decide) ?_
                                  exact ih ((lN (dX sn (ii + 1))), (rr + 1), (dT (yS na) nb sn ii), (dT (yS na) nb sn ii), kk + 1, ls) ⟨rfl, by rw [dR, if_pos c_27, ← er], by rw [eL, if_neg (show ¬ ii = 0 from fun z => c_33 (by rw [ek, z]; rfl)), ← el, if_neg c_35], by rw [eG, ← eg, if_neg c_37], by rw [ek]; exact nI_1 ii, lv_sub hl [0, 1, 2, 3, 5, 6, 7, 8, 9, 10, 11] rfl⟩
                    · exact absurd c_20 (by decide)
                  · obtain rfl : 0 = r_17 := (hw_18.trans (if_neg (fun z => hc_19 ((tz_in64 (by first | rfl | decide) rfl (by first | rfl | decide)).mp z)))).symm
                    refine lv_if_ne (tgt := 66) hx hb dX12_drawn_56 (by decide) (fun c_38 => ?_) (fun c_38 => ?_)
                    · exact absurd c_38 (by decide)
                    · refine lv_aload_n hx hb dX12_drawn_59 rfl (lv_at hl 0 rfl) ?_
                      refine lv_bipush (v := (-2)) hx hb dX12_drawn_60 (by decide) ?_
                      have hPc := hP.sub (ws' := [(mo, .inr (12, [.ref nw, .ref kp, .ref ik, .ref mr, .long la_, .long lb_, .ref mw, .long lc_, .int ti_, .int cb_, .long ld_, .long le_, .ref mq, .ref mz, .ref my, .int sm_, .ref mb, .int bl_, .int ta_, .int tl_, .int tk_, .int vl_, .ref mx, .ref mv])), (mr, .inl (cr_, 3, .inl fr_))]) [0, 1] rfl
                      have hDc := hD.sub (ws' := [(mo, .inr (12, [.ref nw, .ref kp, .ref ik, .ref mr, .long la_, .long lb_, .ref mw, .long lc_, .int ti_, .int cb_, .long ld_, .long le_, .ref mq, .ref mz, .ref my, .int sm_, .ref mb, .int bl_, .int ta_, .int tl_, .int tk_, .int vl_, .ref mx, .ref mv])), (mr, .inl (cr_, 3, .inl fr_))]) [0, 1] (by decide) rfl
                      have hKc := hK.sub (tys' := [(cr_, .int)]) [0] rfl
                      have hFc := va_free (wc := [(mo, .inr (12, [.ref nw, .ref kp, .ref ik, .ref mr, .long la_, .long lb_, .ref mw, .long lc_, .int ti_, .int cb_, .long ld_, .long le_, .ref mq, .ref mz, .ref my, .int sm_, .ref mb, .int bl_, .int ta_, .int tl_, .int tk_, .int vl_, .ref mx, .ref mv])), (mr, .inl (cr_, 3, .inl fr_))]) hD hS hA [0, 1] rfl
                      refine va_calli (va_runV (As := [.int (-2)]) (rest := []) ⟨hx, hb, hml, hown, hts⟩ (m_bad l dC dI mo nw kp ik mr la_ lb_ mw lc_ ti_ cb_ ld_ le_ mq mz my sm_ mb bl_ ta_ tl_ tk_ vl_ mx mv cr_ fr_ (-2) s.heap.size) (cwV 1 hts gX12_drawn_X12_bad rfl rfl rfl (by decide +kernel) ⟨Nat.le_of_ble_eq_true rfl, Nat.le_of_ble_eq_true rfl⟩) ⟨fun a U g mk q => by obtain ⟨q0, q1, qP, qK, qD⟩ := q; exact ⟨q0, q1, qP, va_K.moved (u := U) (U := U.calling g mk a) (Vm.Alike.refl U.vm) qK, qD⟩, va_recv hK hP (ci := 12) (q0 := 0) rfl rfl, fun U hU hW => ⟨rfl, by rw [hU], by rw [hU]; exact hPc, va_K.moved hW.alike hKc, hDc.weaken (fun _ _ _ _ => trivial)⟩⟩ rfl rfl hl.1 rfl (lv_room (Nat.le_of_ble_eq_true rfl)) dX12_drawn_62 ⟨Nat.le_of_ble_eq_true rfl, Nat.le_of_ble_eq_true rfl⟩) hS (fun q _ h => hFc q h) hFc (fun r_39 u_ t H1 locs ht hvm hw_40 hB hz1 hk1 hS => ?_)
                      obtain ⟨gr__41, hP1, hK1, hD1⟩ := hB
                      rw [ht] at hP1
                      have hK1 := va_K.moved hvm.symm hK1
                      obtain ⟨hP, hD⟩ := va_join (wr := []) (w1 := [(mo, .inr (12, [.ref nw, .ref kp, .ref ik, .ref mr, .long la_, .long lb_, .ref mw, .long lc_, .int ti_, .int cb_, .long ld_, .long le_, .ref mq, .ref mz, .ref my, .int sm_, .ref mb, .int bl_, .int ta_, .int tl_, .int tk_, .int vl_, .ref mx, .ref mv])), (mr, .inl (cr_, 3, .inl gr__41))]) hP hD [0, 1] [] rfl rfl (by decide) (by decide) hk1 hFc hP1 hD1
                      generalize H1 = H at hP hS ⊢
                      have hP : va_P (dC, dI) vwCl [(mo, .inr (12, [.ref nw, .ref kp, .ref ik, .ref mr, .long la_, .long lb_, .ref mw, .long lc_, .int ti_, .int cb_, .long ld_, .long le_, .ref mq, .ref mz, .ref my, .int sm_, .ref mb, .int bl_, .int ta_, .int tl_, .int tk_, .int vl_, .ref mx, .ref mv])), (mr, .inl (cr_, 3, .inl gr__41))] H := hP
                      have hD : va_D A [(mo, .inr (12, [.ref nw, .ref kp, .ref ik, .ref mr, .long la_, .long lb_, .ref mw, .long lc_, .int ti_, .int cb_, .long ld_, .long le_, .ref mq, .ref mz, .ref my, .int sm_, .ref mb, .int bl_, .int ta_, .int tl_, .int tk_, .int vl_, .ref mx, .ref mv])), (mr, .inl (cr_, 3, .inl gr__41))] := hD
                      obtain rfl : (-2) = r_39 := hw_40.symm
                      have hP9 := hP.sub (ws' := [(mo, .inr (12, [.ref nw, .ref kp, .ref ik, .ref mr, .long la_, .long lb_, .ref mw, .long lc_, .int ti_, .int cb_, .long ld_, .long le_, .ref mq, .ref mz, .ref my, .int sm_, .ref mb, .int bl_, .int ta_, .int tl_, .int tk_, .int vl_, .ref mx, .ref mv])), (mr, .inl (cr_, 3, .inl gr__41))]) [0, 1] rfl
                      have hD9 := hD.sub (ws' := [(mo, .inr (12, [.ref nw, .ref kp, .ref ik, .ref mr, .long la_, .long lb_, .ref mw, .long lc_, .int ti_, .int cb_, .long ld_, .long le_, .ref mq, .ref mz, .ref my, .int sm_, .ref mb, .int bl_, .int ta_, .int tl_, .int tk_, .int vl_, .ref mx, .ref mv])), (mr, .inl (cr_, 3, .inl gr__41))]) [0, 1] (by decide) rfl
                      have hK9 := hK.sub (tys' := [(cr_, .int)]) [0] rfl
                      exact W.iret (v := (-2)) hx hb hr (fun t ht hW => ⟨⟨(-2), (), rfl, (show (-2) = _ from by unfold dS; exact ((if_pos hc_3).trans ((if_pos hc_7).trans ((if_pos hc_11).trans ((if_pos hc_15).trans (if_neg hc_19))))).symm), gr__41, by rw [ht]; exact hP9, va_K.moved hW.alike hK9, hD9⟩, hS.F ht⟩) hS.2.2 dX12_drawn_65
              · obtain rfl : 0 = r_13 := (hw_14.trans (if_neg (fun z => hc_15 ((tz_in64 (by first | rfl | decide) rfl (by first | rfl | decide)).mp z)))).symm
                refine lv_if_eq (tgt := 59) hx hb dX12_drawn_43 (by decide) (fun c_42 => ?_) (fun c_42 => ?_)
                · refine lv_aload_n hx hb dX12_drawn_59 rfl (lv_at hl 0 rfl) ?_
                  refine lv_bipush (v := (-2)) hx hb dX12_drawn_60 (by decide) ?_
                  have hPc := hP.sub (ws' := [(mo, .inr (12, [.ref nw, .ref kp, .ref ik, .ref mr, .long la_, .long lb_, .ref mw, .long lc_, .int ti_, .int cb_, .long ld_, .long le_, .ref mq, .ref mz, .ref my, .int sm_, .ref mb, .int bl_, .int ta_, .int tl_, .int tk_, .int vl_, .ref mx, .ref mv])), (mr, .inl (cr_, 3, .inl fr_))]) [0, 1] rfl
                  have hDc := hD.sub (ws' := [(mo, .inr (12, [.ref nw, .ref kp, .ref ik, .ref mr, .long la_, .long lb_, .ref mw, .long lc_, .int ti_, .int cb_, .long ld_, .long le_, .ref mq, .ref mz, .ref my, .int sm_, .ref mb, .int bl_, .int ta_, .int tl_, .int tk_, .int vl_, .ref mx, .ref mv])), (mr, .inl (cr_, 3, .inl fr_))]) [0, 1] (by decide) rfl
                  have hKc := hK.sub (tys' := [(cr_, .int)]) [0] rfl
                  have hFc := va_free (wc := [(mo, .inr (12, [.ref nw, .ref kp, .ref ik, .ref mr, .long la_, .long lb_, .ref mw, .long lc_, .int ti_, .int cb_, .long ld_, .long le_, .ref mq, .ref mz, .ref my, .int sm_, .ref mb, .int bl_, .int ta_, .int tl_, .int tk_, .int vl_, .ref mx, .ref mv])), (mr, .inl (cr_, 3, .inl fr_))]) hD hS hA [0, 1] rfl
                  refine va_calli (va_runV (As := [.int (-2)]) (rest := []) ⟨hx, hb, hml, hown, hts⟩ (m_bad l dC dI mo nw kp ik mr la_ lb_ mw lc_ ti_ cb_ ld_ le_ mq mz my sm_ mb bl_ ta_ tl_ tk_ vl_ mx mv cr_ fr_ (-2) s.heap.size) (cwV 1 hts gX12_drawn_X12_bad rfl rfl rfl (by decide +kernel) ⟨Nat.le_of_ble_eq_true rfl, Nat.le_of_ble_eq_true rfl⟩) ⟨fun a U g mk q => by obtain ⟨q0, q1, qP, qK, qD⟩ := q; exact ⟨q0, q1, qP, va_K.moved (u := U) (U := U.calling g mk a) (Vm.Alike.refl U.vm) qK, qD⟩, va_recv hK hP (ci := 12) (q0 := 0) rfl rfl, fun U hU hW => ⟨rfl, by rw [hU], by rw [hU]; exact hPc, va_K.moved hW.alike hKc, hDc.weaken (fun _ _ _ _ => trivial)⟩⟩ rfl rfl hl.1 rfl (lv_room (Nat.le_of_ble_eq_true rfl)) dX12_drawn_62 ⟨Nat.le_of_ble_eq_true rfl, Nat.le_of_ble_eq_true rfl⟩) hS (fun q _ h => hFc q h) hFc (fun r_43 u_ t H1 locs ht hvm hw_44 hB hz1 hk1 hS => ?_)
                  obtain ⟨gr__45, hP1, hK1, hD1⟩ := hB
                  rw [ht] at hP1
                  have hK1 := va_K.moved hvm.symm hK1
                  obtain ⟨hP, hD⟩ := va_join (wr := []) (w1 := [(mo, .inr (12, [.ref nw, .ref kp, .ref ik, .ref mr, .long la_, .long lb_, .ref mw, .long lc_, .int ti_, .int cb_, .long ld_, .long le_, .ref mq, .ref mz, .ref my, .int sm_, .ref mb, .int bl_, .int ta_, .int tl_, .int tk_, .int vl_, .ref mx, .ref mv])), (mr, .inl (cr_, 3, .inl gr__45))]) hP hD [0, 1] [] rfl rfl (by decide) (by decide) hk1 hFc hP1 hD1
                  generalize H1 = H at hP hS ⊢
                  have hP : va_P (dC, dI) vwCl [(mo, .inr (12, [.ref nw, .ref kp, .ref ik, .ref mr, .long la_, .long lb_, .ref mw, .long lc_, .int ti_, .int cb_, .long ld_, .long le_, .ref mq, .ref mz, .ref my, .int sm_, .ref mb, .int bl_, .int ta_, .int tl_, .int tk_, .int vl_, .ref mx, .ref mv])), (mr, .inl (cr_, 3, .inl gr__45))] H := hP
                  have hD : va_D A [(mo, .inr (12, [.ref nw, .ref kp, .ref ik, .ref mr, .long la_, .long lb_, .ref mw, .long lc_, .int ti_, .int cb_, .long ld_, .long le_, .ref mq, .ref mz, .ref my, .int sm_, .ref mb, .int bl_, .int ta_, .int tl_, .int tk_, .int vl_, .ref mx, .ref mv])), (mr, .inl (cr_, 3, .inl gr__45))] := hD
                  obtain rfl : (-2) = r_43 := hw_44.symm
                  have hP9 := hP.sub (ws' := [(mo, .inr (12, [.ref nw, .ref kp, .ref ik, .ref mr, .long la_, .long lb_, .ref mw, .long lc_, .int ti_, .int cb_, .long ld_, .long le_, .ref mq, .ref mz, .ref my, .int sm_, .ref mb, .int bl_, .int ta_, .int tl_, .int tk_, .int vl_, .ref mx, .ref mv])), (mr, .inl (cr_, 3, .inl gr__45))]) [0, 1] rfl
                  have hD9 := hD.sub (ws' := [(mo, .inr (12, [.ref nw, .ref kp, .ref ik, .ref mr, .long la_, .long lb_, .ref mw, .long lc_, .int ti_, .int cb_, .long ld_, .long le_, .ref mq, .ref mz, .ref my, .int sm_, .ref mb, .int bl_, .int ta_, .int tl_, .int tk_, .int vl_, .ref mx, .ref mv])), (mr, .inl (cr_, 3, .inl gr__45))]) [0, 1] (by decide) rfl
                  have hK9 := hK.sub (tys' := [(cr_, .int)]) [0] rfl
                  exact W.iret (v := (-2)) hx hb hr (fun t ht hW => ⟨⟨(-2), (), rfl, (show (-2) = _ from by unfold dS; exact ((if_pos hc_3).trans ((if_pos hc_7).trans ((if_pos hc_11).trans (if_neg hc_15)))).symm), gr__45, by rw [ht]; exact hP9, va_K.moved hW.alike hK9, hD9⟩, hS.F ht⟩) hS.2.2 dX12_drawn_65
                · exact absurd c_42 (by decide)
          · obtain rfl : 0 = r_9 := (hw_10.trans (if_neg (fun z => hc_11 ((tz_in64 (by first | rfl | decide) rfl (by first | rfl | decide)).mp z)))).symm
            refine lv_if_eq (tgt := 59) hx hb dX12_drawn_30 (by decide) (fun c_46 => ?_) (fun c_46 => ?_)
            · refine lv_aload_n hx hb dX12_drawn_59 rfl (lv_at hl 0 rfl) ?_
              refine lv_bipush (v := (-2)) hx hb dX12_drawn_60 (by decide) ?_
              have hPc := hP.sub (ws' := [(mo, .inr (12, [.ref nw, .ref kp, .ref ik, .ref mr, .long la_, .long lb_, .ref mw, .long lc_, .int ti_, .int cb_, .long ld_, .long le_, .ref mq, .ref mz, .ref my, .int sm_, .ref mb, .int bl_, .int ta_, .int tl_, .int tk_, .int vl_, .ref mx, .ref mv])), (mr, .inl (cr_, 3, .inl fr_))]) [0, 1] rfl
              have hDc := hD.sub (ws' := [(mo, .inr (12, [.ref nw, .ref kp, .ref ik, .ref mr, .long la_, .long lb_, .ref mw, .long lc_, .int ti_, .int cb_, .long ld_, .long le_, .ref mq, .ref mz, .ref my, .int sm_, .ref mb, .int bl_, .int ta_, .int tl_, .int tk_, .int vl_, .ref mx, .ref mv])), (mr, .inl (cr_, 3, .inl fr_))]) [0, 1] (by decide) rfl
              have hKc := hK.sub (tys' := [(cr_, .int)]) [0] rfl
              have hFc := va_free (wc := [(mo, .inr (12, [.ref nw, .ref kp, .ref ik, .ref mr, .long la_, .long lb_, .ref mw, .long lc_, .int ti_, .int cb_, .long ld_, .long le_, .ref mq, .ref mz, .ref my, .int sm_, .ref mb, .int bl_, .int ta_, .int tl_, .int tk_, .int vl_, .ref mx, .ref mv])), (mr, .inl (cr_, 3, .inl fr_))]) hD hS hA [0, 1] rfl
              refine va_calli (va_runV (As := [.int (-2)]) (rest := []) ⟨hx, hb, hml, hown, hts⟩ (m_bad l dC dI mo nw kp ik mr la_ lb_ mw lc_ ti_ cb_ ld_ le_ mq mz my sm_ mb bl_ ta_ tl_ tk_ vl_ mx mv cr_ fr_ (-2) s.heap.size) (cwV 1 hts gX12_drawn_X12_bad rfl rfl rfl (by decide +kernel) ⟨Nat.le_of_ble_eq_true rfl, Nat.le_of_ble_eq_true rfl⟩) ⟨fun a U g mk q => by obtain ⟨q0, q1, qP, qK, qD⟩ := q; exact ⟨q0, q1, qP, va_K.moved (u := U) (U := U.calling g mk a) (Vm.Alike.refl U.vm) qK, qD⟩, va_recv hK hP (ci := 12) (q0 := 0) rfl rfl, fun U hU hW => ⟨rfl, by rw [hU], by rw [hU]; exact hPc, va_K.moved hW.alike hKc, hDc.weaken (fun _ _ _ _ => trivial)⟩⟩ rfl rfl hl.1 rfl (lv_room (Nat.le_of_ble_eq_true rfl)) dX12_drawn_62 ⟨Nat.le_of_ble_eq_true rfl, Nat.le_of_ble_eq_true rfl⟩) hS (fun q _ h => hFc q h) hFc (fun r_47 u_ t H1 locs ht hvm hw_48 hB hz1 hk1 hS => ?_)
              obtain ⟨gr__49, hP1, hK1, hD1⟩ := hB
              rw [ht] at hP1
              have hK1 := va_K.moved hvm.symm hK1
              obtain ⟨hP, hD⟩ := va_join (wr := []) (w1 := [(mo, .inr (12, [.ref nw, .ref kp, .ref ik, .ref mr, .long la_, .long lb_, .ref mw, .long lc_, .int ti_, .int cb_, .long ld_, .long le_, .ref mq, .ref mz, .ref my, .int sm_, .ref mb, .int bl_, .int ta_, .int tl_, .int tk_, .int vl_, .ref mx, .ref mv])), (mr, .inl (cr_, 3, .inl gr__49))]) hP hD [0, 1] [] rfl rfl (by decide) (by decide) hk1 hFc hP1 hD1
              generalize H1 = H at hP hS ⊢
              have hP : va_P (dC, dI) vwCl [(mo, .inr (12, [.ref nw, .ref kp, .ref ik, .ref mr, .long la_, .long lb_, .ref mw, .long lc_, .int ti_, .int cb_, .long ld_, .long le_, .ref mq, .ref mz, .ref my, .int sm_, .ref mb, .int bl_, .int ta_, .int tl_, .int tk_, .int vl_, .ref mx, .ref mv])), (mr, .inl (cr_, 3, .inl gr__49))] H := hP
              have hD : va_D A [(mo, .inr (12, [.ref nw, .ref kp, .ref ik, .ref mr, .long la_, .long lb_, .ref mw, .long lc_, .int ti_, .int cb_, .long ld_, .long le_, .ref mq, .ref mz, .ref my, .int sm_, .ref mb, .int bl_, .int ta_, .int tl_, .int tk_, .int vl_, .ref mx, .ref mv])), (mr, .inl (cr_, 3, .inl gr__49))] := hD
              obtain rfl : (-2) = r_47 := hw_48.symm
              have hP9 := hP.sub (ws' := [(mo, .inr (12, [.ref nw, .ref kp, .ref ik, .ref mr, .long la_, .long lb_, .ref mw, .long lc_, .int ti_, .int cb_, .long ld_, .long le_, .ref mq, .ref mz, .ref my, .int sm_, .ref mb, .int bl_, .int ta_, .int tl_, .int tk_, .int vl_, .ref mx, .ref mv])), (mr, .inl (cr_, 3, .inl gr__49))]) [0, 1] rfl
              have hD9 := hD.sub (ws' := [(mo, .inr (12, [.ref nw, .ref kp, .ref ik, .ref mr, .long la_, .long lb_, .ref mw, .long lc_, .int ti_, .int cb_, .long ld_, .long le_, .ref mq, .ref mz, .ref my, .int sm_, .ref mb, .int bl_, .int ta_, .int tl_, .int tk_, .int vl_, .ref mx, .ref mv])), (mr, .inl (cr_, 3, .inl gr__49))]) [0, 1] (by decide) rfl
              have hK9 := hK.sub (tys' := [(cr_, .int)]) [0] rfl
              exact W.iret (v := (-2)) hx hb hr (fun t ht hW => ⟨⟨(-2), (), rfl, (show (-2) = _ from by unfold dS; exact ((if_pos hc_3).trans ((if_pos hc_7).trans (if_neg hc_11))).symm), gr__49, by rw [ht]; exact hP9, va_K.moved hW.alike hK9, hD9⟩, hS.F ht⟩) hS.2.2 dX12_drawn_65
            · exact absurd c_46 (by decide)
      · obtain rfl : 0 = r_5 := (hw_6.trans (if_neg (fun z => hc_7 ((tz_in64 (by first | rfl | decide) rfl (by first | rfl | decide)).mp z)))).symm
        refine lv_if_eq (tgt := 59) hx hb dX12_drawn_18 (by decide) (fun c_50 => ?_) (fun c_50 => ?_)
        · refine lv_aload_n hx hb dX12_drawn_59 rfl (lv_at hl 0 rfl) ?_
          refine lv_bipush (v := (-2)) hx hb dX12_drawn_60 (by decide) ?_
          have hPc := hP.sub (ws' := [(mo, .inr (12, [.ref nw, .ref kp, .ref ik, .ref mr, .long la_, .long lb_, .ref mw, .long lc_, .int ti_, .int cb_, .long ld_, .long le_, .ref mq, .ref mz, .ref my, .int sm_, .ref mb, .int bl_, .int ta_, .int tl_, .int tk_, .int vl_, .ref mx, .ref mv])), (mr, .inl (cr_, 3, .inl fr_))]) [0, 1] rfl
          have hDc := hD.sub (ws' := [(mo, .inr (12, [.ref nw, .ref kp, .ref ik, .ref mr, .long la_, .long lb_, .ref mw, .long lc_, .int ti_, .int cb_, .long ld_, .long le_, .ref mq, .ref mz, .ref my, .int sm_, .ref mb, .int bl_, .int ta_, .int tl_, .int tk_, .int vl_, .ref mx, .ref mv])), (mr, .inl (cr_, 3, .inl fr_))]) [0, 1] (by decide) rfl
          have hKc := hK.sub (tys' := [(cr_, .int)]) [0] rfl
          have hFc := va_free (wc := [(mo, .inr (12, [.ref nw, .ref kp, .ref ik, .ref mr, .long la_, .long lb_, .ref mw, .long lc_, .int ti_, .int cb_, .long ld_, .long le_, .ref mq, .ref mz, .ref my, .int sm_, .ref mb, .int bl_, .int ta_, .int tl_, .int tk_, .int vl_, .ref mx, .ref mv])), (mr, .inl (cr_, 3, .inl fr_))]) hD hS hA [0, 1] rfl
          refine va_calli (va_runV (As := [.int (-2)]) (rest := []) ⟨hx, hb, hml, hown, hts⟩ (m_bad l dC dI mo nw kp ik mr la_ lb_ mw lc_ ti_ cb_ ld_ le_ mq mz my sm_ mb bl_ ta_ tl_ tk_ vl_ mx mv cr_ fr_ (-2) s.heap.size) (cwV 1 hts gX12_drawn_X12_bad rfl rfl rfl (by decide +kernel) ⟨Nat.le_of_ble_eq_true rfl, Nat.le_of_ble_eq_true rfl⟩) ⟨fun a U g mk q => by obtain ⟨q0, q1, qP, qK, qD⟩ := q; exact ⟨q0, q1, qP, va_K.moved (u := U) (U := U.calling g mk a) (Vm.Alike.refl U.vm) qK, qD⟩, va_recv hK hP (ci := 12) (q0 := 0) rfl rfl, fun U hU hW => ⟨rfl, by rw [hU], by rw [hU]; exact hPc, va_K.moved hW.alike hKc, hDc.weaken (fun _ _ _ _ => trivial)⟩⟩ rfl rfl hl.1 rfl (lv_room (Nat.le_of_ble_eq_true rfl)) dX12_drawn_62 ⟨Nat.le_of_ble_eq_true rfl, Nat.le_of_ble_eq_true rfl⟩) hS (fun q _ h => hFc q h) hFc (fun r_51 u_ t H1 locs ht hvm hw_52 hB hz1 hk1 hS => ?_)
          obtain ⟨gr__53, hP1, hK1, hD1⟩ := hB
          rw [ht] at hP1
          have hK1 := va_K.moved hvm.symm hK1
          obtain ⟨hP, hD⟩ := va_join (wr := []) (w1 := [(mo, .inr (12, [.ref nw, .ref kp, .ref ik, .ref mr, .long la_, .long lb_, .ref mw, .long lc_, .int ti_, .int cb_, .long ld_, .long le_, .ref mq, .ref mz, .ref my, .int sm_, .ref mb, .int bl_, .int ta_, .int tl_, .int tk_, .int vl_, .ref mx, .ref mv])), (mr, .inl (cr_, 3, .inl gr__53))]) hP hD [0, 1] [] rfl rfl (by decide) (by decide) hk1 hFc hP1 hD1
          generalize H1 = H at hP hS ⊢
          have hP : va_P (dC, dI) vwCl [(mo, .inr (12, [.ref nw, .ref kp, .ref ik, .ref mr, .long la_, .long lb_, .ref mw, .long lc_, .int ti_, .int cb_, .long ld_, .long le_, .ref mq, .ref mz, .ref my, .int sm_, .ref mb, .int bl_, .int ta_, .int tl_, .int tk_, .int vl_, .ref mx, .ref mv])), (mr, .inl (cr_, 3, .inl gr__53))] H := hP
          have hD : va_D A [(mo, .inr (12, [.ref nw, .ref kp, .ref ik, .ref mr, .long la_, .long lb_, .ref mw, .long lc_, .int ti_, .int cb_, .long ld_, .long le_, .ref mq, .ref mz, .ref my, .int sm_, .ref mb, .int bl_, .int ta_, .int tl_, .int tk_, .int vl_, .ref mx, .ref mv])), (mr, .inl (cr_, 3, .inl gr__53))] := hD
          obtain rfl : (-2) = r_51 := hw_52.symm
          have hP9 := hP.sub (ws' := [(mo, .inr (12, [.ref nw, .ref kp, .ref ik, .ref mr, .long la_, .long lb_, .ref mw, .long lc_, .int ti_, .int cb_, .long ld_, .long le_, .ref mq, .ref mz, .ref my, .int sm_, .ref mb, .int bl_, .int ta_, .int tl_, .int tk_, .int vl_, .ref mx, .ref mv])), (mr, .inl (cr_, 3, .inl gr__53))]) [0, 1] rfl
          have hD9 := hD.sub (ws' := [(mo, .inr (12, [.ref nw, .ref kp, .ref ik, .ref mr, .long la_, .long lb_, .ref mw, .long lc_, .int ti_, .int cb_, .long ld_, .long le_, .ref mq, .ref mz, .ref my, .int sm_, .ref mb, .int bl_, .int ta_, .int tl_, .int tk_, .int vl_, .ref mx, .ref mv])), (mr, .inl (cr_, 3, .inl gr__53))]) [0, 1] (by decide) rfl
          have hK9 := hK.sub (tys' := [(cr_, .int)]) [0] rfl
          exact W.iret (v := (-2)) hx hb hr (fun t ht hW => ⟨⟨(-2), (), rfl, (show (-2) = _ from by unfold dS; exact ((if_pos hc_3).trans (if_neg hc_7)).symm), gr__53, by rw [ht]; exact hP9, va_K.moved hW.alike hK9, hD9⟩, hS.F ht⟩) hS.2.2 dX12_drawn_65
        · exact absurd c_50 (by decide)
  · obtain rfl : 0 = r_1 := (hw_2.trans (if_neg hc_3)).symm
    refine lv_if_eq (tgt := 59) hx hb dX12_drawn_4 (by decide) (fun c_54 => ?_) (fun c_54 => ?_)
    · refine lv_aload_n hx hb dX12_drawn_59 rfl (lv_at hl 0 rfl) ?_
      refine lv_bipush (v := (-2)) hx hb dX12_drawn_60 (by decide) ?_
      have hPc := hP.sub (ws' := [(mo, .inr (12, [.ref nw, .ref kp, .ref ik, .ref mr, .long la_, .long lb_, .ref mw, .long lc_, .int ti_, .int cb_, .long ld_, .long le_, .ref mq, .ref mz, .ref my, .int sm_, .ref mb, .int bl_, .int ta_, .int tl_, .int tk_, .int vl_, .ref mx, .ref mv])), (mr, .inl (cr_, 3, .inl fr_))]) [0, 1] rfl
      have hDc := hD.sub (ws' := [(mo, .inr (12, [.ref nw, .ref kp, .ref ik, .ref mr, .long la_, .long lb_, .ref mw, .long lc_, .int ti_, .int cb_, .long ld_, .long le_, .ref mq, .ref mz, .ref my, .int sm_, .ref mb, .int bl_, .int ta_, .int tl_, .int tk_, .int vl_, .ref mx, .ref mv])), (mr, .inl (cr_, 3, .inl fr_))]) [0, 1] (by decide) rfl
      have hKc := hK.sub (tys' := [(cr_, .int)]) [0] rfl
      have hFc := va_free (wc := [(mo, .inr (12, [.ref nw, .ref kp, .ref ik, .ref mr, .long la_, .long lb_, .ref mw, .long lc_, .int ti_, .int cb_, .long ld_, .long le_, .ref mq, .ref mz, .ref my, .int sm_, .ref mb, .int bl_, .int ta_, .int tl_, .int tk_, .int vl_, .ref mx, .ref mv])), (mr, .inl (cr_, 3, .inl fr_))]) hD hS hA [0, 1] rfl
      refine va_calli (va_runV (As := [.int (-2)]) (rest := []) ⟨hx, hb, hml, hown, hts⟩ (m_bad l dC dI mo nw kp ik mr la_ lb_ mw lc_ ti_ cb_ ld_ le_ mq mz my sm_ mb bl_ ta_ tl_ tk_ vl_ mx mv cr_ fr_ (-2) s.heap.size) (cwV 1 hts gX12_drawn_X12_bad rfl rfl rfl (by decide +kernel) ⟨Nat.le_of_ble_eq_true rfl, Nat.le_of_ble_eq_true rfl⟩) ⟨fun a U g mk q => by obtain ⟨q0, q1, qP, qK, qD⟩ := q; exact ⟨q0, q1, qP, va_K.moved (u := U) (U := U.calling g mk a) (Vm.Alike.refl U.vm) qK, qD⟩, va_recv hK hP (ci := 12) (q0 := 0) rfl rfl, fun U hU hW => ⟨rfl, by rw [hU], by rw [hU]; exact hPc, va_K.moved hW.alike hKc, hDc.weaken (fun _ _ _ _ => trivial)⟩⟩ rfl rfl hl.1 rfl (lv_room (Nat.le_of_ble_eq_true rfl)) dX12_drawn_62 ⟨Nat.le_of_ble_eq_true rfl, Nat.le_of_ble_eq_true rfl⟩) hS (fun q _ h => hFc q h) hFc (fun r_55 u_ t H1 locs ht hvm hw_56 hB hz1 hk1 hS => ?_)
      obtain ⟨gr__57, hP1, hK1, hD1⟩ := hB
      rw [ht] at hP1
      have hK1 := va_K.moved hvm.symm hK1
      obtain ⟨hP, hD⟩ := va_join (wr := []) (w1 := [(mo, .inr (12, [.ref nw, .ref kp, .ref ik, .ref mr, .long la_, .long lb_, .ref mw, .long lc_, .int ti_, .int cb_, .long ld_, .long le_, .ref mq, .ref mz, .ref my, .int sm_, .ref mb, .int bl_, .int ta_, .int tl_, .int tk_, .int vl_, .ref mx, .ref mv])), (mr, .inl (cr_, 3, .inl gr__57))]) hP hD [0, 1] [] rfl rfl (by decide) (by decide) hk1 hFc hP1 hD1
      generalize H1 = H at hP hS ⊢
      have hP : va_P (dC, dI) vwCl [(mo, .inr (12, [.ref nw, .ref kp, .ref ik, .ref mr, .long la_, .long lb_, .ref mw, .long lc_, .int ti_, .int cb_, .long ld_, .long le_, .ref mq, .ref mz, .ref my, .int sm_, .ref mb, .int bl_, .int ta_, .int tl_, .int tk_, .int vl_, .ref mx, .ref mv])), (mr, .inl (cr_, 3, .inl gr__57))] H := hP
      have hD : va_D A [(mo, .inr (12, [.ref nw, .ref kp, .ref ik, .ref mr, .long la_, .long lb_, .ref mw, .long lc_, .int ti_, .int cb_, .long ld_, .long le_, .ref mq, .ref mz, .ref my, .int sm_, .ref mb, .int bl_, .int ta_, .int tl_, .int tk_, .int vl_, .ref mx, .ref mv])), (mr, .inl (cr_, 3, .inl gr__57))] := hD
      obtain rfl : (-2) = r_55 := hw_56.symm
      have hP9 := hP.sub (ws' := [(mo, .inr (12, [.ref nw, .ref kp, .ref ik, .ref mr, .long la_, .long lb_, .ref mw, .long lc_, .int ti_, .int cb_, .long ld_, .long le_, .ref mq, .ref mz, .ref my, .int sm_, .ref mb, .int bl_, .int ta_, .int tl_, .int tk_, .int vl_, .ref mx, .ref mv])), (mr, .inl (cr_, 3, .inl gr__57))]) [0, 1] rfl
      have hD9 := hD.sub (ws' := [(mo, .inr (12, [.ref nw, .ref kp, .ref ik, .ref mr, .long la_, .long lb_, .ref mw, .long lc_, .int ti_, .int cb_, .long ld_, .long le_, .ref mq, .ref mz, .ref my, .int sm_, .ref mb, .int bl_, .int ta_, .int tl_, .int tk_, .int vl_, .ref mx, .ref mv])), (mr, .inl (cr_, 3, .inl gr__57))]) [0, 1] (by decide) rfl
      have hK9 := hK.sub (tys' := [(cr_, .int)]) [0] rfl
      exact W.iret (v := (-2)) hx hb hr (fun t ht hW => ⟨⟨(-2), (), rfl, (show (-2) = _ from by unfold dS; exact (if_neg hc_3).symm), gr__57, by rw [ht]; exact hP9, va_K.moved hW.alike hK9, hD9⟩, hS.F ht⟩) hS.2.2 dX12_drawn_65
    · exact absurd c_54 (by decide)
