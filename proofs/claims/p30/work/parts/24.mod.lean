set_option maxRecDepth 20000 in
theorem ggX12_laySought_X12_causeHas : GoodIn wsX12_laySought wsX12_causeHas := goodIn_r _ [9, 2, 10, 11, 12, 13, 14, 15, 16, 17, 18, 19, 20, 21, 22, 23, 24, 25, 26, 27, 28, 29, 30, 31, 32, 33] (by decide +kernel) (by decide +kernel)
set_option maxRecDepth 20000 in
theorem gX12_laySought_X12_causeHas : GoodIn wsX12_laySought (wsV RX12 215 RX12 yX12_causeHas wsX12_causeHas) := goodIn_app (goodIn_of _ (by decide +kernel)) ggX12_laySought_X12_causeHas
theorem dX12_laySought_0 : decode cX12_laySought 0 = .ok (.aload_n 0, 1) := by decide +kernel
theorem dX12_laySought_1 : decode cX12_laySought 1 = .ok (.iconst 0, 1) := by decide +kernel
theorem dX12_laySought_2 : decode cX12_laySought 2 = .ok (.putfield 218, 3) := by decide +kernel
theorem dX12_laySought_5 : decode cX12_laySought 5 = .ok (.iconst 0, 1) := by decide +kernel
theorem dX12_laySought_6 : decode cX12_laySought 6 = .ok (.istore_n 2, 1) := by decide +kernel
theorem dX12_laySought_7 : decode cX12_laySought 7 = .ok (.iload_n 2, 1) := by decide +kernel
theorem dX12_laySought_8 : decode cX12_laySought 8 = .ok (.aload_n 0, 1) := by decide +kernel
theorem dX12_laySought_9 : decode cX12_laySought 9 = .ok (.getfield 7, 3) := by decide +kernel
theorem dX12_laySought_12 : decode cX12_laySought 12 = .ok (.iconst 3, 1) := by decide +kernel
theorem dX12_laySought_13 : decode cX12_laySought 13 = .ok (.iaload, 1) := by decide +kernel
theorem dX12_laySought_14 : decode cX12_laySought 14 = .ok (.if_icmp .ge 49, 3) := by decide +kernel
theorem dX12_laySought_17 : decode cX12_laySought 17 = .ok (.aload_n 0, 1) := by decide +kernel
theorem dX12_laySought_18 : decode cX12_laySought 18 = .ok (.iload_n 2, 1) := by decide +kernel
theorem dX12_laySought_19 : decode cX12_laySought 19 = .ok (.iconst 0, 1) := by decide +kernel
theorem dX12_laySought_20 : decode cX12_laySought 20 = .ok (.invokevirtual 215, 3) := by decide +kernel
theorem dX12_laySought_23 : decode cX12_laySought 23 = .ok (.iload_n 1, 1) := by decide +kernel
theorem dX12_laySought_24 : decode cX12_laySought 24 = .ok (.if_icmp .ne 33, 3) := by decide +kernel
theorem dX12_laySought_57 : decode cX12_laySought 57 = .ok (.iinc 2 1, 3) := by decide +kernel
theorem dX12_laySought_60 : decode cX12_laySought 60 = .ok (.goto (-53), 3) := by decide +kernel
theorem dX12_laySought_27 : decode cX12_laySought 27 = .ok (.aload_n 0, 1) := by decide +kernel
theorem dX12_laySought_28 : decode cX12_laySought 28 = .ok (.getfield 31, 3) := by decide +kernel
theorem dX12_laySought_31 : decode cX12_laySought 31 = .ok (.aload_n 0, 1) := by decide +kernel
theorem dX12_laySought_32 : decode cX12_laySought 32 = .ok (.getfield 218, 3) := by decide +kernel
theorem dX12_laySought_35 : decode cX12_laySought 35 = .ok (.iload_n 2, 1) := by decide +kernel
theorem dX12_laySought_36 : decode cX12_laySought 36 = .ok (.iastore, 1) := by decide +kernel
theorem dX12_laySought_37 : decode cX12_laySought 37 = .ok (.aload_n 0, 1) := by decide +kernel
theorem dX12_laySought_38 : decode cX12_laySought 38 = .ok (.getfield 34, 3) := by decide +kernel
theorem dX12_laySought_41 : decode cX12_laySought 41 = .ok (.aload_n 0, 1) := by decide +kernel
theorem dX12_laySought_42 : decode cX12_laySought 42 = .ok (.getfield 218, 3) := by decide +kernel
theorem dX12_laySought_45 : decode cX12_laySought 45 = .ok (.iload_n 2, 1) := by decide +kernel
theorem dX12_laySought_46 : decode cX12_laySought 46 = .ok (.iastore, 1) := by decide +kernel
theorem dX12_laySought_47 : decode cX12_laySought 47 = .ok (.aload_n 0, 1) := by decide +kernel
theorem dX12_laySought_48 : decode cX12_laySought 48 = .ok (.dup, 1) := by decide +kernel
theorem dX12_laySought_49 : decode cX12_laySought 49 = .ok (.getfield 218, 3) := by decide +kernel
theorem dX12_laySought_52 : decode cX12_laySought 52 = .ok (.iconst 1, 1) := by decide +kernel
theorem dX12_laySought_53 : decode cX12_laySought 53 = .ok (.iadd, 1) := by decide +kernel
theorem dX12_laySought_54 : decode cX12_laySought 54 = .ok (.putfield 218, 3) := by decide +kernel
theorem dX12_laySought_63 : decode cX12_laySought 63 = .ok (.return_, 1) := by decide +kernel
set_option maxRecDepth 20000 in
theorem iw_m_laySought_X12 : ∀ w ∈ wsX120, w ∈ wsX12_laySought := by decide +kernel
set_option maxHeartbeats 4000000 in
set_option maxRecDepth 100000 in
theorem m_laySought (l : Launch) (dC : Nat → ClassId) (dI : Nat → Nat → Nat) (mo : Nat) (nw : Nat) (kp : Nat) (ik : Nat) (mr : Nat) (la_ : Int64) (lb_ : Int64) (mw : Nat) (lc_ : Int64) (ti_ : Int32) (cb_ : Int32) (ld_ : Int64) (le_ : Int64) (mq : Nat) (mz : Nat) (my : Nat) (sm_ : Int32) (mb : Nat) (bl_ : Int32) (ta_ : Int32) (tl_ : Int32) (tk_ : Int32) (vl_ : Int32) (mx : Nat) (mv : Nat) (cn_ : ClassId) (fn : Nat → Int32) (cs_ : ClassId) (fs_ : Nat → Int32) (cz_ : ClassId) (fz_ : Nat → Int32) (na : Int32) (j3 : Nat) (sz : Nat) (hOn : tz_OK 350 fn) (e3 : fn 3 = nI j3) (hj3 : j3 ≤ 6) : Met l yX12_laySought wsX12_laySought ({ frames := 1, cells := 0, slots := 0, locals := 22 }) (va_Pc [.ref mo, .int na] (fun U => U.heap.size = sz ∧ va_P (dC, dI) vwCl [(mo, .inr (12, [.ref nw, .ref kp, .ref ik, .ref mr, .long la_, .long lb_, .ref mw, .long lc_, .int ti_, .int cb_, .long ld_, .long le_, .ref mq, .ref mz, .ref my, .int sm_, .ref mb, .int bl_, .int ta_, .int tl_, .int tk_, .int vl_, .ref mx, .ref mv])), (nw, .inl (cn_, 350, .inl fn)), (mq, .inl (cs_, 6, .inl fs_)), (mz, .inl (cz_, 6, .inl fz_))] U.heap ∧ va_K (dC, dI) vwCl [(cn_, .int), (cs_, .int), (cz_, .int)] U ∧ va_D (fun _ => True) [(mo, .inr (12, [.ref nw, .ref kp, .ref ik, .ref mr, .long la_, .long lb_, .ref mw, .long lc_, .int ti_, .int cb_, .long ld_, .long le_, .ref mq, .ref mz, .ref my, .int sm_, .ref mb, .int bl_, .int ta_, .int tl_, .int tk_, .int vl_, .ref mx, .ref mv])), (nw, .inl (cn_, 350, .inl fn)), (mq, .inl (cs_, 6, .inl fs_)), (mz, .inl (cz_, 6, .inl fz_))])) (va_Qv (fun (_ : Unit) => True) (fun _ t => ∃ (gs_ : Nat → Int32) (gz_ : Nat → Int32) (gs : Nat), (gs ≤ 6) ∧ (tz_Or gs j3 gs_) ∧ (tz_Or gs j3 gz_) ∧ va_P (dC, dI) vwCl [(mo, .inr (12, [.ref nw, .ref kp, .ref ik, .ref mr, .long la_, .long lb_, .ref mw, .long lc_, .int ti_, .int cb_, .long ld_, .long le_, .ref mq, .ref mz, .ref my, .int (nI gs), .ref mb, .int bl_, .int ta_, .int tl_, .int tk_, .int vl_, .ref mx, .ref mv])), (nw, .inl (cn_, 350, .inl fn)), (mq, .inl (cs_, 6, .inl gs_)), (mz, .inl (cz_, 6, .inl gz_))] t.heap ∧ va_K (dC, dI) vwCl [(cn_, .int), (cs_, .int), (cz_, .int)] t ∧ va_D (va_A [(mo, .inr (12, [.ref nw, .ref kp, .ref ik, .ref mr, .long la_, .long lb_, .ref mw, .long lc_, .int ti_, .int cb_, .long ld_, .long le_, .ref mq, .ref mz, .ref my, .int sm_, .ref mb, .int bl_, .int ta_, .int tl_, .int tk_, .int vl_, .ref mx, .ref mv])), (nw, .inl (cn_, 350, .inl fn)), (mq, .inl (cs_, 6, .inl fs_)), (mz, .inl (cz_, 6, .inl fz_))] sz) [(mo, .inr (12, [.ref nw, .ref kp, .ref ik, .ref mr, .long la_, .long lb_, .ref mw, .long lc_, .int ti_, .int cb_, .long ld_, .long le_, .ref mq, .ref mz, .ref my, .int (nI gs), .ref mb, .int bl_, .int ta_, .int tl_, .int tk_, .int vl_, .ref mx, .ref mv])), (nw, .inl (cn_, 350, .inl fn)), (mq, .inl (cs_, 6, .inl gs_)), (mz, .inl (cz_, 6, .inl gz_))]) (va_A [(mo, .inr (12, [.ref nw, .ref kp, .ref ik, .ref mr, .long la_, .long lb_, .ref mw, .long lc_, .int ti_, .int cb_, .long ld_, .long le_, .ref mq, .ref mz, .ref my, .int sm_, .ref mb, .int bl_, .int ta_, .int tl_, .int tk_, .int vl_, .ref mx, .ref mv])), (nw, .inl (cn_, 350, .inl fn)), (mq, .inl (cs_, 6, .inl fs_)), (mz, .inl (cz_, 6, .inl fz_))] sz)) 0 0 (va_A [(mo, .inr (12, [.ref nw, .ref kp, .ref ik, .ref mr, .long la_, .long lb_, .ref mw, .long lc_, .int ti_, .int cb_, .long ld_, .long le_, .ref mq, .ref mz, .ref my, .int sm_, .ref mb, .int bl_, .int ta_, .int tl_, .int tk_, .int vl_, .ref mx, .ref mv])), (nw, .inl (cn_, 350, .inl fn)), (mq, .inl (cs_, 6, .inl fs_)), (mz, .inl (cz_, 6, .inl fz_))] sz) := by
  refine Met.ofW (cc := cX12_laySought) (maxL := 3) (ret := none) (by decide) rfl ?_
  intro p e s m args below meth c s₁ B hml hv
  obtain ⟨rfl, hsz, hP, hK, hD0⟩ := hv
  have hx := B.exec
  have hb := B.bytes
  have hr := B.returns
  have hts := atoms_spec (ws := wsX12_laySought) B.pre
  have hown : s.vm.findClass RX12 = some m.cls := findClass_of_methodNamed B.named
  have hlocks := B.notSynchronized
  subst hsz
  have hD := hD0.self (sz := s.heap.size)
  generalize hAe : va_A [(mo, .inr (12, [.ref nw, .ref kp, .ref ik, .ref mr, .long la_, .long lb_, .ref mw, .long lc_, .int ti_, .int cb_, .long ld_, .long le_, .ref mq, .ref mz, .ref my, .int sm_, .ref mb, .int bl_, .int ta_, .int tl_, .int tk_, .int vl_, .ref mx, .ref mv])), (nw, .inl (cn_, 350, .inl fn)), (mq, .inl (cs_, 6, .inl fs_)), (mz, .inl (cz_, 6, .inl fz_))] s.heap.size = A at hD ⊢
  have hA : ∀ q : Nat, s.heap.size ≤ q → A q := fun q h => by rw [← hAe]; exact Or.inr h
  have hS : va_S A s.heap s.heap [] := va_S.rf
  have hP : va_P (dC, dI) vwCl [(mo, .inr (12, [.ref nw, .ref kp, .ref ik, .ref mr, .long la_, .long lb_, .ref mw, .long lc_, .int ti_, .int cb_, .long ld_, .long le_, .ref mq, .ref mz, .ref my, .int sm_, .ref mb, .int bl_, .int ta_, .int tl_, .int tk_, .int vl_, .ref mx, .ref mv])), (nw, .inl (cn_, 350, .inl fn)), (mq, .inl (cs_, 6, .inl fs_)), (mz, .inl (cz_, 6, .inl fz_))] s.heap := hP
  have hl := lv_entry ([.ref mo, .int na]) (n := 3) (Nat.le_of_ble_eq_true rfl)
  rw [lg_entry_eq]
  generalize (lg_sl ([.ref mo, .int na]) ++ List.replicate (3 - (lg_sl ([.ref mo, .int na])).length) Slot.unset).toArray = ls at hl ⊢
  have hl : lv_has ls 3 [(0, .ref mo), (1, .int na)] := hl
  have hk_1 : tz_Or 0 0 fs_ := tz_Or.init
  have hk_2 : tz_Or 0 0 fz_ := tz_Or.init
  refine lv_aload_n hx hb dX12_laySought_0 rfl (lv_at hl 0 rfl) ?_
  refine lv_iconst (v := 0) hx hb dX12_laySought_1 (by decide) ?_
  refine va_put (D := (dC, dI)) (ci := 12) (v := .int 0) (ty := .int) (C := RX12) (T := TX12) (N := 24) hx hb hts iw_m_laySought_X12 tyX12 tyX12_ok nmX12 hown hK hP hD hS 0 rfl rfl 15 (by decide) (hts (.fieldLink RX12 218 "ThriceCountedModel" "soughtMany" "I") (by decide +kernel)) (fun _ h9 => h9) rfl (by decide +kernel) rfl rfl (Nat.le_of_ble_eq_true rfl) dX12_laySought_2 (fun H locs hP hD hS => ?_)
  have hP : va_P (dC, dI) vwCl [(mo, .inr (12, [.ref nw, .ref kp, .ref ik, .ref mr, .long la_, .long lb_, .ref mw, .long lc_, .int ti_, .int cb_, .long ld_, .long le_, .ref mq, .ref mz, .ref my, .int 0, .ref mb, .int bl_, .int ta_, .int tl_, .int tk_, .int vl_, .ref mx, .ref mv])), (nw, .inl (cn_, 350, .inl fn)), (mq, .inl (cs_, 6, .inl fs_)), (mz, .inl (cz_, 6, .inl fz_))] H := hP
  have hD : va_D A [(mo, .inr (12, [.ref nw, .ref kp, .ref ik, .ref mr, .long la_, .long lb_, .ref mw, .long lc_, .int ti_, .int cb_, .long ld_, .long le_, .ref mq, .ref mz, .ref my, .int 0, .ref mb, .int bl_, .int ta_, .int tl_, .int tk_, .int vl_, .ref mx, .ref mv])), (nw, .inl (cn_, 350, .inl fn)), (mq, .inl (cs_, 6, .inl fs_)), (mz, .inl (cz_, 6, .inl fz_))] := hD
  refine lv_iconst (v := 0) hx hb dX12_laySought_5 (by decide) ?_
  refine lv_istore_n (lv' := [(2, .int 0), (0, .ref mo), (1, .int na)]) hx hb dX12_laySought_6 rfl hl (by decide) rfl (fun ls hl => ?_)
  refine tz_while (σ := Nat × Nat × (Nat → Int32) × (Nat → Int32) × Heap × List Loc × Array Slot) (fun x => W p l e _ s m _ below meth c x.2.2.2.2.1 x.2.2.2.2.2.1 _ _ _ (F0 m 7 x.2.2.2.2.2.2 [])) (fun x => x.2.1 ≤ x.1 ∧ tz_Or x.2.1 x.1 x.2.2.1 ∧ tz_Or x.2.1 x.1 x.2.2.2.1 ∧ x.1 ≤ j3 ∧ va_P (dC, dI) vwCl [(mo, .inr (12, [.ref nw, .ref kp, .ref ik, .ref mr, .long la_, .long lb_, .ref mw, .long lc_, .int ti_, .int cb_, .long ld_, .long le_, .ref mq, .ref mz, .ref my, .int (nI x.2.1), .ref mb, .int bl_, .int ta_, .int tl_, .int tk_, .int vl_, .ref mx, .ref mv])), (nw, .inl (cn_, 350, .inl fn)), (mq, .inl (cs_, 6, .inl x.2.2.1)), (mz, .inl (cz_, 6, .inl x.2.2.2.1))] x.2.2.2.2.1 ∧ va_D A [(mo, .inr (12, [.ref nw, .ref kp, .ref ik, .ref mr, .long la_, .long lb_, .ref mw, .long lc_, .int ti_, .int cb_, .long ld_, .long le_, .ref mq, .ref mz, .ref my, .int (nI x.2.1), .ref mb, .int bl_, .int ta_, .int tl_, .int tk_, .int vl_, .ref mx, .ref mv])), (nw, .inl (cn_, 350, .inl fn)), (mq, .inl (cs_, 6, .inl x.2.2.1)), (mz, .inl (cz_, 6, .inl x.2.2.2.1))] ∧ va_S A s.heap x.2.2.2.2.1 x.2.2.2.2.2.1 ∧ lv_has x.2.2.2.2.2.2 3 [(2, .int (nI x.1)), (0, .ref mo), (1, .int na)]) (fun x => j3 - x.1) ?_ (0, 0, fs_, fz_, H, locs, ls) ⟨by (try dsimp only); omega, hk_1, hk_2, by (try dsimp only); omega, hP, hD, hS, hl⟩
  rintro ⟨k_3, z_4, f_15, f_16, H, locs, ls⟩ ⟨hi_27_0, hi_28_1, hi_29_2, hi_30_3, hP, hD, hS, hl⟩ ih_31
  dsimp only at hi_27_0 hi_28_1 hi_29_2 hi_30_3 hP hD hS hl ih_31 ⊢
  refine lv_iload_n hx hb dX12_laySought_7 rfl (lv_at hl 0 rfl) ?_
  refine lv_aload_n hx hb dX12_laySought_8 rfl (lv_at hl 1 rfl) ?_
  refine va_get (D := (dC, dI)) (ci := 12) (v := .ref nw) (C := RX12) (T := TX12) (N := 24) hx hb hts iw_m_laySought_X12 hown hK hP 0 rfl rfl 0 (by decide) (hts (.fieldLink RX12 7 "ThriceCountedModel" "now" "[I") (by decide +kernel)) (fun _ h9 => h9) rfl dX12_laySought_9 ?_
  refine lv_iconst (v := 3) hx hb dX12_laySought_12 (by decide) ?_
  refine va_iald hx hb hK hP 1 0 rfl rfl (show ¬ ((3 : Int32) < 0 ∨ 350 ≤ (3 : Int32).toNatClampNeg) by decide) dX12_laySought_13 ?_
  refine tz_i (nI j3) e3 ?_
  refine lv_icmp_ge (tgt := 63) hx hb dX12_laySought_14 (by decide) (fun c_32 => ?_) (fun c_32 => ?_)
  · have hn_33 : j3 ≤ k_3 := (nI_leI (a := j3) (b := k_3) (by omega) (by omega)).mp c_32
    have hP9 := hP.sub (ws' := [(mo, .inr (12, [.ref nw, .ref kp, .ref ik, .ref mr, .long la_, .long lb_, .ref mw, .long lc_, .int ti_, .int cb_, .long ld_, .long le_, .ref mq, .ref mz, .ref my, .int (nI z_4), .ref mb, .int bl_, .int ta_, .int tl_, .int tk_, .int vl_, .ref mx, .ref mv])), (nw, .inl (cn_, 350, .inl fn)), (mq, .inl (cs_, 6, .inl f_15)), (mz, .inl (cz_, 6, .inl f_16))]) [0, 1, 2, 3] rfl
    have hD9 := hD.sub (ws' := [(mo, .inr (12, [.ref nw, .ref kp, .ref ik, .ref mr, .long la_, .long lb_, .ref mw, .long lc_, .int ti_, .int cb_, .long ld_, .long le_, .ref mq, .ref mz, .ref my, .int (nI z_4), .ref mb, .int bl_, .int ta_, .int tl_, .int tk_, .int vl_, .ref mx, .ref mv])), (nw, .inl (cn_, 350, .inl fn)), (mq, .inl (cs_, 6, .inl f_15)), (mz, .inl (cz_, 6, .inl f_16))]) [0, 1, 2, 3] (by decide) rfl
    have hK9 := hK.sub (tys' := [(cn_, .int), (cs_, .int), (cz_, .int)]) [0, 1, 2] rfl
    exact W.vret hx hb hr (fun t ht hW => ⟨⟨(), rfl, trivial, f_15, f_16, z_4, by omega, hi_28_1.cast (by omega), hi_29_2.cast (by omega), by rw [ht]; exact hP9, va_K.moved hW.alike hK9, hD9⟩, hS.F ht⟩) hS.2.2 dX12_laySought_63
  · have hn_34 : ¬ j3 ≤ k_3 := fun q => c_32 ((nI_leI (a := j3) (b := k_3) (by omega) (by omega)).mpr q)
    refine lv_aload_n hx hb dX12_laySought_17 rfl (lv_at hl 1 rfl) ?_
    refine lv_iload_n hx hb dX12_laySought_18 rfl (lv_at hl 0 rfl) ?_
    refine lv_iconst (v := 0) hx hb dX12_laySought_19 (by decide) ?_
    have hPc_35 := hP.sub (ws' := [(mo, .inr (12, [.ref nw, .ref kp, .ref ik, .ref mr, .long la_, .long lb_, .ref mw, .long lc_, .int ti_, .int cb_, .long ld_, .long le_, .ref mq, .ref mz, .ref my, .int (nI z_4), .ref mb, .int bl_, .int ta_, .int tl_, .int tk_, .int vl_, .ref mx, .ref mv])), (nw, .inl (cn_, 350, .inl fn))]) [0, 1] rfl
    have hKc_36 := hK.sub (tys' := [(cn_, .int)]) [0] rfl
    refine vp_callSi (va_Run.run (va_runV (As := [.int (nI k_3), .int 0]) (rest := []) ⟨hx, hb, hml, hown, hts⟩ (m_causeHas0 l dC dI mo nw kp ik mr la_ lb_ mw lc_ ti_ cb_ ld_ le_ mq mz my (nI z_4) mb bl_ ta_ tl_ tk_ vl_ mx mv cn_ fn k_3 hOn (by omega)) (cwV 2 hts gX12_laySought_X12_causeHas rfl rfl rfl (by decide +kernel) ⟨Nat.le_of_ble_eq_true rfl, Nat.le_of_ble_eq_true rfl⟩) ⟨fun a U g mk q => by obtain ⟨q0, qP, qK⟩ := q; exact ⟨q0, qP, va_K.moved (u := U) (U := U.calling g mk a) (Vm.Alike.refl U.vm) qK⟩, va_recv hK hP (ci := 12) (q0 := 0) rfl rfl, fun U hU hW => ⟨rfl, by rw [hU]; exact hPc_35, va_K.moved hW.alike hKc_36⟩⟩ rfl rfl hl.1 rfl (lv_room (Nat.le_of_ble_eq_true rfl)) dX12_laySought_20 ⟨Nat.le_of_ble_eq_true rfl, Nat.le_of_ble_eq_true rfl⟩)) (fun r_37 hw_38 => ?_)
    refine lv_iload_n hx hb dX12_laySought_23 rfl (lv_at hl 2 rfl) ?_
    refine lv_icmp_ne (tgt := 57) hx hb dX12_laySought_24 (by decide) (fun c_39 => ?_) (fun c_39 => ?_)
    · have hv_40 : tz_Or z_4 (k_3 + 1) f_15 := hi_28_1.mono
      have hv_41 : tz_Or z_4 (k_3 + 1) f_16 := hi_29_2.mono
      refine lv_iinc (v := (nI (k_3 + 1))) (lv' := [(2, .int (nI (k_3 + 1))), (0, .ref mo), (1, .int na)]) hx hb dX12_laySought_57 hl (k := 0) rfl (nI_add k_3 1) (by decide) rfl (fun ls hl => ?_)
      refine lv_goto (tgt := 7) hx hb dX12_laySought_60 (by decide) ?_
      exact ih_31 ((k_3 + 1), z_4, f_15, f_16, H, locs, ls) ⟨by dsimp only; omega, hv_40, hv_41, by dsimp only; omega, hP, hD, hS, lv_sub hl [0, 1, 2] rfl⟩ (by dsimp only; omega)
    · refine lv_aload_n hx hb dX12_laySought_27 rfl (lv_at hl 1 rfl) ?_
      refine va_get (D := (dC, dI)) (ci := 12) (v := .ref mq) (C := RX12) (T := TX12) (N := 24) hx hb hts iw_m_laySought_X12 hown hK hP 0 rfl rfl 12 (by decide) (hts (.fieldLink RX12 31 "ThriceCountedModel" "sought" "[I") (by decide +kernel)) (fun _ h9 => h9) rfl dX12_laySought_28 ?_
      refine lv_aload_n hx hb dX12_laySought_31 rfl (lv_at hl 1 rfl) ?_
      refine va_get (D := (dC, dI)) (ci := 12) (v := .int (nI z_4)) (C := RX12) (T := TX12) (N := 24) hx hb hts iw_m_laySought_X12 hown hK hP 0 rfl rfl 15 (by decide) (hts (.fieldLink RX12 218 "ThriceCountedModel" "soughtMany" "I") (by decide +kernel)) (fun _ h9 => h9) rfl dX12_laySought_32 ?_
      refine lv_iload_n hx hb dX12_laySought_35 rfl (lv_at hl 0 rfl) ?_
      refine va_iast hx hb hK hP hD hS 2 1 rfl rfl (vp_in_nI (n := z_4) (N := 6) (by omega) (by decide)) dX12_laySought_36 (fun H locs hP hD hS => ?_)
      have hk_43 : tz_Or (z_4 + 1) (k_3 + 1) (upd f_15 (Int32.toNatClampNeg (nI z_4)) (nI k_3)) := hi_28_1.push (by omega) (by omega)
      generalize (upd f_15 (Int32.toNatClampNeg (nI z_4)) (nI k_3)) = f_42 at hP hD hk_43
      have hP : va_P (dC, dI) vwCl [(mo, .inr (12, [.ref nw, .ref kp, .ref ik, .ref mr, .long la_, .long lb_, .ref mw, .long lc_, .int ti_, .int cb_, .long ld_, .long le_, .ref mq, .ref mz, .ref my, .int (nI z_4), .ref mb, .int bl_, .int ta_, .int tl_, .int tk_, .int vl_, .ref mx, .ref mv])), (nw, .inl (cn_, 350, .inl fn)), (mq, .inl (cs_, 6, .inl f_42)), (mz, .inl (cz_, 6, .inl f_16))] H := hP
      have hD : va_D A [(mo, .inr (12, [.ref nw, .ref kp, .ref ik, .ref mr, .long la_, .long lb_, .ref mw, .long lc_, .int ti_, .int cb_, .long ld_, .long le_, .ref mq, .ref mz, .ref my, .int (nI z_4), .ref mb, .int bl_, .int ta_, .int tl_, .int tk_, .int vl_, .ref mx, .ref mv])), (nw, .inl (cn_, 350, .inl fn)), (mq, .inl (cs_, 6, .inl f_42)), (mz, .inl (cz_, 6, .inl f_16))] := hD
      refine lv_aload_n hx hb dX12_laySought_37 rfl (lv_at hl 1 rfl) ?_
      refine va_get (D := (dC, dI)) (ci := 12) (v := .ref mz) (C := RX12) (T := TX12) (N := 24) hx hb hts iw_m_laySought_X12 hown hK hP 0 rfl rfl 13 (by decide) (hts (.fieldLink RX12 34 "ThriceCountedModel" "order" "[I") (by decide +kernel)) (fun _ h9 => h9) rfl dX12_laySought_38 ?_
      refine lv_aload_n hx hb dX12_laySought_41 rfl (lv_at hl 1 rfl) ?_
      refine va_get (D := (dC, dI)) (ci := 12) (v := .int (nI z_4)) (C := RX12) (T := TX12) (N := 24) hx hb hts iw_m_laySought_X12 hown hK hP 0 rfl rfl 15 (by decide) (hts (.fieldLink RX12 218 "ThriceCountedModel" "soughtMany" "I") (by decide +kernel)) (fun _ h9 => h9) rfl dX12_laySought_42 ?_
      refine lv_iload_n hx hb dX12_laySought_45 rfl (lv_at hl 0 rfl) ?_
      refine va_iast hx hb hK hP hD hS 3 2 rfl rfl (vp_in_nI (n := z_4) (N := 6) (by omega) (by decide)) dX12_laySought_46 (fun H locs hP hD hS => ?_)
      have hk_45 : tz_Or (z_4 + 1) (k_3 + 1) (upd f_16 (Int32.toNatClampNeg (nI z_4)) (nI k_3)) := hi_29_2.push (by omega) (by omega)
      generalize (upd f_16 (Int32.toNatClampNeg (nI z_4)) (nI k_3)) = f_44 at hP hD hk_45
      have hP : va_P (dC, dI) vwCl [(mo, .inr (12, [.ref nw, .ref kp, .ref ik, .ref mr, .long la_, .long lb_, .ref mw, .long lc_, .int ti_, .int cb_, .long ld_, .long le_, .ref mq, .ref mz, .ref my, .int (nI z_4), .ref mb, .int bl_, .int ta_, .int tl_, .int tk_, .int vl_, .ref mx, .ref mv])), (nw, .inl (cn_, 350, .inl fn)), (mq, .inl (cs_, 6, .inl f_42)), (mz, .inl (cz_, 6, .inl f_44))] H := hP
      have hD : va_D A [(mo, .inr (12, [.ref nw, .ref kp, .ref ik, .ref mr, .long la_, .long lb_, .ref mw, .long lc_, .int ti_, .int cb_, .long ld_, .long le_, .ref mq, .ref mz, .ref my, .int (nI z_4), .ref mb, .int bl_, .int ta_, .int tl_, .int tk_, .int vl_, .ref mx, .ref mv])), (nw, .inl (cn_, 350, .inl fn)), (mq, .inl (cs_, 6, .inl f_42)), (mz, .inl (cz_, 6, .inl f_44))] := hD
      refine lv_aload_n hx hb dX12_laySought_47 rfl (lv_at hl 1 rfl) ?_
      refine lv_dup hx hb dX12_laySought_48 rfl ?_
      refine va_get (D := (dC, dI)) (ci := 12) (v := .int (nI z_4)) (C := RX12) (T := TX12) (N := 24) hx hb hts iw_m_laySought_X12 hown hK hP 0 rfl rfl 15 (by decide) (hts (.fieldLink RX12 218 "ThriceCountedModel" "soughtMany" "I") (by decide +kernel)) (fun _ h9 => h9) rfl dX12_laySought_49 ?_
      refine lv_iconst (v := 1) hx hb dX12_laySought_52 (by decide) ?_
      refine lv_iadd hx hb dX12_laySought_53 ?_
      refine tz_i (nI (z_4 + 1)) (nI_add z_4 1) ?_
      refine va_put (D := (dC, dI)) (ci := 12) (v := .int (nI (z_4 + 1))) (ty := .int) (C := RX12) (T := TX12) (N := 24) hx hb hts iw_m_laySought_X12 tyX12 tyX12_ok nmX12 hown hK hP hD hS 0 rfl rfl 15 (by decide) (hts (.fieldLink RX12 218 "ThriceCountedModel" "soughtMany" "I") (by decide +kernel)) (fun _ h9 => h9) rfl (by decide +kernel) rfl rfl (Nat.le_of_ble_eq_true rfl) dX12_laySought_54 (fun H locs hP hD hS => ?_)
      have hP : va_P (dC, dI) vwCl [(mo, .inr (12, [.ref nw, .ref kp, .ref ik, .ref mr, .long la_, .long lb_, .ref mw, .long lc_, .int ti_, .int cb_, .long ld_, .long le_, .ref mq, .ref mz, .ref my, .int (nI (z_4 + 1)), .ref mb, .int bl_, .int ta_, .int tl_, .int tk_, .int vl_, .ref mx, .ref mv])), (nw, .inl (cn_, 350, .inl fn)), (mq, .inl (cs_, 6, .inl f_42)), (mz, .inl (cz_, 6, .inl f_44))] H := hP
      have hD : va_D A [(mo, .inr (12, [.ref nw, .ref kp, .ref ik, .ref mr, .long la_, .long lb_, .ref mw, .long lc_, .int ti_, .int cb_, .long ld_, .long le_, .ref mq, .ref mz, .ref my, .int (nI (z_4 + 1)), .ref mb, .int bl_, .int ta_, .int tl_, .int tk_, .int vl_, .ref mx, .ref mv])), (nw, .inl (cn_, 350, .inl fn)), (mq, .inl (cs_, 6, .inl f_42)), (mz, .inl (cz_, 6, .inl f_44))] := hD
      refine lv_iinc (v := (nI (k_3 + 1))) (lv' := [(2, .int (nI (k_3 + 1))), (0, .ref mo), (1, .int na)]) hx hb dX12_laySought_57 hl (k := 0) rfl (nI_add k_3 1) (by decide) rfl (fun ls hl => ?_)
      refine lv_goto (tgt := 7) hx hb dX12_laySought_60 (by decide) ?_
      exact ih_31 ((k_3 + 1), (z_4 + 1), f_42, f_44, H, locs, ls) ⟨by dsimp only; omega, hk_43, hk_45, by dsimp only; omega, hP, hD, hS, lv_sub hl [0, 1, 2] rfl⟩ (by dsimp only; omega)
set_option maxRecDepth 20000 in
theorem iw_m_causeHasO_X12 : ∀ w ∈ wsX120, w ∈ wsX12_causeHas := by decide +kernel
set_option maxHeartbeats 4000000 in
set_option maxRecDepth 100000 in
theorem m_causeHasO (l : Launch) (dC : Nat → ClassId) (dI : Nat → Nat → Nat) (mo : Nat) (nw : Nat) (kp : Nat) (ik : Nat) (mr : Nat) (la_ : Int64) (lb_ : Int64) (mw : Nat) (lc_ : Int64) (ti_ : Int32) (cb_ : Int32) (ld_ : Int64) (le_ : Int64) (mq : Nat) (mz : Nat) (my : Nat) (sm_ : Int32) (mb : Nat) (bl_ : Int32) (ta_ : Int32) (tl_ : Int32) (tk_ : Int32) (vl_ : Int32) (mx : Nat) (mv : Nat) (cn_ : ClassId) (fn : Nat → Int32) (jb : Nat) (j3 : Nat) (hOn : tz_OK 350 fn) (e3 : fn 3 = nI j3) (hj3 : j3 ≤ 6) (hjb : jb < j3) : Met l yX12_causeHas wsX12_causeHas ({ frames := 0, cells := 0, slots := 0, locals := 0 }) (va_Pc [.ref mo, .int (nI jb), .int 1] (fun U => va_P (dC, dI) vwCl [(mo, .inr (12, [.ref nw, .ref kp, .ref ik, .ref mr, .long la_, .long lb_, .ref mw, .long lc_, .int ti_, .int cb_, .long ld_, .long le_, .ref mq, .ref mz, .ref my, .int sm_, .ref mb, .int bl_, .int ta_, .int tl_, .int tk_, .int vl_, .ref mx, .ref mv])), (nw, .inl (cn_, 350, .inl fn))] U.heap ∧ va_K (dC, dI) vwCl [(cn_, .int)] U)) (vp_Si (fun r => ∃ j : Nat, 1 ≤ j ∧ j ≤ 20 ∧ r = nI j)) 0 0 (fun _ => False) := by
  refine Met.ofW (cc := cX12_causeHas) (maxL := 3) (ret := (some .int)) (by decide) rfl ?_
  intro p e s m args below meth c s₁ B hml hv
  obtain ⟨rfl, hP, hK⟩ := hv
  have hx := B.exec
  have hb := B.bytes
  have hr := B.returns
  have hts := atoms_spec (ws := wsX12_causeHas) B.pre
  have hown : s.vm.findClass RX12 = some m.cls := findClass_of_methodNamed B.named
  have hlocks := B.notSynchronized
  have hl := lv_entry ([.ref mo, .int (nI jb), .int 1]) (n := 3) (Nat.le_of_ble_eq_true rfl)
  rw [lg_entry_eq]
  generalize (lg_sl ([.ref mo, .int (nI jb), .int 1]) ++ List.replicate (3 - (lg_sl ([.ref mo, .int (nI jb), .int 1])).length) Slot.unset).toArray = ls at hl ⊢
  have hl : lv_has ls 3 [(0, .ref mo), (1, .int (nI jb)), (2, .int 1)] := hl
  refine lv_aload_n hx hb dX12_causeHas_0 rfl (lv_at hl 0 rfl) ?_
  refine va_get (D := (dC, dI)) (ci := 12) (v := .ref nw) (C := RX12) (T := TX12) (N := 24) hx hb hts iw_m_causeHasO_X12 hown hK hP 0 rfl rfl 0 (by decide) (hts (.fieldLink RX12 7 "ThriceCountedModel" "now" "[I") (by decide +kernel)) (fun _ h9 => h9) rfl dX12_causeHas_1 ?_
  refine lv_bipush (v := 62) hx hb dX12_causeHas_4 (by decide) ?_
  refine lv_iconst (v := 4) hx hb dX12_causeHas_6 (by decide) ?_
  refine lv_iload_n hx hb dX12_causeHas_7 rfl (lv_at hl 1 rfl) ?_
  refine lv_imul hx hb dX12_causeHas_8 ?_
  refine tz_i (nI (4 * jb)) (pk_mul 4 jb) ?_
  refine lv_iadd hx hb dX12_causeHas_9 ?_
  refine tz_i (nI (62 + (4 * jb))) (nI_add 62 (4 * jb)) ?_
  refine lv_iload_n hx hb dX12_causeHas_10 rfl (lv_at hl 2 rfl) ?_
  refine lv_iadd hx hb dX12_causeHas_11 ?_
  refine tz_i (nI ((62 + (4 * jb)) + 1)) (nI_add (62 + (4 * jb)) 1) ?_
  refine va_iald hx hb hK hP 1 0 rfl rfl (vp_in_nI (n := ((62 + (4 * jb)) + 1)) (N := 350) (by omega) (by decide)) dX12_causeHas_12 ?_
  obtain ⟨j_1, hj_3, hj_4, ej_2⟩ := hOn.odds (jb := jb) e3 (by omega) (by omega) (by omega)
  refine tz_i (nI j_1) ej_2 ?_
  exact W.iret (v := (nI j_1)) hx hb hr (fun t ht hW => ⟨(nI j_1), rfl, ⟨j_1, by omega, by omega, rfl⟩, ht⟩) (fun _ h => absurd h List.not_mem_nil) dX12_causeHas_13
set_option maxRecDepth 20000 in
theorem ggX12_allOdds_X12_causeHas : GoodIn wsX12_allOdds wsX12_causeHas := goodIn_r _ [7, 8, 9, 10, 11, 12, 13, 14, 15, 16, 17, 18, 19, 20, 21, 22, 23, 24, 25, 26, 27, 28, 29, 30, 31, 32] (by decide +kernel) (by decide +kernel)
set_option maxRecDepth 20000 in
theorem gX12_allOdds_X12_causeHas : GoodIn wsX12_allOdds (wsV RX12 215 RX12 yX12_causeHas wsX12_causeHas) := goodIn_app (goodIn_of _ (by decide +kernel)) ggX12_allOdds_X12_causeHas
theorem dX12_allOdds_0 : decode cX12_allOdds 0 = .ok (.iconst 0, 1) := by decide +kernel
theorem dX12_allOdds_1 : decode cX12_allOdds 1 = .ok (.istore_n 1, 1) := by decide +kernel
theorem dX12_allOdds_2 : decode cX12_allOdds 2 = .ok (.iconst 0, 1) := by decide +kernel
theorem dX12_allOdds_3 : decode cX12_allOdds 3 = .ok (.istore_n 2, 1) := by decide +kernel
theorem dX12_allOdds_4 : decode cX12_allOdds 4 = .ok (.iload_n 2, 1) := by decide +kernel
theorem dX12_allOdds_5 : decode cX12_allOdds 5 = .ok (.aload_n 0, 1) := by decide +kernel
theorem dX12_allOdds_6 : decode cX12_allOdds 6 = .ok (.getfield 218, 3) := by decide +kernel
theorem dX12_allOdds_9 : decode cX12_allOdds 9 = .ok (.if_icmp .ge 23, 3) := by decide +kernel
theorem dX12_allOdds_12 : decode cX12_allOdds 12 = .ok (.iload_n 1, 1) := by decide +kernel
theorem dX12_allOdds_13 : decode cX12_allOdds 13 = .ok (.aload_n 0, 1) := by decide +kernel
theorem dX12_allOdds_14 : decode cX12_allOdds 14 = .ok (.aload_n 0, 1) := by decide +kernel
theorem dX12_allOdds_15 : decode cX12_allOdds 15 = .ok (.getfield 31, 3) := by decide +kernel
theorem dX12_allOdds_18 : decode cX12_allOdds 18 = .ok (.iload_n 2, 1) := by decide +kernel
theorem dX12_allOdds_19 : decode cX12_allOdds 19 = .ok (.iaload, 1) := by decide +kernel
theorem dX12_allOdds_20 : decode cX12_allOdds 20 = .ok (.iconst 1, 1) := by decide +kernel
theorem dX12_allOdds_21 : decode cX12_allOdds 21 = .ok (.invokevirtual 215, 3) := by decide +kernel
theorem dX12_allOdds_24 : decode cX12_allOdds 24 = .ok (.iadd, 1) := by decide +kernel
theorem dX12_allOdds_25 : decode cX12_allOdds 25 = .ok (.istore_n 1, 1) := by decide +kernel
theorem dX12_allOdds_26 : decode cX12_allOdds 26 = .ok (.iinc 2 1, 3) := by decide +kernel
theorem dX12_allOdds_29 : decode cX12_allOdds 29 = .ok (.goto (-25), 3) := by decide +kernel
theorem dX12_allOdds_32 : decode cX12_allOdds 32 = .ok (.iload_n 1, 1) := by decide +kernel
theorem dX12_allOdds_33 : decode cX12_allOdds 33 = .ok (.ireturn, 1) := by decide +kernel
set_option maxRecDepth 20000 in
theorem iw_m_allOdds_X12 : ∀ w ∈ wsX120, w ∈ wsX12_allOdds := by decide +kernel
set_option maxHeartbeats 4000000 in
set_option maxRecDepth 100000 in
theorem m_allOdds (l : Launch) (dC : Nat → ClassId) (dI : Nat → Nat → Nat) (mo : Nat) (nw : Nat) (kp : Nat) (ik : Nat) (mr : Nat) (la_ : Int64) (lb_ : Int64) (mw : Nat) (lc_ : Int64) (ti_ : Int32) (cb_ : Int32) (ld_ : Int64) (le_ : Int64) (mq : Nat) (mz : Nat) (my : Nat) (js : Nat) (mb : Nat) (bl_ : Int32) (ta_ : Int32) (tl_ : Int32) (tk_ : Int32) (vl_ : Int32) (mx : Nat) (mv : Nat) (cn_ : ClassId) (fn : Nat → Int32) (cs_ : ClassId) (fs_ : Nat → Int32) (j3 : Nat) (hOn : tz_OK 350 fn) (e3 : fn 3 = nI j3) (hj3 : j3 ≤ 6) (hjs : js ≤ 6) (hos : tz_Or js j3 fs_) : Met l yX12_allOdds wsX12_allOdds ({ frames := 1, cells := 0, slots := 0, locals := 22 }) (va_Pc [.ref mo] (fun U => va_P (dC, dI) vwCl [(mo, .inr (12, [.ref nw, .ref kp, .ref ik, .ref mr, .long la_, .long lb_, .ref mw, .long lc_, .int ti_, .int cb_, .long ld_, .long le_, .ref mq, .ref mz, .ref my, .int (nI js), .ref mb, .int bl_, .int ta_, .int tl_, .int tk_, .int vl_, .ref mx, .ref mv])), (nw, .inl (cn_, 350, .inl fn)), (mq, .inl (cs_, 6, .inl fs_))] U.heap ∧ va_K (dC, dI) vwCl [(cn_, .int), (cs_, .int)] U)) (vp_Si (fun r => tz_ao js r)) 0 0 (fun _ => False) := by
  refine Met.ofW (cc := cX12_allOdds) (maxL := 3) (ret := (some .int)) (by decide) rfl ?_
  intro p e s m args below meth c s₁ B hml hv
  obtain ⟨rfl, hP, hK⟩ := hv
  have hx := B.exec
  have hb := B.bytes
  have hr := B.returns
  have hts := atoms_spec (ws := wsX12_allOdds) B.pre
  have hown : s.vm.findClass RX12 = some m.cls := findClass_of_methodNamed B.named
  have hlocks := B.notSynchronized
  have hl := lv_entry ([.ref mo]) (n := 3) (Nat.le_of_ble_eq_true rfl)
  rw [lg_entry_eq]
  generalize (lg_sl ([.ref mo]) ++ List.replicate (3 - (lg_sl ([.ref mo])).length) Slot.unset).toArray = ls at hl ⊢
  have hl : lv_has ls 3 [(0, .ref mo)] := hl
  have hk_1 : tz_ao 0 0 := tz_ao.init
  refine lv_iconst (v := 0) hx hb dX12_allOdds_0 (by decide) ?_
  refine lv_istore_n (lv' := [(1, .int 0), (0, .ref mo)]) hx hb dX12_allOdds_1 rfl hl (by decide) rfl (fun ls hl => ?_)
  refine lv_iconst (v := 0) hx hb dX12_allOdds_2 (by decide) ?_
  refine lv_istore_n (lv' := [(2, .int 0), (1, .int 0), (0, .ref mo)]) hx hb dX12_allOdds_3 rfl hl (by decide) rfl (fun ls hl => ?_)
  refine tz_while (σ := Nat × Int32 × Array Slot) (fun x => W p l e _ s m _ below meth c _ _ _ _ _ (F0 m 4 x.2.2 [])) (fun x => tz_ao x.1 x.2.1 ∧ x.1 ≤ js ∧ lv_has x.2.2 3 [(2, .int (nI x.1)), (1, .int x.2.1), (0, .ref mo)]) (fun x => js - x.1) ?_ (0, 0, ls) ⟨hk_1, by (try dsimp only); omega, hl⟩
  rintro ⟨k_2, v_16, ls⟩ ⟨hi_30_0, hi_31_1, hl⟩ ih_32
  dsimp only at hi_30_0 hi_31_1 hl ih_32 ⊢
  refine lv_iload_n hx hb dX12_allOdds_4 rfl (lv_at hl 0 rfl) ?_
  refine lv_aload_n hx hb dX12_allOdds_5 rfl (lv_at hl 2 rfl) ?_
  refine va_get (D := (dC, dI)) (ci := 12) (v := .int (nI js)) (C := RX12) (T := TX12) (N := 24) hx hb hts iw_m_allOdds_X12 hown hK hP 0 rfl rfl 15 (by decide) (hts (.fieldLink RX12 218 "ThriceCountedModel" "soughtMany" "I") (by decide +kernel)) (fun _ h9 => h9) rfl dX12_allOdds_6 ?_
  refine lv_icmp_ge (tgt := 32) hx hb dX12_allOdds_9 (by decide) (fun c_33 => ?_) (fun c_33 => ?_)
  · have hn_34 : js ≤ k_2 := (nI_leI (a := js) (b := k_2) (by omega) (by omega)).mp c_33
    refine lv_iload_n hx hb dX12_allOdds_32 rfl (lv_at hl 1 rfl) ?_
    exact W.iret (v := v_16) hx hb hr (fun t ht hW => ⟨v_16, rfl, (hi_30_0.cast (by omega)), ht⟩) (fun _ h => absurd h List.not_mem_nil) dX12_allOdds_33
  · have hn_35 : ¬ js ≤ k_2 := fun q => c_33 ((nI_leI (a := js) (b := k_2) (by omega) (by omega)).mpr q)
    refine lv_iload_n hx hb dX12_allOdds_12 rfl (lv_at hl 1 rfl) ?_
    refine lv_aload_n hx hb dX12_allOdds_13 rfl (lv_at hl 2 rfl) ?_
    refine lv_aload_n hx hb dX12_allOdds_14 rfl (lv_at hl 2 rfl) ?_
    refine va_get (D := (dC, dI)) (ci := 12) (v := .ref mq) (C := RX12) (T := TX12) (N := 24) hx hb hts iw_m_allOdds_X12 hown hK hP 0 rfl rfl 12 (by decide) (hts (.fieldLink RX12 31 "ThriceCountedModel" "sought" "[I") (by decide +kernel)) (fun _ h9 => h9) rfl dX12_allOdds_15 ?_
    refine lv_iload_n hx hb dX12_allOdds_18 rfl (lv_at hl 0 rfl) ?_
    refine va_iald hx hb hK hP 2 1 rfl rfl (vp_in_nI (n := k_2) (N := 6) (by omega) (by decide)) dX12_allOdds_19 ?_
    obtain ⟨j_36, hj_37, ej_38⟩ := hos.natc (K := k_2) (by omega) (by omega)
    refine tz_i (nI j_36) ej_38 ?_
    refine lv_iconst (v := 1) hx hb dX12_allOdds_20 (by decide) ?_
    have hPc_39 := hP.sub (ws' := [(mo, .inr (12, [.ref nw, .ref kp, .ref ik, .ref mr, .long la_, .long lb_, .ref mw, .long lc_, .int ti_, .int cb_, .long ld_, .long le_, .ref mq, .ref mz, .ref my, .int (nI js), .ref mb, .int bl_, .int ta_, .int tl_, .int tk_, .int vl_, .ref mx, .ref mv])), (nw, .inl (cn_, 350, .inl fn))]) [0, 1] rfl
    have hKc_40 := hK.sub (tys' := [(cn_, .int)]) [0] rfl
    refine vp_callSi (va_Run.run (va_runV (As := [.int (nI j_36), .int 1]) (rest := [.int v_16]) ⟨hx, hb, hml, hown, hts⟩ (m_causeHasO l dC dI mo nw kp ik mr la_ lb_ mw lc_ ti_ cb_ ld_ le_ mq mz my (nI js) mb bl_ ta_ tl_ tk_ vl_ mx mv cn_ fn j_36 j3 hOn e3 hj3 (by omega)) (cwV 2 hts gX12_allOdds_X12_causeHas rfl rfl rfl (by decide +kernel) ⟨Nat.le_of_ble_eq_true rfl, Nat.le_of_ble_eq_true rfl⟩) ⟨fun a U g mk q => by obtain ⟨q0, qP, qK⟩ := q; exact ⟨q0, qP, va_K.moved (u := U) (U := U.calling g mk a) (Vm.Alike.refl U.vm) qK⟩, va_recv hK hP (ci := 12) (q0 := 0) rfl rfl, fun U hU hW => ⟨rfl, by rw [hU]; exact hPc_39, va_K.moved hW.alike hKc_40⟩⟩ rfl rfl hl.1 rfl (lv_room (Nat.le_of_ble_eq_true rfl)) dX12_allOdds_21 ⟨Nat.le_of_ble_eq_true rfl, Nat.le_of_ble_eq_true rfl⟩)) (fun r_41 hw_42 => ?_)
    obtain ⟨j_43, hj_44, hj_45, rfl⟩ := hw_42
    refine lv_iadd hx hb dX12_allOdds_24 ?_
    have hv_46 : tz_ao (k_2 + 1) (v_16 + (nI j_43)) := hi_30_0.step (by omega) (by omega) (by omega)
    refine lv_istore_n (lv' := [(1, .int (v_16 + (nI j_43))), (2, .int (nI k_2)), (0, .ref mo)]) hx hb dX12_allOdds_25 rfl hl (by decide) rfl (fun ls hl => ?_)
    refine lv_iinc (v := (nI (k_2 + 1))) (lv' := [(2, .int (nI (k_2 + 1))), (1, .int (v_16 + (nI j_43))), (0, .ref mo)]) hx hb dX12_allOdds_26 hl (k := 1) rfl (nI_add k_2 1) (by decide) rfl (fun ls hl => ?_)
    refine lv_goto (tgt := 4) hx hb dX12_allOdds_29 (by decide) ?_
    exact ih_32 ((k_2 + 1), (v_16 + (nI j_43)), ls) ⟨hv_46, by dsimp only; omega, lv_sub hl [0, 1, 2] rfl⟩ (by dsimp only; omega)
set_option maxRecDepth 20000 in
theorem ggX12_meanOf_X12_causeHas : GoodIn wsX12_meanOf wsX12_causeHas := goodIn_r _ [7, 8, 9, 10, 11, 12, 13, 14, 15, 16, 17, 18, 19, 20, 21, 22, 23, 24, 25, 26, 27, 28, 29, 30, 31, 32] (by decide +kernel) (by decide +kernel)
set_option maxRecDepth 20000 in
theorem gX12_meanOf_X12_causeHas : GoodIn wsX12_meanOf (wsV RX12 215 RX12 yX12_causeHas wsX12_causeHas) := goodIn_app (goodIn_of _ (by decide +kernel)) ggX12_meanOf_X12_causeHas
theorem dX12_meanOf_0 : decode cX12_meanOf 0 = .ok (.iconst 0, 1) := by decide +kernel
theorem dX12_meanOf_1 : decode cX12_meanOf 1 = .ok (.istore_n 1, 1) := by decide +kernel
theorem dX12_meanOf_2 : decode cX12_meanOf 2 = .ok (.iconst 0, 1) := by decide +kernel
theorem dX12_meanOf_3 : decode cX12_meanOf 3 = .ok (.istore_n 2, 1) := by decide +kernel
theorem dX12_meanOf_4 : decode cX12_meanOf 4 = .ok (.iload_n 2, 1) := by decide +kernel
theorem dX12_meanOf_5 : decode cX12_meanOf 5 = .ok (.aload_n 0, 1) := by decide +kernel
theorem dX12_meanOf_6 : decode cX12_meanOf 6 = .ok (.getfield 218, 3) := by decide +kernel
theorem dX12_meanOf_9 : decode cX12_meanOf 9 = .ok (.if_icmp .ge 23, 3) := by decide +kernel
theorem dX12_meanOf_12 : decode cX12_meanOf 12 = .ok (.iload_n 1, 1) := by decide +kernel
theorem dX12_meanOf_13 : decode cX12_meanOf 13 = .ok (.aload_n 0, 1) := by decide +kernel
theorem dX12_meanOf_14 : decode cX12_meanOf 14 = .ok (.aload_n 0, 1) := by decide +kernel
theorem dX12_meanOf_15 : decode cX12_meanOf 15 = .ok (.getfield 34, 3) := by decide +kernel
theorem dX12_meanOf_18 : decode cX12_meanOf 18 = .ok (.iload_n 2, 1) := by decide +kernel
theorem dX12_meanOf_19 : decode cX12_meanOf 19 = .ok (.iaload, 1) := by decide +kernel
theorem dX12_meanOf_20 : decode cX12_meanOf 20 = .ok (.iconst 2, 1) := by decide +kernel
theorem dX12_meanOf_21 : decode cX12_meanOf 21 = .ok (.invokevirtual 215, 3) := by decide +kernel
theorem dX12_meanOf_24 : decode cX12_meanOf 24 = .ok (.iadd, 1) := by decide +kernel
theorem dX12_meanOf_25 : decode cX12_meanOf 25 = .ok (.istore_n 1, 1) := by decide +kernel
theorem dX12_meanOf_26 : decode cX12_meanOf 26 = .ok (.iinc 2 1, 3) := by decide +kernel
theorem dX12_meanOf_29 : decode cX12_meanOf 29 = .ok (.goto (-25), 3) := by decide +kernel
theorem dX12_meanOf_32 : decode cX12_meanOf 32 = .ok (.lconst 0, 1) := by decide +kernel
theorem dX12_meanOf_33 : decode cX12_meanOf 33 = .ok (.lstore_n 2, 1) := by decide +kernel
theorem dX12_meanOf_34 : decode cX12_meanOf 34 = .ok (.iconst 0, 1) := by decide +kernel
theorem dX12_meanOf_35 : decode cX12_meanOf 35 = .ok (.istore 4, 2) := by decide +kernel
theorem dX12_meanOf_37 : decode cX12_meanOf 37 = .ok (.iconst 0, 1) := by decide +kernel
theorem dX12_meanOf_38 : decode cX12_meanOf 38 = .ok (.istore 5, 2) := by decide +kernel
theorem dX12_meanOf_40 : decode cX12_meanOf 40 = .ok (.iload 5, 2) := by decide +kernel
theorem dX12_meanOf_42 : decode cX12_meanOf 42 = .ok (.aload_n 0, 1) := by decide +kernel
theorem dX12_meanOf_43 : decode cX12_meanOf 43 = .ok (.getfield 218, 3) := by decide +kernel
theorem dX12_meanOf_46 : decode cX12_meanOf 46 = .ok (.if_icmp .ge 66, 3) := by decide +kernel
theorem dX12_meanOf_49 : decode cX12_meanOf 49 = .ok (.aload_n 0, 1) := by decide +kernel
theorem dX12_meanOf_50 : decode cX12_meanOf 50 = .ok (.getfield 34, 3) := by decide +kernel
theorem dX12_meanOf_53 : decode cX12_meanOf 53 = .ok (.iload 5, 2) := by decide +kernel
theorem dX12_meanOf_55 : decode cX12_meanOf 55 = .ok (.iaload, 1) := by decide +kernel
theorem dX12_meanOf_56 : decode cX12_meanOf 56 = .ok (.istore 6, 2) := by decide +kernel
theorem dX12_meanOf_58 : decode cX12_meanOf 58 = .ok (.iload 4, 2) := by decide +kernel
theorem dX12_meanOf_60 : decode cX12_meanOf 60 = .ok (.aload_n 0, 1) := by decide +kernel
theorem dX12_meanOf_61 : decode cX12_meanOf 61 = .ok (.iload 6, 2) := by decide +kernel
theorem dX12_meanOf_63 : decode cX12_meanOf 63 = .ok (.iconst 2, 1) := by decide +kernel
theorem dX12_meanOf_64 : decode cX12_meanOf 64 = .ok (.invokevirtual 215, 3) := by decide +kernel
theorem dX12_meanOf_67 : decode cX12_meanOf 67 = .ok (.iadd, 1) := by decide +kernel
theorem dX12_meanOf_68 : decode cX12_meanOf 68 = .ok (.istore 4, 2) := by decide +kernel
theorem dX12_meanOf_70 : decode cX12_meanOf 70 = .ok (.lload_n 2, 1) := by decide +kernel
theorem dX12_meanOf_71 : decode cX12_meanOf 71 = .ok (.aload_n 0, 1) := by decide +kernel
theorem dX12_meanOf_72 : decode cX12_meanOf 72 = .ok (.iload 6, 2) := by decide +kernel
theorem dX12_meanOf_74 : decode cX12_meanOf 74 = .ok (.iconst 1, 1) := by decide +kernel
theorem dX12_meanOf_75 : decode cX12_meanOf 75 = .ok (.invokevirtual 215, 3) := by decide +kernel
theorem dX12_meanOf_78 : decode cX12_meanOf 78 = .ok (.i2l, 1) := by decide +kernel
theorem dX12_meanOf_79 : decode cX12_meanOf 79 = .ok (.aload_n 0, 1) := by decide +kernel
theorem dX12_meanOf_80 : decode cX12_meanOf 80 = .ok (.iload 6, 2) := by decide +kernel
theorem dX12_meanOf_82 : decode cX12_meanOf 82 = .ok (.iconst 3, 1) := by decide +kernel
theorem dX12_meanOf_83 : decode cX12_meanOf 83 = .ok (.invokevirtual 215, 3) := by decide +kernel
theorem dX12_meanOf_86 : decode cX12_meanOf 86 = .ok (.iload 4, 2) := by decide +kernel
theorem dX12_meanOf_88 : decode cX12_meanOf 88 = .ok (.imul, 1) := by decide +kernel
theorem dX12_meanOf_89 : decode cX12_meanOf 89 = .ok (.bipush 10, 2) := by decide +kernel
theorem dX12_meanOf_91 : decode cX12_meanOf 91 = .ok (.aload_n 0, 1) := by decide +kernel
theorem dX12_meanOf_92 : decode cX12_meanOf 92 = .ok (.iload 6, 2) := by decide +kernel
theorem dX12_meanOf_94 : decode cX12_meanOf 94 = .ok (.iconst 3, 1) := by decide +kernel
theorem dX12_meanOf_95 : decode cX12_meanOf 95 = .ok (.invokevirtual 215, 3) := by decide +kernel
theorem dX12_meanOf_98 : decode cX12_meanOf 98 = .ok (.isub, 1) := by decide +kernel
theorem dX12_meanOf_99 : decode cX12_meanOf 99 = .ok (.iload_n 1, 1) := by decide +kernel
theorem dX12_meanOf_100 : decode cX12_meanOf 100 = .ok (.imul, 1) := by decide +kernel
theorem dX12_meanOf_101 : decode cX12_meanOf 101 = .ok (.iadd, 1) := by decide +kernel
theorem dX12_meanOf_102 : decode cX12_meanOf 102 = .ok (.i2l, 1) := by decide +kernel
theorem dX12_meanOf_103 : decode cX12_meanOf 103 = .ok (.lmul, 1) := by decide +kernel
theorem dX12_meanOf_104 : decode cX12_meanOf 104 = .ok (.ladd, 1) := by decide +kernel
theorem dX12_meanOf_105 : decode cX12_meanOf 105 = .ok (.lstore_n 2, 1) := by decide +kernel
theorem dX12_meanOf_106 : decode cX12_meanOf 106 = .ok (.iinc 5 1, 3) := by decide +kernel
theorem dX12_meanOf_109 : decode cX12_meanOf 109 = .ok (.goto (-69), 3) := by decide +kernel
theorem dX12_meanOf_112 : decode cX12_meanOf 112 = .ok (.lload_n 2, 1) := by decide +kernel
theorem dX12_meanOf_113 : decode cX12_meanOf 113 = .ok (.lreturn, 1) := by decide +kernel
set_option maxRecDepth 20000 in
theorem iw_m_meanOf_X12 : ∀ w ∈ wsX120, w ∈ wsX12_meanOf := by decide +kernel
set_option maxHeartbeats 4000000 in
set_option maxRecDepth 100000 in
theorem m_meanOf (l : Launch) (dC : Nat → ClassId) (dI : Nat → Nat → Nat) (mo : Nat) (nw : Nat) (kp : Nat) (ik : Nat) (mr : Nat) (la_ : Int64) (lb_ : Int64) (mw : Nat) (lc_ : Int64) (ti_ : Int32) (cb_ : Int32) (ld_ : Int64) (le_ : Int64) (mq : Nat) (mz : Nat) (my : Nat) (js : Nat) (mb : Nat) (bl_ : Int32) (ta_ : Int32) (tl_ : Int32) (tk_ : Int32) (vl_ : Int32) (mx : Nat) (mv : Nat) (cn_ : ClassId) (fn : Nat → Int32) (cz_ : ClassId) (fz_ : Nat → Int32) (hOn : tz_OK 350 fn) (hjs : js ≤ 6) (hdi : tz_Di js fz_) : Met l yX12_meanOf wsX12_meanOf ({ frames := 1, cells := 0, slots := 0, locals := 22 }) (va_Pc [.ref mo] (fun U => va_P (dC, dI) vwCl [(mo, .inr (12, [.ref nw, .ref kp, .ref ik, .ref mr, .long la_, .long lb_, .ref mw, .long lc_, .int ti_, .int cb_, .long ld_, .long le_, .ref mq, .ref mz, .ref my, .int (nI js), .ref mb, .int bl_, .int ta_, .int tl_, .int tk_, .int vl_, .ref mx, .ref mv])), (nw, .inl (cn_, 350, .inl fn)), (mz, .inl (cz_, 6, .inl fz_))] U.heap ∧ va_K (dC, dI) vwCl [(cn_, .int), (cz_, .int)] U)) (vp_Sl (fun r => True)) 0 0 (fun _ => False) := by
  refine Met.ofW (cc := cX12_meanOf) (maxL := 7) (ret := (some .long)) (by decide) rfl ?_
  intro p e s m args below meth c s₁ B hml hv
  obtain ⟨rfl, hP, hK⟩ := hv
  have hx := B.exec
  have hb := B.bytes
  have hr := B.returns
  have hts := atoms_spec (ws := wsX12_meanOf) B.pre
  have hown : s.vm.findClass RX12 = some m.cls := findClass_of_methodNamed B.named
  have hlocks := B.notSynchronized
  have hl := lv_entry ([.ref mo]) (n := 7) (Nat.le_of_ble_eq_true rfl)
  rw [lg_entry_eq]
  generalize (lg_sl ([.ref mo]) ++ List.replicate (7 - (lg_sl ([.ref mo])).length) Slot.unset).toArray = ls at hl ⊢
  have hl : lv_has ls 7 [(0, .ref mo)] := hl
  refine lv_iconst (v := 0) hx hb dX12_meanOf_0 (by decide) ?_
  refine lv_istore_n (lv' := [(1, .int 0), (0, .ref mo)]) hx hb dX12_meanOf_1 rfl hl (by decide) rfl (fun ls hl => ?_)
  refine lv_iconst (v := 0) hx hb dX12_meanOf_2 (by decide) ?_
  refine lv_istore_n (lv' := [(2, .int 0), (1, .int 0), (0, .ref mo)]) hx hb dX12_meanOf_3 rfl hl (by decide) rfl (fun ls hl => ?_)
  refine tz_while (σ := Nat × Int32 × Array Slot) (fun x => W p l e _ s m _ below meth c _ _ _ _ _ (F0 m 4 x.2.2 [])) (fun x => x.1 ≤ js ∧ lv_has x.2.2 7 [(2, .int (nI x.1)), (1, .int x.2.1), (0, .ref mo)]) (fun x => js - x.1) ?_ (0, 0, ls) ⟨by (try dsimp only); omega, hl⟩
  rintro ⟨k_1, v_13, ls⟩ ⟨hi_25_0, hl⟩ ih_26
  dsimp only at hi_25_0 hl ih_26 ⊢
  refine lv_iload_n hx hb dX12_meanOf_4 rfl (lv_at hl 0 rfl) ?_
  refine lv_aload_n hx hb dX12_meanOf_5 rfl (lv_at hl 2 rfl) ?_
  refine va_get (D := (dC, dI)) (ci := 12) (v := .int (nI js)) (C := RX12) (T := TX12) (N := 24) hx hb hts iw_m_meanOf_X12 hown hK hP 0 rfl rfl 15 (by decide) (hts (.fieldLink RX12 218 "ThriceCountedModel" "soughtMany" "I") (by decide +kernel)) (fun _ h9 => h9) rfl dX12_meanOf_6 ?_
  refine lv_icmp_ge (tgt := 32) hx hb dX12_meanOf_9 (by decide) (fun c_27 => ?_) (fun c_27 => ?_)
  · have hn_28 : js ≤ k_1 := (nI_leI (a := js) (b := k_1) (by omega) (by omega)).mp c_27
    refine lv_lconst (v := 0) hx hb dX12_meanOf_32 (by decide) ?_
    refine lv_lstore_n (lv' := [(2, .long 0), (1, .int v_13), (0, .ref mo)]) hx hb dX12_meanOf_33 rfl hl (by decide) rfl (fun ls hl => ?_)
    refine lv_iconst (v := 0) hx hb dX12_meanOf_34 (by decide) ?_
    refine lv_istore (lv' := [(4, .int 0), (2, .long 0), (1, .int v_13), (0, .ref mo)]) hx hb dX12_meanOf_35 hl (by decide) rfl (fun ls hl => ?_)
    refine lv_iconst (v := 0) hx hb dX12_meanOf_37 (by decide) ?_
    refine lv_istore (lv' := [(5, .int 0), (4, .int 0), (2, .long 0), (1, .int v_13), (0, .ref mo)]) hx hb dX12_meanOf_38 hl (by decide) rfl (fun ls hl => ?_)
    refine tz_while (σ := Nat × Int32 × Int64 × Array Slot) (fun x => W p l e _ s m _ below meth c _ _ _ _ _ (F0 m 40 x.2.2.2 [])) (fun x => x.1 ≤ js ∧ lv_has x.2.2.2 7 [(5, .int (nI x.1)), (4, .int x.2.1), (2, .long x.2.2.1), (1, .int v_13), (0, .ref mo)]) (fun x => js - x.1) ?_ (0, 0, 0, ls) ⟨by (try dsimp only); omega, hl⟩
    rintro ⟨k_29, v_61, v_62, ls⟩ ⟨hi_94_0, hl⟩ ih_95
    dsimp only at hi_94_0 hl ih_95 ⊢
    refine lv_iload hx hb dX12_meanOf_40 (lv_at hl 0 rfl) ?_
    refine lv_aload_n hx hb dX12_meanOf_42 rfl (lv_at hl 4 rfl) ?_
    refine va_get (D := (dC, dI)) (ci := 12) (v := .int (nI js)) (C := RX12) (T := TX12) (N := 24) hx hb hts iw_m_meanOf_X12 hown hK hP 0 rfl rfl 15 (by decide) (hts (.fieldLink RX12 218 "ThriceCountedModel" "soughtMany" "I") (by decide +kernel)) (fun _ h9 => h9) rfl dX12_meanOf_43 ?_
    refine lv_icmp_ge (tgt := 112) hx hb dX12_meanOf_46 (by decide) (fun c_96 => ?_) (fun c_96 => ?_)
    · have hn_97 : js ≤ k_29 := (nI_leI (a := js) (b := k_29) (by omega) (by omega)).mp c_96
      refine lv_lload_n hx hb dX12_meanOf_112 rfl (lv_at hl 2 rfl) ?_
      exact W.lret (v := v_62) hx hb hr (fun t ht hW => ⟨v_62, rfl, trivial, ht⟩) (fun _ h => absurd h List.not_mem_nil) dX12_meanOf_113
    · have hn_98 : ¬ js ≤ k_29 := fun q => c_96 ((nI_leI (a := js) (b := k_29) (by omega) (by omega)).mpr q)
      refine lv_aload_n hx hb dX12_meanOf_49 rfl (lv_at hl 4 rfl) ?_
      refine va_get (D := (dC, dI)) (ci := 12) (v := .ref mz) (C := RX12) (T := TX12) (N := 24) hx hb hts iw_m_meanOf_X12 hown hK hP 0 rfl rfl 13 (by decide) (hts (.fieldLink RX12 34 "ThriceCountedModel" "order" "[I") (by decide +kernel)) (fun _ h9 => h9) rfl dX12_meanOf_50 ?_
      refine lv_iload hx hb dX12_meanOf_53 (lv_at hl 0 rfl) ?_
      refine va_iald hx hb hK hP 2 1 rfl rfl (vp_in_nI (n := k_29) (N := 6) (by omega) (by decide)) dX12_meanOf_55 ?_
      obtain ⟨j_99, hj_100, ej_101⟩ := hdi.natc (K := k_29) (by omega) (by omega)
      refine tz_i (nI j_99) ej_101 ?_
      refine lv_istore (lv' := [(6, .int (nI j_99)), (5, .int (nI k_29)), (4, .int v_61), (2, .long v_62), (1, .int v_13), (0, .ref mo)]) hx hb dX12_meanOf_56 hl (by decide) rfl (fun ls hl => ?_)
      refine lv_iload hx hb dX12_meanOf_58 (lv_at hl 2 rfl) ?_
      refine lv_aload_n hx hb dX12_meanOf_60 rfl (lv_at hl 5 rfl) ?_
      refine lv_iload hx hb dX12_meanOf_61 (lv_at hl 0 rfl) ?_
      refine lv_iconst (v := 2) hx hb dX12_meanOf_63 (by decide) ?_
      have hPc_102 := hP.sub (ws' := [(mo, .inr (12, [.ref nw, .ref kp, .ref ik, .ref mr, .long la_, .long lb_, .ref mw, .long lc_, .int ti_, .int cb_, .long ld_, .long le_, .ref mq, .ref mz, .ref my, .int (nI js), .ref mb, .int bl_, .int ta_, .int tl_, .int tk_, .int vl_, .ref mx, .ref mv])), (nw, .inl (cn_, 350, .inl fn))]) [0, 1] rfl
      have hKc_103 := hK.sub (tys' := [(cn_, .int)]) [0] rfl
      refine vp_callSi (va_Run.run (va_runV (As := [.int (nI j_99), .int 2]) (rest := [.int v_61]) ⟨hx, hb, hml, hown, hts⟩ (m_causeHas2 l dC dI mo nw kp ik mr la_ lb_ mw lc_ ti_ cb_ ld_ le_ mq mz my (nI js) mb bl_ ta_ tl_ tk_ vl_ mx mv cn_ fn j_99 hOn (by omega)) (cwV 2 hts gX12_meanOf_X12_causeHas rfl rfl rfl (by decide +kernel) ⟨Nat.le_of_ble_eq_true rfl, Nat.le_of_ble_eq_true rfl⟩) ⟨fun a U g mk q => by obtain ⟨q0, qP, qK⟩ := q; exact ⟨q0, qP, va_K.moved (u := U) (U := U.calling g mk a) (Vm.Alike.refl U.vm) qK⟩, va_recv hK hP (ci := 12) (q0 := 0) rfl rfl, fun U hU hW => ⟨rfl, by rw [hU]; exact hPc_102, va_K.moved hW.alike hKc_103⟩⟩ rfl rfl hl.1 rfl (lv_room (Nat.le_of_ble_eq_true rfl)) dX12_meanOf_64 ⟨Nat.le_of_ble_eq_true rfl, Nat.le_of_ble_eq_true rfl⟩)) (fun r_104 hw_105 => ?_)
      refine lv_iadd hx hb dX12_meanOf_67 ?_
      refine lv_topi (fun x_106 _ => ?_)
      refine lv_istore (lv' := [(4, .int x_106), (6, .int (nI j_99)), (5, .int (nI k_29)), (2, .long v_62), (1, .int v_13), (0, .ref mo)]) hx hb dX12_meanOf_68 hl (by decide) rfl (fun ls hl => ?_)
      refine lv_lload_n hx hb dX12_meanOf_70 rfl (lv_at hl 3 rfl) ?_
      refine lv_aload_n hx hb dX12_meanOf_71 rfl (lv_at hl 5 rfl) ?_
      refine lv_iload hx hb dX12_meanOf_72 (lv_at hl 1 rfl) ?_
      refine lv_iconst (v := 1) hx hb dX12_meanOf_74 (by decide) ?_
      have hPc_107 := hP.sub (ws' := [(mo, .inr (12, [.ref nw, .ref kp, .ref ik, .ref mr, .long la_, .long lb_, .ref mw, .long lc_, .int ti_, .int cb_, .long ld_, .long le_, .ref mq, .ref mz, .ref my, .int (nI js), .ref mb, .int bl_, .int ta_, .int tl_, .int tk_, .int vl_, .ref mx, .ref mv])), (nw, .inl (cn_, 350, .inl fn))]) [0, 1] rfl
      have hKc_108 := hK.sub (tys' := [(cn_, .int)]) [0] rfl
      refine vp_callSi (va_Run.run (va_runV (As := [.int (nI j_99), .int 1]) (rest := [.long v_62]) ⟨hx, hb, hml, hown, hts⟩ (m_causeHas1 l dC dI mo nw kp ik mr la_ lb_ mw lc_ ti_ cb_ ld_ le_ mq mz my (nI js) mb bl_ ta_ tl_ tk_ vl_ mx mv cn_ fn j_99 hOn (by omega)) (cwV 2 hts gX12_meanOf_X12_causeHas rfl rfl rfl (by decide +kernel) ⟨Nat.le_of_ble_eq_true rfl, Nat.le_of_ble_eq_true rfl⟩) ⟨fun a U g mk q => by obtain ⟨q0, qP, qK⟩ := q; exact ⟨q0, qP, va_K.moved (u := U) (U := U.calling g mk a) (Vm.Alike.refl U.vm) qK⟩, va_recv hK hP (ci := 12) (q0 := 0) rfl rfl, fun U hU hW => ⟨rfl, by rw [hU]; exact hPc_107, va_K.moved hW.alike hKc_108⟩⟩ rfl rfl hl.1 rfl (lv_room (Nat.le_of_ble_eq_true rfl)) dX12_meanOf_75 ⟨Nat.le_of_ble_eq_true rfl, Nat.le_of_ble_eq_true rfl⟩)) (fun r_109 hw_110 => ?_)
      obtain ⟨j_111, hj_112, rfl⟩ := hw_110
      refine lv_i2l (v := (nI j_111).toInt64) hx hb dX12_meanOf_78 rfl ?_
      refine lv_aload_n hx hb dX12_meanOf_79 rfl (lv_at hl 5 rfl) ?_
      refine lv_iload hx hb dX12_meanOf_80 (lv_at hl 1 rfl) ?_
      refine lv_iconst (v := 3) hx hb dX12_meanOf_82 (by decide) ?_
      have hPc_113 := hP.sub (ws' := [(mo, .inr (12, [.ref nw, .ref kp, .ref ik, .ref mr, .long la_, .long lb_, .ref mw, .long lc_, .int ti_, .int cb_, .long ld_, .long le_, .ref mq, .ref mz, .ref my, .int (nI js), .ref mb, .int bl_, .int ta_, .int tl_, .int tk_, .int vl_, .ref mx, .ref mv])), (nw, .inl (cn_, 350, .inl fn))]) [0, 1] rfl
      have hKc_114 := hK.sub (tys' := [(cn_, .int)]) [0] rfl
      refine vp_callSi (va_Run.run (va_runV (As := [.int (nI j_99), .int 3]) (rest := [.long (nI j_111).toInt64, .long v_62]) ⟨hx, hb, hml, hown, hts⟩ (m_causeHas3 l dC dI mo nw kp ik mr la_ lb_ mw lc_ ti_ cb_ ld_ le_ mq mz my (nI js) mb bl_ ta_ tl_ tk_ vl_ mx mv cn_ fn j_99 hOn (by omega)) (cwV 2 hts gX12_meanOf_X12_causeHas rfl rfl rfl (by decide +kernel) ⟨Nat.le_of_ble_eq_true rfl, Nat.le_of_ble_eq_true rfl⟩) ⟨fun a U g mk q => by obtain ⟨q0, qP, qK⟩ := q; exact ⟨q0, qP, va_K.moved (u := U) (U := U.calling g mk a) (Vm.Alike.refl U.vm) qK⟩, va_recv hK hP (ci := 12) (q0 := 0) rfl rfl, fun U hU hW => ⟨rfl, by rw [hU]; exact hPc_113, va_K.moved hW.alike hKc_114⟩⟩ rfl rfl hl.1 rfl (lv_room (Nat.le_of_ble_eq_true rfl)) dX12_meanOf_83 ⟨Nat.le_of_ble_eq_true rfl, Nat.le_of_ble_eq_true rfl⟩)) (fun r_115 hw_116 => ?_)
      refine lv_iload hx hb dX12_meanOf_86 (lv_at hl 0 rfl) ?_
      refine lv_imul hx hb dX12_meanOf_88 ?_
      refine lv_topi (fun x_117 _ => ?_)
      refine lv_bipush (v := 10) hx hb dX12_meanOf_89 (by decide) ?_
      refine lv_aload_n hx hb dX12_meanOf_91 rfl (lv_at hl 5 rfl) ?_
      refine lv_iload hx hb dX12_meanOf_92 (lv_at hl 1 rfl) ?_
      refine lv_iconst (v := 3) hx hb dX12_meanOf_94 (by decide) ?_
      have hPc_118 := hP.sub (ws' := [(mo, .inr (12, [.ref nw, .ref kp, .ref ik, .ref mr, .long la_, .long lb_, .ref mw, .long lc_, .int ti_, .int cb_, .long ld_, .long le_, .ref mq, .ref mz, .ref my, .int (nI js), .ref mb, .int bl_, .int ta_, .int tl_, .int tk_, .int vl_, .ref mx, .ref mv])), (nw, .inl (cn_, 350, .inl fn))]) [0, 1] rfl
      have hKc_119 := hK.sub (tys' := [(cn_, .int)]) [0] rfl
      refine vp_callSi (va_Run.run (va_runV (As := [.int (nI j_99), .int 3]) (rest := [.int 10, .int x_117, .long (nI j_111).toInt64, .long v_62]) ⟨hx, hb, hml, hown, hts⟩ (m_causeHas3 l dC dI mo nw kp ik mr la_ lb_ mw lc_ ti_ cb_ ld_ le_ mq mz my (nI js) mb bl_ ta_ tl_ tk_ vl_ mx mv cn_ fn j_99 hOn (by omega)) (cwV 2 hts gX12_meanOf_X12_causeHas rfl rfl rfl (by decide +kernel) ⟨Nat.le_of_ble_eq_true rfl, Nat.le_of_ble_eq_true rfl⟩) ⟨fun a U g mk q => by obtain ⟨q0, qP, qK⟩ := q; exact ⟨q0, qP, va_K.moved (u := U) (U := U.calling g mk a) (Vm.Alike.refl U.vm) qK⟩, va_recv hK hP (ci := 12) (q0 := 0) rfl rfl, fun U hU hW => ⟨rfl, by rw [hU]; exact hPc_118, va_K.moved hW.alike hKc_119⟩⟩ rfl rfl hl.1 rfl (lv_room (Nat.le_of_ble_eq_true rfl)) dX12_meanOf_95 ⟨Nat.le_of_ble_eq_true rfl, Nat.le_of_ble_eq_true rfl⟩)) (fun r_120 hw_121 => ?_)
      refine lv_isub hx hb dX12_meanOf_98 ?_
      refine lv_topi (fun x_122 _ => ?_)
      refine lv_iload_n hx hb dX12_meanOf_99 rfl (lv_at hl 4 rfl) ?_
      refine lv_imul hx hb dX12_meanOf_100 ?_
      refine lv_topi (fun x_123 _ => ?_)
      refine lv_iadd hx hb dX12_meanOf_101 ?_
      refine lv_topi (fun x_124 _ => ?_)
      refine lv_i2l (v := x_124.toInt64) hx hb dX12_meanOf_102 rfl ?_
      refine lv_lmul hx hb dX12_meanOf_103 ?_
      refine lv_topl (fun x_125 _ => ?_)
      refine lv_ladd hx hb dX12_meanOf_104 ?_
      refine lv_topl (fun x_126 _ => ?_)
      refine lv_lstore_n (lv' := [(2, .long x_126), (4, .int x_106), (6, .int (nI j_99)), (5, .int (nI k_29)), (1, .int v_13), (0, .ref mo)]) hx hb dX12_meanOf_105 rfl hl (by decide) rfl (fun ls hl => ?_)
      refine lv_iinc (v := (nI (k_29 + 1))) (lv' := [(5, .int (nI (k_29 + 1))), (2, .long x_126), (4, .int x_106), (6, .int (nI j_99)), (1, .int v_13), (0, .ref mo)]) hx hb dX12_meanOf_106 hl (k := 3) rfl (nI_add k_29 1) (by decide) rfl (fun ls hl => ?_)
      refine lv_goto (tgt := 40) hx hb dX12_meanOf_109 (by decide) ?_
      exact ih_95 ((k_29 + 1), x_106, x_126, ls) ⟨by dsimp only; omega, lv_sub hl [0, 2, 1, 4, 5] rfl⟩ (by dsimp only; omega)
  · have hn_127 : ¬ js ≤ k_1 := fun q => c_27 ((nI_leI (a := js) (b := k_1) (by omega) (by omega)).mpr q)
    refine lv_iload_n hx hb dX12_meanOf_12 rfl (lv_at hl 1 rfl) ?_
    refine lv_aload_n hx hb dX12_meanOf_13 rfl (lv_at hl 2 rfl) ?_
    refine lv_aload_n hx hb dX12_meanOf_14 rfl (lv_at hl 2 rfl) ?_
    refine va_get (D := (dC, dI)) (ci := 12) (v := .ref mz) (C := RX12) (T := TX12) (N := 24) hx hb hts iw_m_meanOf_X12 hown hK hP 0 rfl rfl 13 (by decide) (hts (.fieldLink RX12 34 "ThriceCountedModel" "order" "[I") (by decide +kernel)) (fun _ h9 => h9) rfl dX12_meanOf_15 ?_
    refine lv_iload_n hx hb dX12_meanOf_18 rfl (lv_at hl 0 rfl) ?_
    refine va_iald hx hb hK hP 2 1 rfl rfl (vp_in_nI (n := k_1) (N := 6) (by omega) (by decide)) dX12_meanOf_19 ?_
    obtain ⟨j_128, hj_129, ej_130⟩ := hdi.natc (K := k_1) (by omega) (by omega)
    refine tz_i (nI j_128) ej_130 ?_
    refine lv_iconst (v := 2) hx hb dX12_meanOf_20 (by decide) ?_
    have hPc_131 := hP.sub (ws' := [(mo, .inr (12, [.ref nw, .ref kp, .ref ik, .ref mr, .long la_, .long lb_, .ref mw, .long lc_, .int ti_, .int cb_, .long ld_, .long le_, .ref mq, .ref mz, .ref my, .int (nI js), .ref mb, .int bl_, .int ta_, .int tl_, .int tk_, .int vl_, .ref mx, .ref mv])), (nw, .inl (cn_, 350, .inl fn))]) [0, 1] rfl
    have hKc_132 := hK.sub (tys' := [(cn_, .int)]) [0] rfl
    refine vp_callSi (va_Run.run (va_runV (As := [.int (nI j_128), .int 2]) (rest := [.int v_13]) ⟨hx, hb, hml, hown, hts⟩ (m_causeHas2 l dC dI mo nw kp ik mr la_ lb_ mw lc_ ti_ cb_ ld_ le_ mq mz my (nI js) mb bl_ ta_ tl_ tk_ vl_ mx mv cn_ fn j_128 hOn (by omega)) (cwV 2 hts gX12_meanOf_X12_causeHas rfl rfl rfl (by decide +kernel) ⟨Nat.le_of_ble_eq_true rfl, Nat.le_of_ble_eq_true rfl⟩) ⟨fun a U g mk q => by obtain ⟨q0, qP, qK⟩ := q; exact ⟨q0, qP, va_K.moved (u := U) (U := U.calling g mk a) (Vm.Alike.refl U.vm) qK⟩, va_recv hK hP (ci := 12) (q0 := 0) rfl rfl, fun U hU hW => ⟨rfl, by rw [hU]; exact hPc_131, va_K.moved hW.alike hKc_132⟩⟩ rfl rfl hl.1 rfl (lv_room (Nat.le_of_ble_eq_true rfl)) dX12_meanOf_21 ⟨Nat.le_of_ble_eq_true rfl, Nat.le_of_ble_eq_true rfl⟩)) (fun r_133 hw_134 => ?_)
    refine lv_iadd hx hb dX12_meanOf_24 ?_
    refine lv_topi (fun x_135 _ => ?_)
    refine lv_istore_n (lv' := [(1, .int x_135), (2, .int (nI k_1)), (0, .ref mo)]) hx hb dX12_meanOf_25 rfl hl (by decide) rfl (fun ls hl => ?_)
    refine lv_iinc (v := (nI (k_1 + 1))) (lv' := [(2, .int (nI (k_1 + 1))), (1, .int x_135), (0, .ref mo)]) hx hb dX12_meanOf_26 hl (k := 1) rfl (nI_add k_1 1) (by decide) rfl (fun ls hl => ?_)
    refine lv_goto (tgt := 4) hx hb dX12_meanOf_29 (by decide) ?_
    exact ih_26 ((k_1 + 1), x_135, ls) ⟨by dsimp only; omega, lv_sub hl [0, 1, 2] rfl⟩ (by dsimp only; omega)
theorem dX12_nextOrder_0 : decode cX12_nextOrder 0 = .ok (.aload_n 0, 1) := by decide +kernel
theorem dX12_nextOrder_1 : decode cX12_nextOrder 1 = .ok (.getfield 218, 3) := by decide +kernel
theorem dX12_nextOrder_4 : decode cX12_nextOrder 4 = .ok (.iconst 2, 1) := by decide +kernel
theorem dX12_nextOrder_5 : decode cX12_nextOrder 5 = .ok (.isub, 1) := by decide +kernel
theorem dX12_nextOrder_6 : decode cX12_nextOrder 6 = .ok (.istore_n 1, 1) := by decide +kernel
theorem dX12_nextOrder_7 : decode cX12_nextOrder 7 = .ok (.iload_n 1, 1) := by decide +kernel
theorem dX12_nextOrder_8 : decode cX12_nextOrder 8 = .ok (.ifCond .lt 26, 3) := by decide +kernel
theorem dX12_nextOrder_34 : decode cX12_nextOrder 34 = .ok (.iload_n 1, 1) := by decide +kernel
theorem dX12_nextOrder_35 : decode cX12_nextOrder 35 = .ok (.ifCond .ge 5, 3) := by decide +kernel
theorem dX12_nextOrder_38 : decode cX12_nextOrder 38 = .ok (.iconst 0, 1) := by decide +kernel
theorem dX12_nextOrder_39 : decode cX12_nextOrder 39 = .ok (.ireturn, 1) := by decide +kernel
theorem dX12_nextOrder_11 : decode cX12_nextOrder 11 = .ok (.aload_n 0, 1) := by decide +kernel
theorem dX12_nextOrder_12 : decode cX12_nextOrder 12 = .ok (.getfield 34, 3) := by decide +kernel
theorem dX12_nextOrder_15 : decode cX12_nextOrder 15 = .ok (.iload_n 1, 1) := by decide +kernel
theorem dX12_nextOrder_16 : decode cX12_nextOrder 16 = .ok (.iaload, 1) := by decide +kernel
theorem dX12_nextOrder_17 : decode cX12_nextOrder 17 = .ok (.aload_n 0, 1) := by decide +kernel
theorem dX12_nextOrder_18 : decode cX12_nextOrder 18 = .ok (.getfield 34, 3) := by decide +kernel
theorem dX12_nextOrder_21 : decode cX12_nextOrder 21 = .ok (.iload_n 1, 1) := by decide +kernel
theorem dX12_nextOrder_22 : decode cX12_nextOrder 22 = .ok (.iconst 1, 1) := by decide +kernel
theorem dX12_nextOrder_23 : decode cX12_nextOrder 23 = .ok (.iadd, 1) := by decide +kernel
theorem dX12_nextOrder_24 : decode cX12_nextOrder 24 = .ok (.iaload, 1) := by decide +kernel
theorem dX12_nextOrder_25 : decode cX12_nextOrder 25 = .ok (.if_icmp .le 9, 3) := by decide +kernel
theorem dX12_nextOrder_40 : decode cX12_nextOrder 40 = .ok (.aload_n 0, 1) := by decide +kernel
theorem dX12_nextOrder_41 : decode cX12_nextOrder 41 = .ok (.getfield 218, 3) := by decide +kernel
theorem dX12_nextOrder_44 : decode cX12_nextOrder 44 = .ok (.iconst 1, 1) := by decide +kernel
theorem dX12_nextOrder_45 : decode cX12_nextOrder 45 = .ok (.isub, 1) := by decide +kernel
theorem dX12_nextOrder_46 : decode cX12_nextOrder 46 = .ok (.istore_n 2, 1) := by decide +kernel
theorem dX12_nextOrder_47 : decode cX12_nextOrder 47 = .ok (.aload_n 0, 1) := by decide +kernel
theorem dX12_nextOrder_48 : decode cX12_nextOrder 48 = .ok (.getfield 34, 3) := by decide +kernel
theorem dX12_nextOrder_51 : decode cX12_nextOrder 51 = .ok (.iload_n 2, 1) := by decide +kernel
theorem dX12_nextOrder_52 : decode cX12_nextOrder 52 = .ok (.iaload, 1) := by decide +kernel
theorem dX12_nextOrder_53 : decode cX12_nextOrder 53 = .ok (.aload_n 0, 1) := by decide +kernel
theorem dX12_nextOrder_54 : decode cX12_nextOrder 54 = .ok (.getfield 34, 3) := by decide +kernel
theorem dX12_nextOrder_57 : decode cX12_nextOrder 57 = .ok (.iload_n 1, 1) := by decide +kernel
theorem dX12_nextOrder_58 : decode cX12_nextOrder 58 = .ok (.iaload, 1) := by decide +kernel
theorem dX12_nextOrder_59 : decode cX12_nextOrder 59 = .ok (.if_icmp .ge 9, 3) := by decide +kernel
theorem dX12_nextOrder_68 : decode cX12_nextOrder 68 = .ok (.aload_n 0, 1) := by decide +kernel
theorem dX12_nextOrder_69 : decode cX12_nextOrder 69 = .ok (.getfield 34, 3) := by decide +kernel
theorem dX12_nextOrder_72 : decode cX12_nextOrder 72 = .ok (.iload_n 1, 1) := by decide +kernel
theorem dX12_nextOrder_73 : decode cX12_nextOrder 73 = .ok (.iaload, 1) := by decide +kernel
theorem dX12_nextOrder_74 : decode cX12_nextOrder 74 = .ok (.istore_n 3, 1) := by decide +kernel
theorem dX12_nextOrder_75 : decode cX12_nextOrder 75 = .ok (.aload_n 0, 1) := by decide +kernel
theorem dX12_nextOrder_76 : decode cX12_nextOrder 76 = .ok (.getfield 34, 3) := by decide +kernel
theorem dX12_nextOrder_79 : decode cX12_nextOrder 79 = .ok (.iload_n 1, 1) := by decide +kernel
theorem dX12_nextOrder_80 : decode cX12_nextOrder 80 = .ok (.aload_n 0, 1) := by decide +kernel
theorem dX12_nextOrder_81 : decode cX12_nextOrder 81 = .ok (.getfield 34, 3) := by decide +kernel
theorem dX12_nextOrder_84 : decode cX12_nextOrder 84 = .ok (.iload_n 2, 1) := by decide +kernel
theorem dX12_nextOrder_85 : decode cX12_nextOrder 85 = .ok (.iaload, 1) := by decide +kernel
theorem dX12_nextOrder_86 : decode cX12_nextOrder 86 = .ok (.iastore, 1) := by decide +kernel
theorem dX12_nextOrder_87 : decode cX12_nextOrder 87 = .ok (.aload_n 0, 1) := by decide +kernel
theorem dX12_nextOrder_88 : decode cX12_nextOrder 88 = .ok (.getfield 34, 3) := by decide +kernel
theorem dX12_nextOrder_91 : decode cX12_nextOrder 91 = .ok (.iload_n 2, 1) := by decide +kernel
theorem dX12_nextOrder_92 : decode cX12_nextOrder 92 = .ok (.iload_n 3, 1) := by decide +kernel
theorem dX12_nextOrder_93 : decode cX12_nextOrder 93 = .ok (.iastore, 1) := by decide +kernel
theorem dX12_nextOrder_94 : decode cX12_nextOrder 94 = .ok (.iload_n 1, 1) := by decide +kernel
theorem dX12_nextOrder_95 : decode cX12_nextOrder 95 = .ok (.iconst 1, 1) := by decide +kernel
theorem dX12_nextOrder_96 : decode cX12_nextOrder 96 = .ok (.iadd, 1) := by decide +kernel
theorem dX12_nextOrder_97 : decode cX12_nextOrder 97 = .ok (.istore 4, 2) := by decide +kernel
theorem dX12_nextOrder_99 : decode cX12_nextOrder 99 = .ok (.aload_n 0, 1) := by decide +kernel
theorem dX12_nextOrder_100 : decode cX12_nextOrder 100 = .ok (.getfield 218, 3) := by decide +kernel
theorem dX12_nextOrder_103 : decode cX12_nextOrder 103 = .ok (.iconst 1, 1) := by decide +kernel
theorem dX12_nextOrder_104 : decode cX12_nextOrder 104 = .ok (.isub, 1) := by decide +kernel
theorem dX12_nextOrder_105 : decode cX12_nextOrder 105 = .ok (.istore 5, 2) := by decide +kernel
theorem dX12_nextOrder_107 : decode cX12_nextOrder 107 = .ok (.iload 4, 2) := by decide +kernel
theorem dX12_nextOrder_109 : decode cX12_nextOrder 109 = .ok (.iload 5, 2) := by decide +kernel
theorem dX12_nextOrder_111 : decode cX12_nextOrder 111 = .ok (.if_icmp .ge 44, 3) := by decide +kernel
theorem dX12_nextOrder_155 : decode cX12_nextOrder 155 = .ok (.iconst 1, 1) := by decide +kernel
theorem dX12_nextOrder_156 : decode cX12_nextOrder 156 = .ok (.ireturn, 1) := by decide +kernel
theorem dX12_nextOrder_28 : decode cX12_nextOrder 28 = .ok (.iinc 1 (-1), 3) := by decide +kernel
theorem dX12_nextOrder_31 : decode cX12_nextOrder 31 = .ok (.goto (-24), 3) := by decide +kernel
theorem dX12_nextOrder_114 : decode cX12_nextOrder 114 = .ok (.aload_n 0, 1) := by decide +kernel
theorem dX12_nextOrder_115 : decode cX12_nextOrder 115 = .ok (.getfield 34, 3) := by decide +kernel
theorem dX12_nextOrder_118 : decode cX12_nextOrder 118 = .ok (.iload 4, 2) := by decide +kernel
theorem dX12_nextOrder_120 : decode cX12_nextOrder 120 = .ok (.iaload, 1) := by decide +kernel
theorem dX12_nextOrder_121 : decode cX12_nextOrder 121 = .ok (.istore 6, 2) := by decide +kernel
theorem dX12_nextOrder_123 : decode cX12_nextOrder 123 = .ok (.aload_n 0, 1) := by decide +kernel
theorem dX12_nextOrder_124 : decode cX12_nextOrder 124 = .ok (.getfield 34, 3) := by decide +kernel
theorem dX12_nextOrder_127 : decode cX12_nextOrder 127 = .ok (.iload 4, 2) := by decide +kernel
theorem dX12_nextOrder_129 : decode cX12_nextOrder 129 = .ok (.aload_n 0, 1) := by decide +kernel
theorem dX12_nextOrder_130 : decode cX12_nextOrder 130 = .ok (.getfield 34, 3) := by decide +kernel
theorem dX12_nextOrder_133 : decode cX12_nextOrder 133 = .ok (.iload 5, 2) := by decide +kernel
theorem dX12_nextOrder_135 : decode cX12_nextOrder 135 = .ok (.iaload, 1) := by decide +kernel
theorem dX12_nextOrder_136 : decode cX12_nextOrder 136 = .ok (.iastore, 1) := by decide +kernel
theorem dX12_nextOrder_137 : decode cX12_nextOrder 137 = .ok (.aload_n 0, 1) := by decide +kernel
theorem dX12_nextOrder_138 : decode cX12_nextOrder 138 = .ok (.getfield 34, 3) := by decide +kernel
theorem dX12_nextOrder_141 : decode cX12_nextOrder 141 = .ok (.iload 5, 2) := by decide +kernel
theorem dX12_nextOrder_143 : decode cX12_nextOrder 143 = .ok (.iload 6, 2) := by decide +kernel
theorem dX12_nextOrder_145 : decode cX12_nextOrder 145 = .ok (.iastore, 1) := by decide +kernel
theorem dX12_nextOrder_146 : decode cX12_nextOrder 146 = .ok (.iinc 4 1, 3) := by decide +kernel
theorem dX12_nextOrder_149 : decode cX12_nextOrder 149 = .ok (.iinc 5 (-1), 3) := by decide +kernel
theorem dX12_nextOrder_152 : decode cX12_nextOrder 152 = .ok (.goto (-45), 3) := by decide +kernel
theorem dX12_nextOrder_62 : decode cX12_nextOrder 62 = .ok (.iinc 2 (-1), 3) := by decide +kernel
theorem dX12_nextOrder_65 : decode cX12_nextOrder 65 = .ok (.goto (-18), 3) := by decide +kernel
set_option maxRecDepth 20000 in
theorem iw_m_nextOrder_X12 : ∀ w ∈ wsX120, w ∈ wsX12_nextOrder := by decide +kernel
set_option maxHeartbeats 4000000 in
set_option maxRecDepth 100000 in
theorem m_nextOrder (l : Launch) (dC : Nat → ClassId) (dI : Nat → Nat → Nat) (mo : Nat) (nw : Nat) (kp : Nat) (ik : Nat) (mr : Nat) (la_ : Int64) (lb_ : Int64) (mw : Nat) (lc_ : Int64) (ti_ : Int32) (cb_ : Int32) (ld_ : Int64) (le_ : Int64) (mq : Nat) (mz : Nat) (my : Nat) (js : Nat) (mb : Nat) (bl_ : Int32) (ta_ : Int32) (tl_ : Int32) (tk_ : Int32) (vl_ : Int32) (mx : Nat) (mv : Nat) (cz_ : ClassId) (fz_ : Nat → Int32) (sz : Nat) (hjs : js ≤ 6) (hdi : tz_Di js fz_) : Met l yX12_nextOrder wsX12_nextOrder ({ frames := 0, cells := 0, slots := 0, locals := 0 }) (va_Pc [.ref mo] (fun U => U.heap.size = sz ∧ va_P (dC, dI) vwCl [(mo, .inr (12, [.ref nw, .ref kp, .ref ik, .ref mr, .long la_, .long lb_, .ref mw, .long lc_, .int ti_, .int cb_, .long ld_, .long le_, .ref mq, .ref mz, .ref my, .int (nI js), .ref mb, .int bl_, .int ta_, .int tl_, .int tk_, .int vl_, .ref mx, .ref mv])), (mz, .inl (cz_, 6, .inl fz_))] U.heap ∧ va_K (dC, dI) vwCl [(cz_, .int)] U ∧ va_D (fun _ => True) [(mo, .inr (12, [.ref nw, .ref kp, .ref ik, .ref mr, .long la_, .long lb_, .ref mw, .long lc_, .int ti_, .int cb_, .long ld_, .long le_, .ref mq, .ref mz, .ref my, .int (nI js), .ref mb, .int bl_, .int ta_, .int tl_, .int tk_, .int vl_, .ref mx, .ref mv])), (mz, .inl (cz_, 6, .inl fz_))])) (va_Qi (fun (r : Int32) (_ : Unit) => r = 0 ∨ (r = 1 ∧ tz_as js fz_)) (fun _ t => ∃ (gz_ : Nat → Int32), (tz_Di js gz_) ∧ (tz_val js fz_ ≤ tz_val js gz_) ∧ (tz_as js fz_ → tz_val js fz_ < tz_val js gz_) ∧ va_P (dC, dI) vwCl [(mo, .inr (12, [.ref nw, .ref kp, .ref ik, .ref mr, .long la_, .long lb_, .ref mw, .long lc_, .int ti_, .int cb_, .long ld_, .long le_, .ref mq, .ref mz, .ref my, .int (nI js), .ref mb, .int bl_, .int ta_, .int tl_, .int tk_, .int vl_, .ref mx, .ref mv])), (mz, .inl (cz_, 6, .inl gz_))] t.heap ∧ va_K (dC, dI) vwCl [(cz_, .int)] t ∧ va_D (va_A [(mo, .inr (12, [.ref nw, .ref kp, .ref ik, .ref mr, .long la_, .long lb_, .ref mw, .long lc_, .int ti_, .int cb_, .long ld_, .long le_, .ref mq, .ref mz, .ref my, .int (nI js), .ref mb, .int bl_, .int ta_, .int tl_, .int tk_, .int vl_, .ref mx, .ref mv])), (mz, .inl (cz_, 6, .inl fz_))] sz) [(mo, .inr (12, [.ref nw, .ref kp, .ref ik, .ref mr, .long la_, .long lb_, .ref mw, .long lc_, .int ti_, .int cb_, .long ld_, .long le_, .ref mq, .ref mz, .ref my, .int (nI js), .ref mb, .int bl_, .int ta_, .int tl_, .int tk_, .int vl_, .ref mx, .ref mv])), (mz, .inl (cz_, 6, .inl gz_))]) (va_A [(mo, .inr (12, [.ref nw, .ref kp, .ref ik, .ref mr, .long la_, .long lb_, .ref mw, .long lc_, .int ti_, .int cb_, .long ld_, .long le_, .ref mq, .ref mz, .ref my, .int (nI js), .ref mb, .int bl_, .int ta_, .int tl_, .int tk_, .int vl_, .ref mx, .ref mv])), (mz, .inl (cz_, 6, .inl fz_))] sz)) 0 0 (va_A [(mo, .inr (12, [.ref nw, .ref kp, .ref ik, .ref mr, .long la_, .long lb_, .ref mw, .long lc_, .int ti_, .int cb_, .long ld_, .long le_, .ref mq, .ref mz, .ref my, .int (nI js), .ref mb, .int bl_, .int ta_, .int tl_, .int tk_, .int vl_, .ref mx, .ref mv])), (mz, .inl (cz_, 6, .inl fz_))] sz) := by
  refine Met.ofW (cc := cX12_nextOrder) (maxL := 7) (ret := (some .boolean)) (by decide) rfl ?_
  intro p e s m args below meth c s₁ B hml hv
  obtain ⟨rfl, hsz, hP, hK, hD0⟩ := hv
  have hx := B.exec
  have hb := B.bytes
  have hr := B.returns
  have hts := atoms_spec (ws := wsX12_nextOrder) B.pre
  have hown : s.vm.findClass RX12 = some m.cls := findClass_of_methodNamed B.named
  have hlocks := B.notSynchronized
  subst hsz
  have hD := hD0.self (sz := s.heap.size)
  generalize hAe : va_A [(mo, .inr (12, [.ref nw, .ref kp, .ref ik, .ref mr, .long la_, .long lb_, .ref mw, .long lc_, .int ti_, .int cb_, .long ld_, .long le_, .ref mq, .ref mz, .ref my, .int (nI js), .ref mb, .int bl_, .int ta_, .int tl_, .int tk_, .int vl_, .ref mx, .ref mv])), (mz, .inl (cz_, 6, .inl fz_))] s.heap.size = A at hD ⊢
  have hA : ∀ q : Nat, s.heap.size ≤ q → A q := fun q h => by rw [← hAe]; exact Or.inr h
  have hS : va_S A s.heap s.heap [] := va_S.rf
  have hP : va_P (dC, dI) vwCl [(mo, .inr (12, [.ref nw, .ref kp, .ref ik, .ref mr, .long la_, .long lb_, .ref mw, .long lc_, .int ti_, .int cb_, .long ld_, .long le_, .ref mq, .ref mz, .ref my, .int (nI js), .ref mb, .int bl_, .int ta_, .int tl_, .int tk_, .int vl_, .ref mx, .ref mv])), (mz, .inl (cz_, 6, .inl fz_))] s.heap := hP
  have hl := lv_entry ([.ref mo]) (n := 7) (Nat.le_of_ble_eq_true rfl)
  rw [lg_entry_eq]
  generalize (lg_sl ([.ref mo]) ++ List.replicate (7 - (lg_sl ([.ref mo])).length) Slot.unset).toArray = ls at hl ⊢
  have hl : lv_has ls 7 [(0, .ref mo)] := hl
  rcases (show js = 0 ∨ js = 1 ∨ js = 2 ∨ js = 3 ∨ js = 4 ∨ js = 5 ∨ js = 6 by omega) with rfl | rfl | rfl | rfl | rfl | rfl | rfl
  · have hP : va_P (dC, dI) vwCl [(mo, .inr (12, [.ref nw, .ref kp, .ref ik, .ref mr, .long la_, .long lb_, .ref mw, .long lc_, .int ti_, .int cb_, .long ld_, .long le_, .ref mq, .ref mz, .ref my, .int 0, .ref mb, .int bl_, .int ta_, .int tl_, .int tk_, .int vl_, .ref mx, .ref mv])), (mz, .inl (cz_, 6, .inl fz_))] s.heap := hP
    have hD : va_D A [(mo, .inr (12, [.ref nw, .ref kp, .ref ik, .ref mr, .long la_, .long lb_, .ref mw, .long lc_, .int ti_, .int cb_, .long ld_, .long le_, .ref mq, .ref mz, .ref my, .int 0, .ref mb, .int bl_, .int ta_, .int tl_, .int tk_, .int vl_, .ref mx, .ref mv])), (mz, .inl (cz_, 6, .inl fz_))] := hD
    refine lv_aload_n hx hb dX12_nextOrder_0 rfl (lv_at hl 0 rfl) ?_
    refine va_get (D := (dC, dI)) (ci := 12) (v := .int 0) (C := RX12) (T := TX12) (N := 24) hx hb hts iw_m_nextOrder_X12 hown hK hP 0 rfl rfl 15 (by decide) (hts (.fieldLink RX12 218 "ThriceCountedModel" "soughtMany" "I") (by decide +kernel)) (fun _ h9 => h9) rfl dX12_nextOrder_1 ?_
    refine lv_iconst (v := 2) hx hb dX12_nextOrder_4 (by decide) ?_
    refine lv_isub hx hb dX12_nextOrder_5 ?_
    refine tz_i (-2) (by decide) ?_
    refine lv_istore_n (lv' := [(1, .int (-2)), (0, .ref mo)]) hx hb dX12_nextOrder_6 rfl hl (by decide) rfl (fun ls hl => ?_)
    refine lv_iload_n hx hb dX12_nextOrder_7 rfl (lv_at hl 0 rfl) ?_
    refine lv_if_lt (tgt := 34) hx hb dX12_nextOrder_8 (by decide) (fun c_1 => ?_) (fun c_1 => ?_)
    · refine lv_iload_n hx hb dX12_nextOrder_34 rfl (lv_at hl 0 rfl) ?_
      refine lv_if_ge (tgt := 40) hx hb dX12_nextOrder_35 (by decide) (fun c_2 => ?_) (fun c_2 => ?_)
      · exact absurd c_2 (by decide)
      · refine lv_iconst (v := 0) hx hb dX12_nextOrder_38 (by decide) ?_
        have hP9 := hP.sub (ws' := [(mo, .inr (12, [.ref nw, .ref kp, .ref ik, .ref mr, .long la_, .long lb_, .ref mw, .long lc_, .int ti_, .int cb_, .long ld_, .long le_, .ref mq, .ref mz, .ref my, .int (nI 0), .ref mb, .int bl_, .int ta_, .int tl_, .int tk_, .int vl_, .ref mx, .ref mv])), (mz, .inl (cz_, 6, .inl fz_))]) [0, 1] rfl
        have hD9 := hD.sub (ws' := [(mo, .inr (12, [.ref nw, .ref kp, .ref ik, .ref mr, .long la_, .long lb_, .ref mw, .long lc_, .int ti_, .int cb_, .long ld_, .long le_, .ref mq, .ref mz, .ref my, .int (nI 0), .ref mb, .int bl_, .int ta_, .int tl_, .int tk_, .int vl_, .ref mx, .ref mv])), (mz, .inl (cz_, 6, .inl fz_))]) [0, 1] (by decide) rfl
        have hK9 := hK.sub (tys' := [(cz_, .int)]) [0] rfl
        exact W.zret (v := 0) hx hb hr (by decide) (fun t ht hW => ⟨⟨0, (), rfl, Or.inl rfl, fz_, hdi, Int.le_refl _, fun ⟨k, hk, _⟩ => absurd hk (by omega), by rw [ht]; exact hP9, va_K.moved hW.alike hK9, hD9⟩, hS.F ht⟩) hS.2.2 dX12_nextOrder_39
    · exact absurd c_1 (by decide)
  · have hP : va_P (dC, dI) vwCl [(mo, .inr (12, [.ref nw, .ref kp, .ref ik, .ref mr, .long la_, .long lb_, .ref mw, .long lc_, .int ti_, .int cb_, .long ld_, .long le_, .ref mq, .ref mz, .ref my, .int 1, .ref mb, .int bl_, .int ta_, .int tl_, .int tk_, .int vl_, .ref mx, .ref mv])), (mz, .inl (cz_, 6, .inl fz_))] s.heap := hP
    have hD : va_D A [(mo, .inr (12, [.ref nw, .ref kp, .ref ik, .ref mr, .long la_, .long lb_, .ref mw, .long lc_, .int ti_, .int cb_, .long ld_, .long le_, .ref mq, .ref mz, .ref my, .int 1, .ref mb, .int bl_, .int ta_, .int tl_, .int tk_, .int vl_, .ref mx, .ref mv])), (mz, .inl (cz_, 6, .inl fz_))] := hD
    refine lv_aload_n hx hb dX12_nextOrder_0 rfl (lv_at hl 0 rfl) ?_
    refine va_get (D := (dC, dI)) (ci := 12) (v := .int 1) (C := RX12) (T := TX12) (N := 24) hx hb hts iw_m_nextOrder_X12 hown hK hP 0 rfl rfl 15 (by decide) (hts (.fieldLink RX12 218 "ThriceCountedModel" "soughtMany" "I") (by decide +kernel)) (fun _ h9 => h9) rfl dX12_nextOrder_1 ?_
    refine lv_iconst (v := 2) hx hb dX12_nextOrder_4 (by decide) ?_
    refine lv_isub hx hb dX12_nextOrder_5 ?_
    refine tz_i (-1) (by decide) ?_
    refine lv_istore_n (lv' := [(1, .int (-1)), (0, .ref mo)]) hx hb dX12_nextOrder_6 rfl hl (by decide) rfl (fun ls hl => ?_)
    refine lv_iload_n hx hb dX12_nextOrder_7 rfl (lv_at hl 0 rfl) ?_
    refine lv_if_lt (tgt := 34) hx hb dX12_nextOrder_8 (by decide) (fun c_3 => ?_) (fun c_3 => ?_)
    · refine lv_iload_n hx hb dX12_nextOrder_34 rfl (lv_at hl 0 rfl) ?_
      refine lv_if_ge (tgt := 40) hx hb dX12_nextOrder_35 (by decide) (fun c_4 => ?_) (fun c_4 => ?_)
      · exact absurd c_4 (by decide)
      · refine lv_iconst (v := 0) hx hb dX12_nextOrder_38 (by decide) ?_
        have hP9 := hP.sub (ws' := [(mo, .inr (12, [.ref nw, .ref kp, .ref ik, .ref mr, .long la_, .long lb_, .ref mw, .long lc_, .int ti_, .int cb_, .long ld_, .long le_, .ref mq, .ref mz, .ref my, .int (nI 1), .ref mb, .int bl_, .int ta_, .int tl_, .int tk_, .int vl_, .ref mx, .ref mv])), (mz, .inl (cz_, 6, .inl fz_))]) [0, 1] rfl
        have hD9 := hD.sub (ws' := [(mo, .inr (12, [.ref nw, .ref kp, .ref ik, .ref mr, .long la_, .long lb_, .ref mw, .long lc_, .int ti_, .int cb_, .long ld_, .long le_, .ref mq, .ref mz, .ref my, .int (nI 1), .ref mb, .int bl_, .int ta_, .int tl_, .int tk_, .int vl_, .ref mx, .ref mv])), (mz, .inl (cz_, 6, .inl fz_))]) [0, 1] (by decide) rfl
        have hK9 := hK.sub (tys' := [(cz_, .int)]) [0] rfl
        exact W.zret (v := 0) hx hb hr (by decide) (fun t ht hW => ⟨⟨0, (), rfl, Or.inl rfl, fz_, hdi, Int.le_refl _, fun ⟨k, hk, _⟩ => absurd hk (by omega), by rw [ht]; exact hP9, va_K.moved hW.alike hK9, hD9⟩, hS.F ht⟩) hS.2.2 dX12_nextOrder_39
    · exact absurd c_3 (by decide)
  · have hP : va_P (dC, dI) vwCl [(mo, .inr (12, [.ref nw, .ref kp, .ref ik, .ref mr, .long la_, .long lb_, .ref mw, .long lc_, .int ti_, .int cb_, .long ld_, .long le_, .ref mq, .ref mz, .ref my, .int 2, .ref mb, .int bl_, .int ta_, .int tl_, .int tk_, .int vl_, .ref mx, .ref mv])), (mz, .inl (cz_, 6, .inl fz_))] s.heap := hP
    have hD : va_D A [(mo, .inr (12, [.ref nw, .ref kp, .ref ik, .ref mr, .long la_, .long lb_, .ref mw, .long lc_, .int ti_, .int cb_, .long ld_, .long le_, .ref mq, .ref mz, .ref my, .int 2, .ref mb, .int bl_, .int ta_, .int tl_, .int tk_, .int vl_, .ref mx, .ref mv])), (mz, .inl (cz_, 6, .inl fz_))] := hD
    refine lv_aload_n hx hb dX12_nextOrder_0 rfl (lv_at hl 0 rfl) ?_
    refine va_get (D := (dC, dI)) (ci := 12) (v := .int 2) (C := RX12) (T := TX12) (N := 24) hx hb hts iw_m_nextOrder_X12 hown hK hP 0 rfl rfl 15 (by decide) (hts (.fieldLink RX12 218 "ThriceCountedModel" "soughtMany" "I") (by decide +kernel)) (fun _ h9 => h9) rfl dX12_nextOrder_1 ?_
    refine lv_iconst (v := 2) hx hb dX12_nextOrder_4 (by decide) ?_
    refine lv_isub hx hb dX12_nextOrder_5 ?_
    refine tz_i 0 (by decide) ?_
    refine lv_istore_n (lv' := [(1, .int 0), (0, .ref mo)]) hx hb dX12_nextOrder_6 rfl hl (by decide) rfl (fun ls hl => ?_)
    refine lv_iload_n hx hb dX12_nextOrder_7 rfl (lv_at hl 0 rfl) ?_
    refine lv_if_lt (tgt := 34) hx hb dX12_nextOrder_8 (by decide) (fun c_5 => ?_) (fun c_5 => ?_)
    · exact absurd c_5 (by decide)
    · refine lv_aload_n hx hb dX12_nextOrder_11 rfl (lv_at hl 1 rfl) ?_
      refine va_get (D := (dC, dI)) (ci := 12) (v := .ref mz) (C := RX12) (T := TX12) (N := 24) hx hb hts iw_m_nextOrder_X12 hown hK hP 0 rfl rfl 13 (by decide) (hts (.fieldLink RX12 34 "ThriceCountedModel" "order" "[I") (by decide +kernel)) (fun _ h9 => h9) rfl dX12_nextOrder_12 ?_
      refine lv_iload_n hx hb dX12_nextOrder_15 rfl (lv_at hl 0 rfl) ?_
      refine va_iald hx hb hK hP 1 0 rfl rfl (show ¬ ((0 : Int32) < 0 ∨ 6 ≤ (0 : Int32).toNatClampNeg) by decide) dX12_nextOrder_16 ?_
      refine tz_i (fz_ 0) rfl ?_
      refine lv_aload_n hx hb dX12_nextOrder_17 rfl (lv_at hl 1 rfl) ?_
      refine va_get (D := (dC, dI)) (ci := 12) (v := .ref mz) (C := RX12) (T := TX12) (N := 24) hx hb hts iw_m_nextOrder_X12 hown hK hP 0 rfl rfl 13 (by decide) (hts (.fieldLink RX12 34 "ThriceCountedModel" "order" "[I") (by decide +kernel)) (fun _ h9 => h9) rfl dX12_nextOrder_18 ?_
      refine lv_iload_n hx hb dX12_nextOrder_21 rfl (lv_at hl 0 rfl) ?_
      refine lv_iconst (v := 1) hx hb dX12_nextOrder_22 (by decide) ?_
      refine lv_iadd hx hb dX12_nextOrder_23 ?_
      refine tz_i 1 (by decide) ?_
      refine va_iald hx hb hK hP 1 0 rfl rfl (show ¬ ((1 : Int32) < 0 ∨ 6 ≤ (1 : Int32).toNatClampNeg) by decide) dX12_nextOrder_24 ?_
      refine tz_i (fz_ 1) rfl ?_
      refine lv_icmp_le (tgt := 34) hx hb dX12_nextOrder_25 (by decide) (fun c_6 => ?_) (fun c_6 => ?_)
      · refine lv_iload_n hx hb dX12_nextOrder_34 rfl (lv_at hl 0 rfl) ?_
        refine lv_if_ge (tgt := 40) hx hb dX12_nextOrder_35 (by decide) (fun c_7 => ?_) (fun c_7 => ?_)
        · refine lv_aload_n hx hb dX12_nextOrder_40 rfl (lv_at hl 1 rfl) ?_
          refine va_get (D := (dC, dI)) (ci := 12) (v := .int 2) (C := RX12) (T := TX12) (N := 24) hx hb hts iw_m_nextOrder_X12 hown hK hP 0 rfl rfl 15 (by decide) (hts (.fieldLink RX12 218 "ThriceCountedModel" "soughtMany" "I") (by decide +kernel)) (fun _ h9 => h9) rfl dX12_nextOrder_41 ?_
          refine lv_iconst (v := 1) hx hb dX12_nextOrder_44 (by decide) ?_
          refine lv_isub hx hb dX12_nextOrder_45 ?_
          refine tz_i 1 (by decide) ?_
          refine lv_istore_n (lv' := [(2, .int 1), (1, .int 0), (0, .ref mo)]) hx hb dX12_nextOrder_46 rfl hl (by decide) rfl (fun ls hl => ?_)
          refine lv_aload_n hx hb dX12_nextOrder_47 rfl (lv_at hl 2 rfl) ?_
          refine va_get (D := (dC, dI)) (ci := 12) (v := .ref mz) (C := RX12) (T := TX12) (N := 24) hx hb hts iw_m_nextOrder_X12 hown hK hP 0 rfl rfl 13 (by decide) (hts (.fieldLink RX12 34 "ThriceCountedModel" "order" "[I") (by decide +kernel)) (fun _ h9 => h9) rfl dX12_nextOrder_48 ?_
          refine lv_iload_n hx hb dX12_nextOrder_51 rfl (lv_at hl 0 rfl) ?_
          refine va_iald hx hb hK hP 1 0 rfl rfl (show ¬ ((1 : Int32) < 0 ∨ 6 ≤ (1 : Int32).toNatClampNeg) by decide) dX12_nextOrder_52 ?_
          refine tz_i (fz_ 1) rfl ?_
          refine lv_aload_n hx hb dX12_nextOrder_53 rfl (lv_at hl 2 rfl) ?_
          refine va_get (D := (dC, dI)) (ci := 12) (v := .ref mz) (C := RX12) (T := TX12) (N := 24) hx hb hts iw_m_nextOrder_X12 hown hK hP 0 rfl rfl 13 (by decide) (hts (.fieldLink RX12 34 "ThriceCountedModel" "order" "[I") (by decide +kernel)) (fun _ h9 => h9) rfl dX12_nextOrder_54 ?_
          refine lv_iload_n hx hb dX12_nextOrder_57 rfl (lv_at hl 1 rfl) ?_
          refine va_iald hx hb hK hP 1 0 rfl rfl (show ¬ ((0 : Int32) < 0 ∨ 6 ≤ (0 : Int32).toNatClampNeg) by decide) dX12_nextOrder_58 ?_
          refine tz_i (fz_ 0) rfl ?_
          refine lv_icmp_ge (tgt := 68) hx hb dX12_nextOrder_59 (by decide) (fun c_8 => ?_) (fun c_8 => ?_)
          · refine lv_aload_n hx hb dX12_nextOrder_68 rfl (lv_at hl 2 rfl) ?_
            refine va_get (D := (dC, dI)) (ci := 12) (v := .ref mz) (C := RX12) (T := TX12) (N := 24) hx hb hts iw_m_nextOrder_X12 hown hK hP 0 rfl rfl 13 (by decide) (hts (.fieldLink RX12 34 "ThriceCountedModel" "order" "[I") (by decide +kernel)) (fun _ h9 => h9) rfl dX12_nextOrder_69 ?_
            refine lv_iload_n hx hb dX12_nextOrder_72 rfl (lv_at hl 1 rfl) ?_
            refine va_iald hx hb hK hP 1 0 rfl rfl (show ¬ ((0 : Int32) < 0 ∨ 6 ≤ (0 : Int32).toNatClampNeg) by decide) dX12_nextOrder_73 ?_
            refine tz_i (fz_ 0) rfl ?_
            refine lv_istore_n (lv' := [(3, .int (fz_ 0)), (2, .int 1), (1, .int 0), (0, .ref mo)]) hx hb dX12_nextOrder_74 rfl hl (by decide) rfl (fun ls hl => ?_)
            refine lv_aload_n hx hb dX12_nextOrder_75 rfl (lv_at hl 3 rfl) ?_
            refine va_get (D := (dC, dI)) (ci := 12) (v := .ref mz) (C := RX12) (T := TX12) (N := 24) hx hb hts iw_m_nextOrder_X12 hown hK hP 0 rfl rfl 13 (by decide) (hts (.fieldLink RX12 34 "ThriceCountedModel" "order" "[I") (by decide +kernel)) (fun _ h9 => h9) rfl dX12_nextOrder_76 ?_
            refine lv_iload_n hx hb dX12_nextOrder_79 rfl (lv_at hl 2 rfl) ?_
            refine lv_aload_n hx hb dX12_nextOrder_80 rfl (lv_at hl 3 rfl) ?_
            refine va_get (D := (dC, dI)) (ci := 12) (v := .ref mz) (C := RX12) (T := TX12) (N := 24) hx hb hts iw_m_nextOrder_X12 hown hK hP 0 rfl rfl 13 (by decide) (hts (.fieldLink RX12 34 "ThriceCountedModel" "order" "[I") (by decide +kernel)) (fun _ h9 => h9) rfl dX12_nextOrder_81 ?_
            refine lv_iload_n hx hb dX12_nextOrder_84 rfl (lv_at hl 1 rfl) ?_
            refine va_iald hx hb hK hP 1 0 rfl rfl (show ¬ ((1 : Int32) < 0 ∨ 6 ≤ (1 : Int32).toNatClampNeg) by decide) dX12_nextOrder_85 ?_
            refine tz_i (fz_ 1) rfl ?_
            refine va_iast hx hb hK hP hD hS 1 0 rfl rfl (show ¬ ((0 : Int32) < 0 ∨ 6 ≤ (0 : Int32).toNatClampNeg) by decide) dX12_nextOrder_86 (fun H locs hP hD hS => ?_)
            have hP : va_P (dC, dI) vwCl [(mo, .inr (12, [.ref nw, .ref kp, .ref ik, .ref mr, .long la_, .long lb_, .ref mw, .long lc_, .int ti_, .int cb_, .long ld_, .long le_, .ref mq, .ref mz, .ref my, .int 2, .ref mb, .int bl_, .int ta_, .int tl_, .int tk_, .int vl_, .ref mx, .ref mv])), (mz, .inl (cz_, 6, .inl (upd fz_ (Int32.toNatClampNeg 0) (fz_ 1))))] H := hP
            have hD : va_D A [(mo, .inr (12, [.ref nw, .ref kp, .ref ik, .ref mr, .long la_, .long lb_, .ref mw, .long lc_, .int ti_, .int cb_, .long ld_, .long le_, .ref mq, .ref mz, .ref my, .int 2, .ref mb, .int bl_, .int ta_, .int tl_, .int tk_, .int vl_, .ref mx, .ref mv])), (mz, .inl (cz_, 6, .inl (upd fz_ (Int32.toNatClampNeg 0) (fz_ 1))))] := hD
            refine lv_aload_n hx hb dX12_nextOrder_87 rfl (lv_at hl 3 rfl) ?_
            refine va_get (D := (dC, dI)) (ci := 12) (v := .ref mz) (C := RX12) (T := TX12) (N := 24) hx hb hts iw_m_nextOrder_X12 hown hK hP 0 rfl rfl 13 (by decide) (hts (.fieldLink RX12 34 "ThriceCountedModel" "order" "[I") (by decide +kernel)) (fun _ h9 => h9) rfl dX12_nextOrder_88 ?_
            refine lv_iload_n hx hb dX12_nextOrder_91 rfl (lv_at hl 1 rfl) ?_
            refine lv_iload_n hx hb dX12_nextOrder_92 rfl (lv_at hl 0 rfl) ?_
            refine va_iast hx hb hK hP hD hS 1 0 rfl rfl (show ¬ ((1 : Int32) < 0 ∨ 6 ≤ (1 : Int32).toNatClampNeg) by decide) dX12_nextOrder_93 (fun H locs hP hD hS => ?_)
            have hP : va_P (dC, dI) vwCl [(mo, .inr (12, [.ref nw, .ref kp, .ref ik, .ref mr, .long la_, .long lb_, .ref mw, .long lc_, .int ti_, .int cb_, .long ld_, .long le_, .ref mq, .ref mz, .ref my, .int 2, .ref mb, .int bl_, .int ta_, .int tl_, .int tk_, .int vl_, .ref mx, .ref mv])), (mz, .inl (cz_, 6, .inl (upd (upd fz_ (Int32.toNatClampNeg 0) (fz_ 1)) (Int32.toNatClampNeg 1) (fz_ 0))))] H := hP
            have hD : va_D A [(mo, .inr (12, [.ref nw, .ref kp, .ref ik, .ref mr, .long la_, .long lb_, .ref mw, .long lc_, .int ti_, .int cb_, .long ld_, .long le_, .ref mq, .ref mz, .ref my, .int 2, .ref mb, .int bl_, .int ta_, .int tl_, .int tk_, .int vl_, .ref mx, .ref mv])), (mz, .inl (cz_, 6, .inl (upd (upd fz_ (Int32.toNatClampNeg 0) (fz_ 1)) (Int32.toNatClampNeg 1) (fz_ 0))))] := hD
            refine lv_iload_n hx hb dX12_nextOrder_94 rfl (lv_at hl 2 rfl) ?_
            refine lv_iconst (v := 1) hx hb dX12_nextOrder_95 (by decide) ?_
            refine lv_iadd hx hb dX12_nextOrder_96 ?_
            refine tz_i 1 (by decide) ?_
            refine lv_istore (lv' := [(4, .int 1), (3, .int (fz_ 0)), (2, .int 1), (1, .int 0), (0, .ref mo)]) hx hb dX12_nextOrder_97 hl (by decide) rfl (fun ls hl => ?_)
            refine lv_aload_n hx hb dX12_nextOrder_99 rfl (lv_at hl 4 rfl) ?_
            refine va_get (D := (dC, dI)) (ci := 12) (v := .int 2) (C := RX12) (T := TX12) (N := 24) hx hb hts iw_m_nextOrder_X12 hown hK hP 0 rfl rfl 15 (by decide) (hts (.fieldLink RX12 218 "ThriceCountedModel" "soughtMany" "I") (by decide +kernel)) (fun _ h9 => h9) rfl dX12_nextOrder_100 ?_
            refine lv_iconst (v := 1) hx hb dX12_nextOrder_103 (by decide) ?_
            refine lv_isub hx hb dX12_nextOrder_104 ?_
            refine tz_i 1 (by decide) ?_
            refine lv_istore (lv' := [(5, .int 1), (4, .int 1), (3, .int (fz_ 0)), (2, .int 1), (1, .int 0), (0, .ref mo)]) hx hb dX12_nextOrder_105 hl (by decide) rfl (fun ls hl => ?_)
            refine lv_iload hx hb dX12_nextOrder_107 (lv_at hl 1 rfl) ?_
            refine lv_iload hx hb dX12_nextOrder_109 (lv_at hl 0 rfl) ?_
            refine lv_icmp_ge (tgt := 155) hx hb dX12_nextOrder_111 (by decide) (fun c_11 => ?_) (fun c_11 => ?_)
            · refine lv_iconst (v := 1) hx hb dX12_nextOrder_155 (by decide) ?_
              have hP9 := hP.sub (ws' := [(mo, .inr (12, [.ref nw, .ref kp, .ref ik, .ref mr, .long la_, .long lb_, .ref mw, .long lc_, .int ti_, .int cb_, .long ld_, .long le_, .ref mq, .ref mz, .ref my, .int (nI 2), .ref mb, .int bl_, .int ta_, .int tl_, .int tk_, .int vl_, .ref mx, .ref mv])), (mz, .inl (cz_, 6, .inl (upd (upd fz_ (Int32.toNatClampNeg 0) (fz_ 1)) (Int32.toNatClampNeg 1) (fz_ 0))))]) [0, 1] rfl
              have hD9 := hD.sub (ws' := [(mo, .inr (12, [.ref nw, .ref kp, .ref ik, .ref mr, .long la_, .long lb_, .ref mw, .long lc_, .int ti_, .int cb_, .long ld_, .long le_, .ref mq, .ref mz, .ref my, .int (nI 2), .ref mb, .int bl_, .int ta_, .int tl_, .int tk_, .int vl_, .ref mx, .ref mv])), (mz, .inl (cz_, 6, .inl (upd (upd fz_ (Int32.toNatClampNeg 0) (fz_ 1)) (Int32.toNatClampNeg 1) (fz_ 0))))]) [0, 1] (by decide) rfl
              have hK9 := hK.sub (tys' := [(cz_, .int)]) [0] rfl
              have hlt_12 : (fz_ 0).toInt < (fz_ 1).toInt := tz_ltt2 c_8 (hdi.2 0 1 (by omega) (by omega))
              have hb_13 := hdi.1 0 (by omega)
              have hb_14 := hdi.1 1 (by omega)
              have ev_15 : tz_val 2 fz_ = 7776 * (fz_ 0).toInt + 1296 * (fz_ 1).toInt + 216 * 0 + 36 * 0 + 6 * 0 + 0 := rfl
              have eg_16 : tz_val 2 (upd (upd fz_ (Int32.toNatClampNeg 0) (fz_ 1)) (Int32.toNatClampNeg 1) (fz_ 0)) = 7776 * (fz_ 1).toInt + 1296 * (fz_ 0).toInt + 216 * 0 + 36 * 0 + 6 * 0 + 0 := rfl
              have hp_17 : tz_Di 2 (upd (upd fz_ (Int32.toNatClampNeg 0) (fz_ 1)) (Int32.toNatClampNeg 1) (fz_ 0)) := hdi.perm (fun a => ([1, 0] : List Nat).getD a 0) (fun a ha => by
                rcases (show a = 0 ∨ a = 1 by omega) with rfl | rfl <;> exact ⟨by decide, rfl⟩) (by decide)
              exact W.zret (v := 1) hx hb hr (by decide) (fun t ht hW => ⟨⟨1, (), rfl, Or.inr ⟨rfl, 0, by omega, tz_nle_of c_8⟩, (upd (upd fz_ (Int32.toNatClampNeg 0) (fz_ 1)) (Int32.toNatClampNeg 1) (fz_ 0)), hp_17, by rw [ev_15, eg_16]; omega, fun _ => by rw [ev_15, eg_16]; omega, by rw [ht]; exact hP9, va_K.moved hW.alike hK9, hD9⟩, hS.F ht⟩) hS.2.2 dX12_nextOrder_156
            · exact absurd c_11 (by decide)
          · exact absurd c_6 c_8
        · exact absurd c_7 (by decide)
      · refine lv_iinc (v := (-1)) (lv' := [(1, .int (-1)), (0, .ref mo)]) hx hb dX12_nextOrder_28 hl (k := 0) rfl (by decide) (by decide) rfl (fun ls hl => ?_)
        refine lv_goto (tgt := 7) hx hb dX12_nextOrder_31 (by decide) ?_
        refine lv_iload_n hx hb dX12_nextOrder_7 rfl (lv_at hl 0 rfl) ?_
        refine lv_if_lt (tgt := 34) hx hb dX12_nextOrder_8 (by decide) (fun c_18 => ?_) (fun c_18 => ?_)
        · refine lv_iload_n hx hb dX12_nextOrder_34 rfl (lv_at hl 0 rfl) ?_
          refine lv_if_ge (tgt := 40) hx hb dX12_nextOrder_35 (by decide) (fun c_19 => ?_) (fun c_19 => ?_)
          · exact absurd c_19 (by decide)
          · refine lv_iconst (v := 0) hx hb dX12_nextOrder_38 (by decide) ?_
            have hP9 := hP.sub (ws' := [(mo, .inr (12, [.ref nw, .ref kp, .ref ik, .ref mr, .long la_, .long lb_, .ref mw, .long lc_, .int ti_, .int cb_, .long ld_, .long le_, .ref mq, .ref mz, .ref my, .int (nI 2), .ref mb, .int bl_, .int ta_, .int tl_, .int tk_, .int vl_, .ref mx, .ref mv])), (mz, .inl (cz_, 6, .inl fz_))]) [0, 1] rfl
            have hD9 := hD.sub (ws' := [(mo, .inr (12, [.ref nw, .ref kp, .ref ik, .ref mr, .long la_, .long lb_, .ref mw, .long lc_, .int ti_, .int cb_, .long ld_, .long le_, .ref mq, .ref mz, .ref my, .int (nI 2), .ref mb, .int bl_, .int ta_, .int tl_, .int tk_, .int vl_, .ref mx, .ref mv])), (mz, .inl (cz_, 6, .inl fz_))]) [0, 1] (by decide) rfl
            have hK9 := hK.sub (tys' := [(cz_, .int)]) [0] rfl
            exact W.zret (v := 0) hx hb hr (by decide) (fun t ht hW => ⟨⟨0, (), rfl, Or.inl rfl, fz_, hdi, Int.le_refl _, fun ⟨k, hk, hle⟩ => by
                rcases (show k = 0 by omega) with rfl
                · exact (hle (tz_gt_of c_6)).elim, by rw [ht]; exact hP9, va_K.moved hW.alike hK9, hD9⟩, hS.F ht⟩) hS.2.2 dX12_nextOrder_39
        · exact absurd c_18 (by decide)
  · have hP : va_P (dC, dI) vwCl [(mo, .inr (12, [.ref nw, .ref kp, .ref ik, .ref mr, .long la_, .long lb_, .ref mw, .long lc_, .int ti_, .int cb_, .long ld_, .long le_, .ref mq, .ref mz, .ref my, .int 3, .ref mb, .int bl_, .int ta_, .int tl_, .int tk_, .int vl_, .ref mx, .ref mv])), (mz, .inl (cz_, 6, .inl fz_))] s.heap := hP
    have hD : va_D A [(mo, .inr (12, [.ref nw, .ref kp, .ref ik, .ref mr, .long la_, .long lb_, .ref mw, .long lc_, .int ti_, .int cb_, .long ld_, .long le_, .ref mq, .ref mz, .ref my, .int 3, .ref mb, .int bl_, .int ta_, .int tl_, .int tk_, .int vl_, .ref mx, .ref mv])), (mz, .inl (cz_, 6, .inl fz_))] := hD
    refine lv_aload_n hx hb dX12_nextOrder_0 rfl (lv_at hl 0 rfl) ?_
    refine va_get (D := (dC, dI)) (ci := 12) (v := .int 3) (C := RX12) (T := TX12) (N := 24) hx hb hts iw_m_nextOrder_X12 hown hK hP 0 rfl rfl 15 (by decide) (hts (.fieldLink RX12 218 "ThriceCountedModel" "soughtMany" "I") (by decide +kernel)) (fun _ h9 => h9) rfl dX12_nextOrder_1 ?_
    refine lv_iconst (v := 2) hx hb dX12_nextOrder_4 (by decide) ?_
    refine lv_isub hx hb dX12_nextOrder_5 ?_
    refine tz_i 1 (by decide) ?_
    refine lv_istore_n (lv' := [(1, .int 1), (0, .ref mo)]) hx hb dX12_nextOrder_6 rfl hl (by decide) rfl (fun ls hl => ?_)
    refine lv_iload_n hx hb dX12_nextOrder_7 rfl (lv_at hl 0 rfl) ?_
    refine lv_if_lt (tgt := 34) hx hb dX12_nextOrder_8 (by decide) (fun c_20 => ?_) (fun c_20 => ?_)
    · exact absurd c_20 (by decide)
    · refine lv_aload_n hx hb dX12_nextOrder_11 rfl (lv_at hl 1 rfl) ?_
      refine va_get (D := (dC, dI)) (ci := 12) (v := .ref mz) (C := RX12) (T := TX12) (N := 24) hx hb hts iw_m_nextOrder_X12 hown hK hP 0 rfl rfl 13 (by decide) (hts (.fieldLink RX12 34 "ThriceCountedModel" "order" "[I") (by decide +kernel)) (fun _ h9 => h9) rfl dX12_nextOrder_12 ?_
      refine lv_iload_n hx hb dX12_nextOrder_15 rfl (lv_at hl 0 rfl) ?_
      refine va_iald hx hb hK hP 1 0 rfl rfl (show ¬ ((1 : Int32) < 0 ∨ 6 ≤ (1 : Int32).toNatClampNeg) by decide) dX12_nextOrder_16 ?_
      refine tz_i (fz_ 1) rfl ?_
      refine lv_aload_n hx hb dX12_nextOrder_17 rfl (lv_at hl 1 rfl) ?_
      refine va_get (D := (dC, dI)) (ci := 12) (v := .ref mz) (C := RX12) (T := TX12) (N := 24) hx hb hts iw_m_nextOrder_X12 hown hK hP 0 rfl rfl 13 (by decide) (hts (.fieldLink RX12 34 "ThriceCountedModel" "order" "[I") (by decide +kernel)) (fun _ h9 => h9) rfl dX12_nextOrder_18 ?_
      refine lv_iload_n hx hb dX12_nextOrder_21 rfl (lv_at hl 0 rfl) ?_
      refine lv_iconst (v := 1) hx hb dX12_nextOrder_22 (by decide) ?_
      refine lv_iadd hx hb dX12_nextOrder_23 ?_
      refine tz_i 2 (by decide) ?_
      refine va_iald hx hb hK hP 1 0 rfl rfl (show ¬ ((2 : Int32) < 0 ∨ 6 ≤ (2 : Int32).toNatClampNeg) by decide) dX12_nextOrder_24 ?_
      refine tz_i (fz_ 2) rfl ?_
      refine lv_icmp_le (tgt := 34) hx hb dX12_nextOrder_25 (by decide) (fun c_21 => ?_) (fun c_21 => ?_)
      · refine lv_iload_n hx hb dX12_nextOrder_34 rfl (lv_at hl 0 rfl) ?_
        refine lv_if_ge (tgt := 40) hx hb dX12_nextOrder_35 (by decide) (fun c_22 => ?_) (fun c_22 => ?_)
        · refine lv_aload_n hx hb dX12_nextOrder_40 rfl (lv_at hl 1 rfl) ?_
          refine va_get (D := (dC, dI)) (ci := 12) (v := .int 3) (C := RX12) (T := TX12) (N := 24) hx hb hts iw_m_nextOrder_X12 hown hK hP 0 rfl rfl 15 (by decide) (hts (.fieldLink RX12 218 "ThriceCountedModel" "soughtMany" "I") (by decide +kernel)) (fun _ h9 => h9) rfl dX12_nextOrder_41 ?_
          refine lv_iconst (v := 1) hx hb dX12_nextOrder_44 (by decide) ?_
          refine lv_isub hx hb dX12_nextOrder_45 ?_
          refine tz_i 2 (by decide) ?_
          refine lv_istore_n (lv' := [(2, .int 2), (1, .int 1), (0, .ref mo)]) hx hb dX12_nextOrder_46 rfl hl (by decide) rfl (fun ls hl => ?_)
          refine lv_aload_n hx hb dX12_nextOrder_47 rfl (lv_at hl 2 rfl) ?_
          refine va_get (D := (dC, dI)) (ci := 12) (v := .ref mz) (C := RX12) (T := TX12) (N := 24) hx hb hts iw_m_nextOrder_X12 hown hK hP 0 rfl rfl 13 (by decide) (hts (.fieldLink RX12 34 "ThriceCountedModel" "order" "[I") (by decide +kernel)) (fun _ h9 => h9) rfl dX12_nextOrder_48 ?_
          refine lv_iload_n hx hb dX12_nextOrder_51 rfl (lv_at hl 0 rfl) ?_
          refine va_iald hx hb hK hP 1 0 rfl rfl (show ¬ ((2 : Int32) < 0 ∨ 6 ≤ (2 : Int32).toNatClampNeg) by decide) dX12_nextOrder_52 ?_
          refine tz_i (fz_ 2) rfl ?_
          refine lv_aload_n hx hb dX12_nextOrder_53 rfl (lv_at hl 2 rfl) ?_
          refine va_get (D := (dC, dI)) (ci := 12) (v := .ref mz) (C := RX12) (T := TX12) (N := 24) hx hb hts iw_m_nextOrder_X12 hown hK hP 0 rfl rfl 13 (by decide) (hts (.fieldLink RX12 34 "ThriceCountedModel" "order" "[I") (by decide +kernel)) (fun _ h9 => h9) rfl dX12_nextOrder_54 ?_
          refine lv_iload_n hx hb dX12_nextOrder_57 rfl (lv_at hl 1 rfl) ?_
          refine va_iald hx hb hK hP 1 0 rfl rfl (show ¬ ((1 : Int32) < 0 ∨ 6 ≤ (1 : Int32).toNatClampNeg) by decide) dX12_nextOrder_58 ?_
          refine tz_i (fz_ 1) rfl ?_
          refine lv_icmp_ge (tgt := 68) hx hb dX12_nextOrder_59 (by decide) (fun c_23 => ?_) (fun c_23 => ?_)
          · refine lv_aload_n hx hb dX12_nextOrder_68 rfl (lv_at hl 2 rfl) ?_
            refine va_get (D := (dC, dI)) (ci := 12) (v := .ref mz) (C := RX12) (T := TX12) (N := 24) hx hb hts iw_m_nextOrder_X12 hown hK hP 0 rfl rfl 13 (by decide) (hts (.fieldLink RX12 34 "ThriceCountedModel" "order" "[I") (by decide +kernel)) (fun _ h9 => h9) rfl dX12_nextOrder_69 ?_
            refine lv_iload_n hx hb dX12_nextOrder_72 rfl (lv_at hl 1 rfl) ?_
            refine va_iald hx hb hK hP 1 0 rfl rfl (show ¬ ((1 : Int32) < 0 ∨ 6 ≤ (1 : Int32).toNatClampNeg) by decide) dX12_nextOrder_73 ?_
            refine tz_i (fz_ 1) rfl ?_
            refine lv_istore_n (lv' := [(3, .int (fz_ 1)), (2, .int 2), (1, .int 1), (0, .ref mo)]) hx hb dX12_nextOrder_74 rfl hl (by decide) rfl (fun ls hl => ?_)
            refine lv_aload_n hx hb dX12_nextOrder_75 rfl (lv_at hl 3 rfl) ?_
            refine va_get (D := (dC, dI)) (ci := 12) (v := .ref mz) (C := RX12) (T := TX12) (N := 24) hx hb hts iw_m_nextOrder_X12 hown hK hP 0 rfl rfl 13 (by decide) (hts (.fieldLink RX12 34 "ThriceCountedModel" "order" "[I") (by decide +kernel)) (fun _ h9 => h9) rfl dX12_nextOrder_76 ?_
            refine lv_iload_n hx hb dX12_nextOrder_79 rfl (lv_at hl 2 rfl) ?_
            refine lv_aload_n hx hb dX12_nextOrder_80 rfl (lv_at hl 3 rfl) ?_
            refine va_get (D := (dC, dI)) (ci := 12) (v := .ref mz) (C := RX12) (T := TX12) (N := 24) hx hb hts iw_m_nextOrder_X12 hown hK hP 0 rfl rfl 13 (by decide) (hts (.fieldLink RX12 34 "ThriceCountedModel" "order" "[I") (by decide +kernel)) (fun _ h9 => h9) rfl dX12_nextOrder_81 ?_
            refine lv_iload_n hx hb dX12_nextOrder_84 rfl (lv_at hl 1 rfl) ?_
            refine va_iald hx hb hK hP 1 0 rfl rfl (show ¬ ((2 : Int32) < 0 ∨ 6 ≤ (2 : Int32).toNatClampNeg) by decide) dX12_nextOrder_85 ?_
            refine tz_i (fz_ 2) rfl ?_
            refine va_iast hx hb hK hP hD hS 1 0 rfl rfl (show ¬ ((1 : Int32) < 0 ∨ 6 ≤ (1 : Int32).toNatClampNeg) by decide) dX12_nextOrder_86 (fun H locs hP hD hS => ?_)
            have hP : va_P (dC, dI) vwCl [(mo, .inr (12, [.ref nw, .ref kp, .ref ik, .ref mr, .long la_, .long lb_, .ref mw, .long lc_, .int ti_, .int cb_, .long ld_, .long le_, .ref mq, .ref mz, .ref my, .int 3, .ref mb, .int bl_, .int ta_, .int tl_, .int tk_, .int vl_, .ref mx, .ref mv])), (mz, .inl (cz_, 6, .inl (upd fz_ (Int32.toNatClampNeg 1) (fz_ 2))))] H := hP
            have hD : va_D A [(mo, .inr (12, [.ref nw, .ref kp, .ref ik, .ref mr, .long la_, .long lb_, .ref mw, .long lc_, .int ti_, .int cb_, .long ld_, .long le_, .ref mq, .ref mz, .ref my, .int 3, .ref mb, .int bl_, .int ta_, .int tl_, .int tk_, .int vl_, .ref mx, .ref mv])), (mz, .inl (cz_, 6, .inl (upd fz_ (Int32.toNatClampNeg 1) (fz_ 2))))] := hD
            refine lv_aload_n hx hb dX12_nextOrder_87 rfl (lv_at hl 3 rfl) ?_
            refine va_get (D := (dC, dI)) (ci := 12) (v := .ref mz) (C := RX12) (T := TX12) (N := 24) hx hb hts iw_m_nextOrder_X12 hown hK hP 0 rfl rfl 13 (by decide) (hts (.fieldLink RX12 34 "ThriceCountedModel" "order" "[I") (by decide +kernel)) (fun _ h9 => h9) rfl dX12_nextOrder_88 ?_
            refine lv_iload_n hx hb dX12_nextOrder_91 rfl (lv_at hl 1 rfl) ?_
            refine lv_iload_n hx hb dX12_nextOrder_92 rfl (lv_at hl 0 rfl) ?_
            refine va_iast hx hb hK hP hD hS 1 0 rfl rfl (show ¬ ((2 : Int32) < 0 ∨ 6 ≤ (2 : Int32).toNatClampNeg) by decide) dX12_nextOrder_93 (fun H locs hP hD hS => ?_)
            have hP : va_P (dC, dI) vwCl [(mo, .inr (12, [.ref nw, .ref kp, .ref ik, .ref mr, .long la_, .long lb_, .ref mw, .long lc_, .int ti_, .int cb_, .long ld_, .long le_, .ref mq, .ref mz, .ref my, .int 3, .ref mb, .int bl_, .int ta_, .int tl_, .int tk_, .int vl_, .ref mx, .ref mv])), (mz, .inl (cz_, 6, .inl (upd (upd fz_ (Int32.toNatClampNeg 1) (fz_ 2)) (Int32.toNatClampNeg 2) (fz_ 1))))] H := hP
            have hD : va_D A [(mo, .inr (12, [.ref nw, .ref kp, .ref ik, .ref mr, .long la_, .long lb_, .ref mw, .long lc_, .int ti_, .int cb_, .long ld_, .long le_, .ref mq, .ref mz, .ref my, .int 3, .ref mb, .int bl_, .int ta_, .int tl_, .int tk_, .int vl_, .ref mx, .ref mv])), (mz, .inl (cz_, 6, .inl (upd (upd fz_ (Int32.toNatClampNeg 1) (fz_ 2)) (Int32.toNatClampNeg 2) (fz_ 1))))] := hD
            refine lv_iload_n hx hb dX12_nextOrder_94 rfl (lv_at hl 2 rfl) ?_
            refine lv_iconst (v := 1) hx hb dX12_nextOrder_95 (by decide) ?_
            refine lv_iadd hx hb dX12_nextOrder_96 ?_
            refine tz_i 2 (by decide) ?_
            refine lv_istore (lv' := [(4, .int 2), (3, .int (fz_ 1)), (2, .int 2), (1, .int 1), (0, .ref mo)]) hx hb dX12_nextOrder_97 hl (by decide) rfl (fun ls hl => ?_)
            refine lv_aload_n hx hb dX12_nextOrder_99 rfl (lv_at hl 4 rfl) ?_
            refine va_get (D := (dC, dI)) (ci := 12) (v := .int 3) (C := RX12) (T := TX12) (N := 24) hx hb hts iw_m_nextOrder_X12 hown hK hP 0 rfl rfl 15 (by decide) (hts (.fieldLink RX12 218 "ThriceCountedModel" "soughtMany" "I") (by decide +kernel)) (fun _ h9 => h9) rfl dX12_nextOrder_100 ?_
            refine lv_iconst (v := 1) hx hb dX12_nextOrder_103 (by decide) ?_
            refine lv_isub hx hb dX12_nextOrder_104 ?_
            refine tz_i 2 (by decide) ?_
            refine lv_istore (lv' := [(5, .int 2), (4, .int 2), (3, .int (fz_ 1)), (2, .int 2), (1, .int 1), (0, .ref mo)]) hx hb dX12_nextOrder_105 hl (by decide) rfl (fun ls hl => ?_)
            refine lv_iload hx hb dX12_nextOrder_107 (lv_at hl 1 rfl) ?_
            refine lv_iload hx hb dX12_nextOrder_109 (lv_at hl 0 rfl) ?_
            refine lv_icmp_ge (tgt := 155) hx hb dX12_nextOrder_111 (by decide) (fun c_26 => ?_) (fun c_26 => ?_)
            · refine lv_iconst (v := 1) hx hb dX12_nextOrder_155 (by decide) ?_
              have hP9 := hP.sub (ws' := [(mo, .inr (12, [.ref nw, .ref kp, .ref ik, .ref mr, .long la_, .long lb_, .ref mw, .long lc_, .int ti_, .int cb_, .long ld_, .long le_, .ref mq, .ref mz, .ref my, .int (nI 3), .ref mb, .int bl_, .int ta_, .int tl_, .int tk_, .int vl_, .ref mx, .ref mv])), (mz, .inl (cz_, 6, .inl (upd (upd fz_ (Int32.toNatClampNeg 1) (fz_ 2)) (Int32.toNatClampNeg 2) (fz_ 1))))]) [0, 1] rfl
              have hD9 := hD.sub (ws' := [(mo, .inr (12, [.ref nw, .ref kp, .ref ik, .ref mr, .long la_, .long lb_, .ref mw, .long lc_, .int ti_, .int cb_, .long ld_, .long le_, .ref mq, .ref mz, .ref my, .int (nI 3), .ref mb, .int bl_, .int ta_, .int tl_, .int tk_, .int vl_, .ref mx, .ref mv])), (mz, .inl (cz_, 6, .inl (upd (upd fz_ (Int32.toNatClampNeg 1) (fz_ 2)) (Int32.toNatClampNeg 2) (fz_ 1))))]) [0, 1] (by decide) rfl
              have hK9 := hK.sub (tys' := [(cz_, .int)]) [0] rfl
              have hlt_27 : (fz_ 1).toInt < (fz_ 2).toInt := tz_ltt2 c_23 (hdi.2 1 2 (by omega) (by omega))
              have hb_28 := hdi.1 0 (by omega)
              have hb_29 := hdi.1 1 (by omega)
              have hb_30 := hdi.1 2 (by omega)
              have ev_31 : tz_val 3 fz_ = 7776 * (fz_ 0).toInt + 1296 * (fz_ 1).toInt + 216 * (fz_ 2).toInt + 36 * 0 + 6 * 0 + 0 := rfl
              have eg_32 : tz_val 3 (upd (upd fz_ (Int32.toNatClampNeg 1) (fz_ 2)) (Int32.toNatClampNeg 2) (fz_ 1)) = 7776 * (fz_ 0).toInt + 1296 * (fz_ 2).toInt + 216 * (fz_ 1).toInt + 36 * 0 + 6 * 0 + 0 := rfl
              have hp_33 : tz_Di 3 (upd (upd fz_ (Int32.toNatClampNeg 1) (fz_ 2)) (Int32.toNatClampNeg 2) (fz_ 1)) := hdi.perm (fun a => ([0, 2, 1] : List Nat).getD a 0) (fun a ha => by
                rcases (show a = 0 ∨ a = 1 ∨ a = 2 by omega) with rfl | rfl | rfl <;> exact ⟨by decide, rfl⟩) (by decide)
              exact W.zret (v := 1) hx hb hr (by decide) (fun t ht hW => ⟨⟨1, (), rfl, Or.inr ⟨rfl, 1, by omega, tz_nle_of c_23⟩, (upd (upd fz_ (Int32.toNatClampNeg 1) (fz_ 2)) (Int32.toNatClampNeg 2) (fz_ 1)), hp_33, by rw [ev_31, eg_32]; omega, fun _ => by rw [ev_31, eg_32]; omega, by rw [ht]; exact hP9, va_K.moved hW.alike hK9, hD9⟩, hS.F ht⟩) hS.2.2 dX12_nextOrder_156
            · exact absurd c_26 (by decide)
          · exact absurd c_21 c_23
        · exact absurd c_22 (by decide)
      · refine lv_iinc (v := 0) (lv' := [(1, .int 0), (0, .ref mo)]) hx hb dX12_nextOrder_28 hl (k := 0) rfl (by decide) (by decide) rfl (fun ls hl => ?_)
        refine lv_goto (tgt := 7) hx hb dX12_nextOrder_31 (by decide) ?_
        refine lv_iload_n hx hb dX12_nextOrder_7 rfl (lv_at hl 0 rfl) ?_
        refine lv_if_lt (tgt := 34) hx hb dX12_nextOrder_8 (by decide) (fun c_34 => ?_) (fun c_34 => ?_)
        · exact absurd c_34 (by decide)
        · refine lv_aload_n hx hb dX12_nextOrder_11 rfl (lv_at hl 1 rfl) ?_
          refine va_get (D := (dC, dI)) (ci := 12) (v := .ref mz) (C := RX12) (T := TX12) (N := 24) hx hb hts iw_m_nextOrder_X12 hown hK hP 0 rfl rfl 13 (by decide) (hts (.fieldLink RX12 34 "ThriceCountedModel" "order" "[I") (by decide +kernel)) (fun _ h9 => h9) rfl dX12_nextOrder_12 ?_
          refine lv_iload_n hx hb dX12_nextOrder_15 rfl (lv_at hl 0 rfl) ?_
          refine va_iald hx hb hK hP 1 0 rfl rfl (show ¬ ((0 : Int32) < 0 ∨ 6 ≤ (0 : Int32).toNatClampNeg) by decide) dX12_nextOrder_16 ?_
          refine tz_i (fz_ 0) rfl ?_
          refine lv_aload_n hx hb dX12_nextOrder_17 rfl (lv_at hl 1 rfl) ?_
          refine va_get (D := (dC, dI)) (ci := 12) (v := .ref mz) (C := RX12) (T := TX12) (N := 24) hx hb hts iw_m_nextOrder_X12 hown hK hP 0 rfl rfl 13 (by decide) (hts (.fieldLink RX12 34 "ThriceCountedModel" "order" "[I") (by decide +kernel)) (fun _ h9 => h9) rfl dX12_nextOrder_18 ?_
          refine lv_iload_n hx hb dX12_nextOrder_21 rfl (lv_at hl 0 rfl) ?_
          refine lv_iconst (v := 1) hx hb dX12_nextOrder_22 (by decide) ?_
          refine lv_iadd hx hb dX12_nextOrder_23 ?_
          refine tz_i 1 (by decide) ?_
          refine va_iald hx hb hK hP 1 0 rfl rfl (show ¬ ((1 : Int32) < 0 ∨ 6 ≤ (1 : Int32).toNatClampNeg) by decide) dX12_nextOrder_24 ?_
          refine tz_i (fz_ 1) rfl ?_
          refine lv_icmp_le (tgt := 34) hx hb dX12_nextOrder_25 (by decide) (fun c_35 => ?_) (fun c_35 => ?_)
          · refine lv_iload_n hx hb dX12_nextOrder_34 rfl (lv_at hl 0 rfl) ?_
            refine lv_if_ge (tgt := 40) hx hb dX12_nextOrder_35 (by decide) (fun c_36 => ?_) (fun c_36 => ?_)
            · refine lv_aload_n hx hb dX12_nextOrder_40 rfl (lv_at hl 1 rfl) ?_
              refine va_get (D := (dC, dI)) (ci := 12) (v := .int 3) (C := RX12) (T := TX12) (N := 24) hx hb hts iw_m_nextOrder_X12 hown hK hP 0 rfl rfl 15 (by decide) (hts (.fieldLink RX12 218 "ThriceCountedModel" "soughtMany" "I") (by decide +kernel)) (fun _ h9 => h9) rfl dX12_nextOrder_41 ?_
              refine lv_iconst (v := 1) hx hb dX12_nextOrder_44 (by decide) ?_
              refine lv_isub hx hb dX12_nextOrder_45 ?_
              refine tz_i 2 (by decide) ?_
              refine lv_istore_n (lv' := [(2, .int 2), (1, .int 0), (0, .ref mo)]) hx hb dX12_nextOrder_46 rfl hl (by decide) rfl (fun ls hl => ?_)
              refine lv_aload_n hx hb dX12_nextOrder_47 rfl (lv_at hl 2 rfl) ?_
              refine va_get (D := (dC, dI)) (ci := 12) (v := .ref mz) (C := RX12) (T := TX12) (N := 24) hx hb hts iw_m_nextOrder_X12 hown hK hP 0 rfl rfl 13 (by decide) (hts (.fieldLink RX12 34 "ThriceCountedModel" "order" "[I") (by decide +kernel)) (fun _ h9 => h9) rfl dX12_nextOrder_48 ?_
              refine lv_iload_n hx hb dX12_nextOrder_51 rfl (lv_at hl 0 rfl) ?_
              refine va_iald hx hb hK hP 1 0 rfl rfl (show ¬ ((2 : Int32) < 0 ∨ 6 ≤ (2 : Int32).toNatClampNeg) by decide) dX12_nextOrder_52 ?_
              refine tz_i (fz_ 2) rfl ?_
              refine lv_aload_n hx hb dX12_nextOrder_53 rfl (lv_at hl 2 rfl) ?_
              refine va_get (D := (dC, dI)) (ci := 12) (v := .ref mz) (C := RX12) (T := TX12) (N := 24) hx hb hts iw_m_nextOrder_X12 hown hK hP 0 rfl rfl 13 (by decide) (hts (.fieldLink RX12 34 "ThriceCountedModel" "order" "[I") (by decide +kernel)) (fun _ h9 => h9) rfl dX12_nextOrder_54 ?_
              refine lv_iload_n hx hb dX12_nextOrder_57 rfl (lv_at hl 1 rfl) ?_
              refine va_iald hx hb hK hP 1 0 rfl rfl (show ¬ ((0 : Int32) < 0 ∨ 6 ≤ (0 : Int32).toNatClampNeg) by decide) dX12_nextOrder_58 ?_
              refine tz_i (fz_ 0) rfl ?_
              refine lv_icmp_ge (tgt := 68) hx hb dX12_nextOrder_59 (by decide) (fun c_37 => ?_) (fun c_37 => ?_)
              · refine lv_aload_n hx hb dX12_nextOrder_68 rfl (lv_at hl 2 rfl) ?_
                refine va_get (D := (dC, dI)) (ci := 12) (v := .ref mz) (C := RX12) (T := TX12) (N := 24) hx hb hts iw_m_nextOrder_X12 hown hK hP 0 rfl rfl 13 (by decide) (hts (.fieldLink RX12 34 "ThriceCountedModel" "order" "[I") (by decide +kernel)) (fun _ h9 => h9) rfl dX12_nextOrder_69 ?_
                refine lv_iload_n hx hb dX12_nextOrder_72 rfl (lv_at hl 1 rfl) ?_
                refine va_iald hx hb hK hP 1 0 rfl rfl (show ¬ ((0 : Int32) < 0 ∨ 6 ≤ (0 : Int32).toNatClampNeg) by decide) dX12_nextOrder_73 ?_
                refine tz_i (fz_ 0) rfl ?_
                refine lv_istore_n (lv' := [(3, .int (fz_ 0)), (2, .int 2), (1, .int 0), (0, .ref mo)]) hx hb dX12_nextOrder_74 rfl hl (by decide) rfl (fun ls hl => ?_)
                refine lv_aload_n hx hb dX12_nextOrder_75 rfl (lv_at hl 3 rfl) ?_
                refine va_get (D := (dC, dI)) (ci := 12) (v := .ref mz) (C := RX12) (T := TX12) (N := 24) hx hb hts iw_m_nextOrder_X12 hown hK hP 0 rfl rfl 13 (by decide) (hts (.fieldLink RX12 34 "ThriceCountedModel" "order" "[I") (by decide +kernel)) (fun _ h9 => h9) rfl dX12_nextOrder_76 ?_
                refine lv_iload_n hx hb dX12_nextOrder_79 rfl (lv_at hl 2 rfl) ?_
                refine lv_aload_n hx hb dX12_nextOrder_80 rfl (lv_at hl 3 rfl) ?_
                refine va_get (D := (dC, dI)) (ci := 12) (v := .ref mz) (C := RX12) (T := TX12) (N := 24) hx hb hts iw_m_nextOrder_X12 hown hK hP 0 rfl rfl 13 (by decide) (hts (.fieldLink RX12 34 "ThriceCountedModel" "order" "[I") (by decide +kernel)) (fun _ h9 => h9) rfl dX12_nextOrder_81 ?_
                refine lv_iload_n hx hb dX12_nextOrder_84 rfl (lv_at hl 1 rfl) ?_
                refine va_iald hx hb hK hP 1 0 rfl rfl (show ¬ ((2 : Int32) < 0 ∨ 6 ≤ (2 : Int32).toNatClampNeg) by decide) dX12_nextOrder_85 ?_
                refine tz_i (fz_ 2) rfl ?_
                refine va_iast hx hb hK hP hD hS 1 0 rfl rfl (show ¬ ((0 : Int32) < 0 ∨ 6 ≤ (0 : Int32).toNatClampNeg) by decide) dX12_nextOrder_86 (fun H locs hP hD hS => ?_)
                have hP : va_P (dC, dI) vwCl [(mo, .inr (12, [.ref nw, .ref kp, .ref ik, .ref mr, .long la_, .long lb_, .ref mw, .long lc_, .int ti_, .int cb_, .long ld_, .long le_, .ref mq, .ref mz, .ref my, .int 3, .ref mb, .int bl_, .int ta_, .int tl_, .int tk_, .int vl_, .ref mx, .ref mv])), (mz, .inl (cz_, 6, .inl (upd fz_ (Int32.toNatClampNeg 0) (fz_ 2))))] H := hP
                have hD : va_D A [(mo, .inr (12, [.ref nw, .ref kp, .ref ik, .ref mr, .long la_, .long lb_, .ref mw, .long lc_, .int ti_, .int cb_, .long ld_, .long le_, .ref mq, .ref mz, .ref my, .int 3, .ref mb, .int bl_, .int ta_, .int tl_, .int tk_, .int vl_, .ref mx, .ref mv])), (mz, .inl (cz_, 6, .inl (upd fz_ (Int32.toNatClampNeg 0) (fz_ 2))))] := hD
                refine lv_aload_n hx hb dX12_nextOrder_87 rfl (lv_at hl 3 rfl) ?_
                refine va_get (D := (dC, dI)) (ci := 12) (v := .ref mz) (C := RX12) (T := TX12) (N := 24) hx hb hts iw_m_nextOrder_X12 hown hK hP 0 rfl rfl 13 (by decide) (hts (.fieldLink RX12 34 "ThriceCountedModel" "order" "[I") (by decide +kernel)) (fun _ h9 => h9) rfl dX12_nextOrder_88 ?_
                refine lv_iload_n hx hb dX12_nextOrder_91 rfl (lv_at hl 1 rfl) ?_
                refine lv_iload_n hx hb dX12_nextOrder_92 rfl (lv_at hl 0 rfl) ?_
                refine va_iast hx hb hK hP hD hS 1 0 rfl rfl (show ¬ ((2 : Int32) < 0 ∨ 6 ≤ (2 : Int32).toNatClampNeg) by decide) dX12_nextOrder_93 (fun H locs hP hD hS => ?_)
                have hP : va_P (dC, dI) vwCl [(mo, .inr (12, [.ref nw, .ref kp, .ref ik, .ref mr, .long la_, .long lb_, .ref mw, .long lc_, .int ti_, .int cb_, .long ld_, .long le_, .ref mq, .ref mz, .ref my, .int 3, .ref mb, .int bl_, .int ta_, .int tl_, .int tk_, .int vl_, .ref mx, .ref mv])), (mz, .inl (cz_, 6, .inl (upd (upd fz_ (Int32.toNatClampNeg 0) (fz_ 2)) (Int32.toNatClampNeg 2) (fz_ 0))))] H := hP
                have hD : va_D A [(mo, .inr (12, [.ref nw, .ref kp, .ref ik, .ref mr, .long la_, .long lb_, .ref mw, .long lc_, .int ti_, .int cb_, .long ld_, .long le_, .ref mq, .ref mz, .ref my, .int 3, .ref mb, .int bl_, .int ta_, .int tl_, .int tk_, .int vl_, .ref mx, .ref mv])), (mz, .inl (cz_, 6, .inl (upd (upd fz_ (Int32.toNatClampNeg 0) (fz_ 2)) (Int32.toNatClampNeg 2) (fz_ 0))))] := hD
                refine lv_iload_n hx hb dX12_nextOrder_94 rfl (lv_at hl 2 rfl) ?_
                refine lv_iconst (v := 1) hx hb dX12_nextOrder_95 (by decide) ?_
                refine lv_iadd hx hb dX12_nextOrder_96 ?_
                refine tz_i 1 (by decide) ?_
                refine lv_istore (lv' := [(4, .int 1), (3, .int (fz_ 0)), (2, .int 2), (1, .int 0), (0, .ref mo)]) hx hb dX12_nextOrder_97 hl (by decide) rfl (fun ls hl => ?_)
                refine lv_aload_n hx hb dX12_nextOrder_99 rfl (lv_at hl 4 rfl) ?_
                refine va_get (D := (dC, dI)) (ci := 12) (v := .int 3) (C := RX12) (T := TX12) (N := 24) hx hb hts iw_m_nextOrder_X12 hown hK hP 0 rfl rfl 15 (by decide) (hts (.fieldLink RX12 218 "ThriceCountedModel" "soughtMany" "I") (by decide +kernel)) (fun _ h9 => h9) rfl dX12_nextOrder_100 ?_
                refine lv_iconst (v := 1) hx hb dX12_nextOrder_103 (by decide) ?_
                refine lv_isub hx hb dX12_nextOrder_104 ?_
                refine tz_i 2 (by decide) ?_
                refine lv_istore (lv' := [(5, .int 2), (4, .int 1), (3, .int (fz_ 0)), (2, .int 2), (1, .int 0), (0, .ref mo)]) hx hb dX12_nextOrder_105 hl (by decide) rfl (fun ls hl => ?_)
                refine lv_iload hx hb dX12_nextOrder_107 (lv_at hl 1 rfl) ?_
                refine lv_iload hx hb dX12_nextOrder_109 (lv_at hl 0 rfl) ?_
                refine lv_icmp_ge (tgt := 155) hx hb dX12_nextOrder_111 (by decide) (fun c_40 => ?_) (fun c_40 => ?_)
                · exact absurd c_40 (by decide)
                · refine lv_aload_n hx hb dX12_nextOrder_114 rfl (lv_at hl 5 rfl) ?_
                  refine va_get (D := (dC, dI)) (ci := 12) (v := .ref mz) (C := RX12) (T := TX12) (N := 24) hx hb hts iw_m_nextOrder_X12 hown hK hP 0 rfl rfl 13 (by decide) (hts (.fieldLink RX12 34 "ThriceCountedModel" "order" "[I") (by decide +kernel)) (fun _ h9 => h9) rfl dX12_nextOrder_115 ?_
                  refine lv_iload hx hb dX12_nextOrder_118 (lv_at hl 1 rfl) ?_
                  refine va_iald hx hb hK hP 1 0 rfl rfl (show ¬ ((1 : Int32) < 0 ∨ 6 ≤ (1 : Int32).toNatClampNeg) by decide) dX12_nextOrder_120 ?_
                  refine tz_i (fz_ 1) rfl ?_
                  refine lv_istore (lv' := [(6, .int (fz_ 1)), (5, .int 2), (4, .int 1), (3, .int (fz_ 0)), (2, .int 2), (1, .int 0), (0, .ref mo)]) hx hb dX12_nextOrder_121 hl (by decide) rfl (fun ls hl => ?_)
                  refine lv_aload_n hx hb dX12_nextOrder_123 rfl (lv_at hl 6 rfl) ?_
                  refine va_get (D := (dC, dI)) (ci := 12) (v := .ref mz) (C := RX12) (T := TX12) (N := 24) hx hb hts iw_m_nextOrder_X12 hown hK hP 0 rfl rfl 13 (by decide) (hts (.fieldLink RX12 34 "ThriceCountedModel" "order" "[I") (by decide +kernel)) (fun _ h9 => h9) rfl dX12_nextOrder_124 ?_
                  refine lv_iload hx hb dX12_nextOrder_127 (lv_at hl 2 rfl) ?_
                  refine lv_aload_n hx hb dX12_nextOrder_129 rfl (lv_at hl 6 rfl) ?_
                  refine va_get (D := (dC, dI)) (ci := 12) (v := .ref mz) (C := RX12) (T := TX12) (N := 24) hx hb hts iw_m_nextOrder_X12 hown hK hP 0 rfl rfl 13 (by decide) (hts (.fieldLink RX12 34 "ThriceCountedModel" "order" "[I") (by decide +kernel)) (fun _ h9 => h9) rfl dX12_nextOrder_130 ?_
                  refine lv_iload hx hb dX12_nextOrder_133 (lv_at hl 1 rfl) ?_
                  refine va_iald hx hb hK hP 1 0 rfl rfl (show ¬ ((2 : Int32) < 0 ∨ 6 ≤ (2 : Int32).toNatClampNeg) by decide) dX12_nextOrder_135 ?_
                  refine tz_i (fz_ 0) rfl ?_
                  refine va_iast hx hb hK hP hD hS 1 0 rfl rfl (show ¬ ((1 : Int32) < 0 ∨ 6 ≤ (1 : Int32).toNatClampNeg) by decide) dX12_nextOrder_136 (fun H locs hP hD hS => ?_)
                  have hP : va_P (dC, dI) vwCl [(mo, .inr (12, [.ref nw, .ref kp, .ref ik, .ref mr, .long la_, .long lb_, .ref mw, .long lc_, .int ti_, .int cb_, .long ld_, .long le_, .ref mq, .ref mz, .ref my, .int 3, .ref mb, .int bl_, .int ta_, .int tl_, .int tk_, .int vl_, .ref mx, .ref mv])), (mz, .inl (cz_, 6, .inl (upd (upd (upd fz_ (Int32.toNatClampNeg 0) (fz_ 2)) (Int32.toNatClampNeg 2) (fz_ 0)) (Int32.toNatClampNeg 1) (fz_ 0))))] H := hP
                  have hD : va_D A [(mo, .inr (12, [.ref nw, .ref kp, .ref ik, .ref mr, .long la_, .long lb_, .ref mw, .long lc_, .int ti_, .int cb_, .long ld_, .long le_, .ref mq, .ref mz, .ref my, .int 3, .ref mb, .int bl_, .int ta_, .int tl_, .int tk_, .int vl_, .ref mx, .ref mv])), (mz, .inl (cz_, 6, .inl (upd (upd (upd fz_ (Int32.toNatClampNeg 0) (fz_ 2)) (Int32.toNatClampNeg 2) (fz_ 0)) (Int32.toNatClampNeg 1) (fz_ 0))))] := hD
                  refine lv_aload_n hx hb dX12_nextOrder_137 rfl (lv_at hl 6 rfl) ?_
                  refine va_get (D := (dC, dI)) (ci := 12) (v := .ref mz) (C := RX12) (T := TX12) (N := 24) hx hb hts iw_m_nextOrder_X12 hown hK hP 0 rfl rfl 13 (by decide) (hts (.fieldLink RX12 34 "ThriceCountedModel" "order" "[I") (by decide +kernel)) (fun _ h9 => h9) rfl dX12_nextOrder_138 ?_
                  refine lv_iload hx hb dX12_nextOrder_141 (lv_at hl 1 rfl) ?_
                  refine lv_iload hx hb dX12_nextOrder_143 (lv_at hl 0 rfl) ?_
                  refine va_iast hx hb hK hP hD hS 1 0 rfl rfl (show ¬ ((2 : Int32) < 0 ∨ 6 ≤ (2 : Int32).toNatClampNeg) by decide) dX12_nextOrder_145 (fun H locs hP hD hS => ?_)
                  have hP : va_P (dC, dI) vwCl [(mo, .inr (12, [.ref nw, .ref kp, .ref ik, .ref mr, .long la_, .long lb_, .ref mw, .long lc_, .int ti_, .int cb_, .long ld_, .long le_, .ref mq, .ref mz, .ref my, .int 3, .ref mb, .int bl_, .int ta_, .int tl_, .int tk_, .int vl_, .ref mx, .ref mv])), (mz, .inl (cz_, 6, .inl (upd (upd (upd (upd fz_ (Int32.toNatClampNeg 0) (fz_ 2)) (Int32.toNatClampNeg 2) (fz_ 0)) (Int32.toNatClampNeg 1) (fz_ 0)) (Int32.toNatClampNeg 2) (fz_ 1))))] H := hP
                  have hD : va_D A [(mo, .inr (12, [.ref nw, .ref kp, .ref ik, .ref mr, .long la_, .long lb_, .ref mw, .long lc_, .int ti_, .int cb_, .long ld_, .long le_, .ref mq, .ref mz, .ref my, .int 3, .ref mb, .int bl_, .int ta_, .int tl_, .int tk_, .int vl_, .ref mx, .ref mv])), (mz, .inl (cz_, 6, .inl (upd (upd (upd (upd fz_ (Int32.toNatClampNeg 0) (fz_ 2)) (Int32.toNatClampNeg 2) (fz_ 0)) (Int32.toNatClampNeg 1) (fz_ 0)) (Int32.toNatClampNeg 2) (fz_ 1))))] := hD
                  refine lv_iinc (v := 2) (lv' := [(4, .int 2), (6, .int (fz_ 1)), (5, .int 2), (3, .int (fz_ 0)), (2, .int 2), (1, .int 0), (0, .ref mo)]) hx hb dX12_nextOrder_146 hl (k := 2) rfl (by decide) (by decide) rfl (fun ls hl => ?_)
                  refine lv_iinc (v := 1) (lv' := [(5, .int 1), (4, .int 2), (6, .int (fz_ 1)), (3, .int (fz_ 0)), (2, .int 2), (1, .int 0), (0, .ref mo)]) hx hb dX12_nextOrder_149 hl (k := 2) rfl (by decide) (by decide) rfl (fun ls hl => ?_)
                  refine lv_goto (tgt := 107) hx hb dX12_nextOrder_152 (by decide) ?_
                  refine lv_iload hx hb dX12_nextOrder_107 (lv_at hl 1 rfl) ?_
                  refine lv_iload hx hb dX12_nextOrder_109 (lv_at hl 0 rfl) ?_
                  refine lv_icmp_ge (tgt := 155) hx hb dX12_nextOrder_111 (by decide) (fun c_43 => ?_) (fun c_43 => ?_)
                  · refine lv_iconst (v := 1) hx hb dX12_nextOrder_155 (by decide) ?_
                    have hP9 := hP.sub (ws' := [(mo, .inr (12, [.ref nw, .ref kp, .ref ik, .ref mr, .long la_, .long lb_, .ref mw, .long lc_, .int ti_, .int cb_, .long ld_, .long le_, .ref mq, .ref mz, .ref my, .int (nI 3), .ref mb, .int bl_, .int ta_, .int tl_, .int tk_, .int vl_, .ref mx, .ref mv])), (mz, .inl (cz_, 6, .inl (upd (upd (upd (upd fz_ (Int32.toNatClampNeg 0) (fz_ 2)) (Int32.toNatClampNeg 2) (fz_ 0)) (Int32.toNatClampNeg 1) (fz_ 0)) (Int32.toNatClampNeg 2) (fz_ 1))))]) [0, 1] rfl
                    have hD9 := hD.sub (ws' := [(mo, .inr (12, [.ref nw, .ref kp, .ref ik, .ref mr, .long la_, .long lb_, .ref mw, .long lc_, .int ti_, .int cb_, .long ld_, .long le_, .ref mq, .ref mz, .ref my, .int (nI 3), .ref mb, .int bl_, .int ta_, .int tl_, .int tk_, .int vl_, .ref mx, .ref mv])), (mz, .inl (cz_, 6, .inl (upd (upd (upd (upd fz_ (Int32.toNatClampNeg 0) (fz_ 2)) (Int32.toNatClampNeg 2) (fz_ 0)) (Int32.toNatClampNeg 1) (fz_ 0)) (Int32.toNatClampNeg 2) (fz_ 1))))]) [0, 1] (by decide) rfl
                    have hK9 := hK.sub (tys' := [(cz_, .int)]) [0] rfl
                    have hlt_44 : (fz_ 0).toInt < (fz_ 2).toInt := tz_ltt2 c_37 (hdi.2 0 2 (by omega) (by omega))
                    have hb_45 := hdi.1 0 (by omega)
                    have hb_46 := hdi.1 1 (by omega)
                    have hb_47 := hdi.1 2 (by omega)
                    have ev_48 : tz_val 3 fz_ = 7776 * (fz_ 0).toInt + 1296 * (fz_ 1).toInt + 216 * (fz_ 2).toInt + 36 * 0 + 6 * 0 + 0 := rfl
                    have eg_49 : tz_val 3 (upd (upd (upd (upd fz_ (Int32.toNatClampNeg 0) (fz_ 2)) (Int32.toNatClampNeg 2) (fz_ 0)) (Int32.toNatClampNeg 1) (fz_ 0)) (Int32.toNatClampNeg 2) (fz_ 1)) = 7776 * (fz_ 2).toInt + 1296 * (fz_ 0).toInt + 216 * (fz_ 1).toInt + 36 * 0 + 6 * 0 + 0 := rfl
                    have hp_50 : tz_Di 3 (upd (upd (upd (upd fz_ (Int32.toNatClampNeg 0) (fz_ 2)) (Int32.toNatClampNeg 2) (fz_ 0)) (Int32.toNatClampNeg 1) (fz_ 0)) (Int32.toNatClampNeg 2) (fz_ 1)) := hdi.perm (fun a => ([2, 0, 1] : List Nat).getD a 0) (fun a ha => by
                      rcases (show a = 0 ∨ a = 1 ∨ a = 2 by omega) with rfl | rfl | rfl <;> exact ⟨by decide, rfl⟩) (by decide)
                    exact W.zret (v := 1) hx hb hr (by decide) (fun t ht hW => ⟨⟨1, (), rfl, Or.inr ⟨rfl, 0, by omega, tz_nle_of c_35⟩, (upd (upd (upd (upd fz_ (Int32.toNatClampNeg 0) (fz_ 2)) (Int32.toNatClampNeg 2) (fz_ 0)) (Int32.toNatClampNeg 1) (fz_ 0)) (Int32.toNatClampNeg 2) (fz_ 1)), hp_50, by rw [ev_48, eg_49]; omega, fun _ => by rw [ev_48, eg_49]; omega, by rw [ht]; exact hP9, va_K.moved hW.alike hK9, hD9⟩, hS.F ht⟩) hS.2.2 dX12_nextOrder_156
                  · exact absurd c_43 (by decide)
              · refine lv_iinc (v := 1) (lv' := [(2, .int 1), (1, .int 0), (0, .ref mo)]) hx hb dX12_nextOrder_62 hl (k := 0) rfl (by decide) (by decide) rfl (fun ls hl => ?_)
                refine lv_goto (tgt := 47) hx hb dX12_nextOrder_65 (by decide) ?_
                refine lv_aload_n hx hb dX12_nextOrder_47 rfl (lv_at hl 2 rfl) ?_
                refine va_get (D := (dC, dI)) (ci := 12) (v := .ref mz) (C := RX12) (T := TX12) (N := 24) hx hb hts iw_m_nextOrder_X12 hown hK hP 0 rfl rfl 13 (by decide) (hts (.fieldLink RX12 34 "ThriceCountedModel" "order" "[I") (by decide +kernel)) (fun _ h9 => h9) rfl dX12_nextOrder_48 ?_
                refine lv_iload_n hx hb dX12_nextOrder_51 rfl (lv_at hl 0 rfl) ?_
                refine va_iald hx hb hK hP 1 0 rfl rfl (show ¬ ((1 : Int32) < 0 ∨ 6 ≤ (1 : Int32).toNatClampNeg) by decide) dX12_nextOrder_52 ?_
                refine tz_i (fz_ 1) rfl ?_
                refine lv_aload_n hx hb dX12_nextOrder_53 rfl (lv_at hl 2 rfl) ?_
                refine va_get (D := (dC, dI)) (ci := 12) (v := .ref mz) (C := RX12) (T := TX12) (N := 24) hx hb hts iw_m_nextOrder_X12 hown hK hP 0 rfl rfl 13 (by decide) (hts (.fieldLink RX12 34 "ThriceCountedModel" "order" "[I") (by decide +kernel)) (fun _ h9 => h9) rfl dX12_nextOrder_54 ?_
                refine lv_iload_n hx hb dX12_nextOrder_57 rfl (lv_at hl 1 rfl) ?_
                refine va_iald hx hb hK hP 1 0 rfl rfl (show ¬ ((0 : Int32) < 0 ∨ 6 ≤ (0 : Int32).toNatClampNeg) by decide) dX12_nextOrder_58 ?_
                refine tz_i (fz_ 0) rfl ?_
                refine lv_icmp_ge (tgt := 68) hx hb dX12_nextOrder_59 (by decide) (fun c_51 => ?_) (fun c_51 => ?_)
                · refine lv_aload_n hx hb dX12_nextOrder_68 rfl (lv_at hl 2 rfl) ?_
                  refine va_get (D := (dC, dI)) (ci := 12) (v := .ref mz) (C := RX12) (T := TX12) (N := 24) hx hb hts iw_m_nextOrder_X12 hown hK hP 0 rfl rfl 13 (by decide) (hts (.fieldLink RX12 34 "ThriceCountedModel" "order" "[I") (by decide +kernel)) (fun _ h9 => h9) rfl dX12_nextOrder_69 ?_
                  refine lv_iload_n hx hb dX12_nextOrder_72 rfl (lv_at hl 1 rfl) ?_
                  refine va_iald hx hb hK hP 1 0 rfl rfl (show ¬ ((0 : Int32) < 0 ∨ 6 ≤ (0 : Int32).toNatClampNeg) by decide) dX12_nextOrder_73 ?_
                  refine tz_i (fz_ 0) rfl ?_
                  refine lv_istore_n (lv' := [(3, .int (fz_ 0)), (2, .int 1), (1, .int 0), (0, .ref mo)]) hx hb dX12_nextOrder_74 rfl hl (by decide) rfl (fun ls hl => ?_)
                  refine lv_aload_n hx hb dX12_nextOrder_75 rfl (lv_at hl 3 rfl) ?_
                  refine va_get (D := (dC, dI)) (ci := 12) (v := .ref mz) (C := RX12) (T := TX12) (N := 24) hx hb hts iw_m_nextOrder_X12 hown hK hP 0 rfl rfl 13 (by decide) (hts (.fieldLink RX12 34 "ThriceCountedModel" "order" "[I") (by decide +kernel)) (fun _ h9 => h9) rfl dX12_nextOrder_76 ?_
                  refine lv_iload_n hx hb dX12_nextOrder_79 rfl (lv_at hl 2 rfl) ?_
                  refine lv_aload_n hx hb dX12_nextOrder_80 rfl (lv_at hl 3 rfl) ?_
                  refine va_get (D := (dC, dI)) (ci := 12) (v := .ref mz) (C := RX12) (T := TX12) (N := 24) hx hb hts iw_m_nextOrder_X12 hown hK hP 0 rfl rfl 13 (by decide) (hts (.fieldLink RX12 34 "ThriceCountedModel" "order" "[I") (by decide +kernel)) (fun _ h9 => h9) rfl dX12_nextOrder_81 ?_
                  refine lv_iload_n hx hb dX12_nextOrder_84 rfl (lv_at hl 1 rfl) ?_
                  refine va_iald hx hb hK hP 1 0 rfl rfl (show ¬ ((1 : Int32) < 0 ∨ 6 ≤ (1 : Int32).toNatClampNeg) by decide) dX12_nextOrder_85 ?_
                  refine tz_i (fz_ 1) rfl ?_
                  refine va_iast hx hb hK hP hD hS 1 0 rfl rfl (show ¬ ((0 : Int32) < 0 ∨ 6 ≤ (0 : Int32).toNatClampNeg) by decide) dX12_nextOrder_86 (fun H locs hP hD hS => ?_)
                  have hP : va_P (dC, dI) vwCl [(mo, .inr (12, [.ref nw, .ref kp, .ref ik, .ref mr, .long la_, .long lb_, .ref mw, .long lc_, .int ti_, .int cb_, .long ld_, .long le_, .ref mq, .ref mz, .ref my, .int 3, .ref mb, .int bl_, .int ta_, .int tl_, .int tk_, .int vl_, .ref mx, .ref mv])), (mz, .inl (cz_, 6, .inl (upd fz_ (Int32.toNatClampNeg 0) (fz_ 1))))] H := hP
                  have hD : va_D A [(mo, .inr (12, [.ref nw, .ref kp, .ref ik, .ref mr, .long la_, .long lb_, .ref mw, .long lc_, .int ti_, .int cb_, .long ld_, .long le_, .ref mq, .ref mz, .ref my, .int 3, .ref mb, .int bl_, .int ta_, .int tl_, .int tk_, .int vl_, .ref mx, .ref mv])), (mz, .inl (cz_, 6, .inl (upd fz_ (Int32.toNatClampNeg 0) (fz_ 1))))] := hD
                  refine lv_aload_n hx hb dX12_nextOrder_87 rfl (lv_at hl 3 rfl) ?_
                  refine va_get (D := (dC, dI)) (ci := 12) (v := .ref mz) (C := RX12) (T := TX12) (N := 24) hx hb hts iw_m_nextOrder_X12 hown hK hP 0 rfl rfl 13 (by decide) (hts (.fieldLink RX12 34 "ThriceCountedModel" "order" "[I") (by decide +kernel)) (fun _ h9 => h9) rfl dX12_nextOrder_88 ?_
                  refine lv_iload_n hx hb dX12_nextOrder_91 rfl (lv_at hl 1 rfl) ?_
                  refine lv_iload_n hx hb dX12_nextOrder_92 rfl (lv_at hl 0 rfl) ?_
                  refine va_iast hx hb hK hP hD hS 1 0 rfl rfl (show ¬ ((1 : Int32) < 0 ∨ 6 ≤ (1 : Int32).toNatClampNeg) by decide) dX12_nextOrder_93 (fun H locs hP hD hS => ?_)
                  have hP : va_P (dC, dI) vwCl [(mo, .inr (12, [.ref nw, .ref kp, .ref ik, .ref mr, .long la_, .long lb_, .ref mw, .long lc_, .int ti_, .int cb_, .long ld_, .long le_, .ref mq, .ref mz, .ref my, .int 3, .ref mb, .int bl_, .int ta_, .int tl_, .int tk_, .int vl_, .ref mx, .ref mv])), (mz, .inl (cz_, 6, .inl (upd (upd fz_ (Int32.toNatClampNeg 0) (fz_ 1)) (Int32.toNatClampNeg 1) (fz_ 0))))] H := hP
                  have hD : va_D A [(mo, .inr (12, [.ref nw, .ref kp, .ref ik, .ref mr, .long la_, .long lb_, .ref mw, .long lc_, .int ti_, .int cb_, .long ld_, .long le_, .ref mq, .ref mz, .ref my, .int 3, .ref mb, .int bl_, .int ta_, .int tl_, .int tk_, .int vl_, .ref mx, .ref mv])), (mz, .inl (cz_, 6, .inl (upd (upd fz_ (Int32.toNatClampNeg 0) (fz_ 1)) (Int32.toNatClampNeg 1) (fz_ 0))))] := hD
                  refine lv_iload_n hx hb dX12_nextOrder_94 rfl (lv_at hl 2 rfl) ?_
                  refine lv_iconst (v := 1) hx hb dX12_nextOrder_95 (by decide) ?_
                  refine lv_iadd hx hb dX12_nextOrder_96 ?_
                  refine tz_i 1 (by decide) ?_
                  refine lv_istore (lv' := [(4, .int 1), (3, .int (fz_ 0)), (2, .int 1), (1, .int 0), (0, .ref mo)]) hx hb dX12_nextOrder_97 hl (by decide) rfl (fun ls hl => ?_)
                  refine lv_aload_n hx hb dX12_nextOrder_99 rfl (lv_at hl 4 rfl) ?_
                  refine va_get (D := (dC, dI)) (ci := 12) (v := .int 3) (C := RX12) (T := TX12) (N := 24) hx hb hts iw_m_nextOrder_X12 hown hK hP 0 rfl rfl 15 (by decide) (hts (.fieldLink RX12 218 "ThriceCountedModel" "soughtMany" "I") (by decide +kernel)) (fun _ h9 => h9) rfl dX12_nextOrder_100 ?_
                  refine lv_iconst (v := 1) hx hb dX12_nextOrder_103 (by decide) ?_
                  refine lv_isub hx hb dX12_nextOrder_104 ?_
                  refine tz_i 2 (by decide) ?_
                  refine lv_istore (lv' := [(5, .int 2), (4, .int 1), (3, .int (fz_ 0)), (2, .int 1), (1, .int 0), (0, .ref mo)]) hx hb dX12_nextOrder_105 hl (by decide) rfl (fun ls hl => ?_)
                  refine lv_iload hx hb dX12_nextOrder_107 (lv_at hl 1 rfl) ?_
                  refine lv_iload hx hb dX12_nextOrder_109 (lv_at hl 0 rfl) ?_
                  refine lv_icmp_ge (tgt := 155) hx hb dX12_nextOrder_111 (by decide) (fun c_54 => ?_) (fun c_54 => ?_)
                  · exact absurd c_54 (by decide)
                  · refine lv_aload_n hx hb dX12_nextOrder_114 rfl (lv_at hl 5 rfl) ?_
                    refine va_get (D := (dC, dI)) (ci := 12) (v := .ref mz) (C := RX12) (T := TX12) (N := 24) hx hb hts iw_m_nextOrder_X12 hown hK hP 0 rfl rfl 13 (by decide) (hts (.fieldLink RX12 34 "ThriceCountedModel" "order" "[I") (by decide +kernel)) (fun _ h9 => h9) rfl dX12_nextOrder_115 ?_
                    refine lv_iload hx hb dX12_nextOrder_118 (lv_at hl 1 rfl) ?_
                    refine va_iald hx hb hK hP 1 0 rfl rfl (show ¬ ((1 : Int32) < 0 ∨ 6 ≤ (1 : Int32).toNatClampNeg) by decide) dX12_nextOrder_120 ?_
                    refine tz_i (fz_ 0) rfl ?_
                    refine lv_istore (lv' := [(6, .int (fz_ 0)), (5, .int 2), (4, .int 1), (3, .int (fz_ 0)), (2, .int 1), (1, .int 0), (0, .ref mo)]) hx hb dX12_nextOrder_121 hl (by decide) rfl (fun ls hl => ?_)
                    refine lv_aload_n hx hb dX12_nextOrder_123 rfl (lv_at hl 6 rfl) ?_
                    refine va_get (D := (dC, dI)) (ci := 12) (v := .ref mz) (C := RX12) (T := TX12) (N := 24) hx hb hts iw_m_nextOrder_X12 hown hK hP 0 rfl rfl 13 (by decide) (hts (.fieldLink RX12 34 "ThriceCountedModel" "order" "[I") (by decide +kernel)) (fun _ h9 => h9) rfl dX12_nextOrder_124 ?_
                    refine lv_iload hx hb dX12_nextOrder_127 (lv_at hl 2 rfl) ?_
                    refine lv_aload_n hx hb dX12_nextOrder_129 rfl (lv_at hl 6 rfl) ?_
                    refine va_get (D := (dC, dI)) (ci := 12) (v := .ref mz) (C := RX12) (T := TX12) (N := 24) hx hb hts iw_m_nextOrder_X12 hown hK hP 0 rfl rfl 13 (by decide) (hts (.fieldLink RX12 34 "ThriceCountedModel" "order" "[I") (by decide +kernel)) (fun _ h9 => h9) rfl dX12_nextOrder_130 ?_
                    refine lv_iload hx hb dX12_nextOrder_133 (lv_at hl 1 rfl) ?_
                    refine va_iald hx hb hK hP 1 0 rfl rfl (show ¬ ((2 : Int32) < 0 ∨ 6 ≤ (2 : Int32).toNatClampNeg) by decide) dX12_nextOrder_135 ?_
                    refine tz_i (fz_ 2) rfl ?_
                    refine va_iast hx hb hK hP hD hS 1 0 rfl rfl (show ¬ ((1 : Int32) < 0 ∨ 6 ≤ (1 : Int32).toNatClampNeg) by decide) dX12_nextOrder_136 (fun H locs hP hD hS => ?_)
                    have hP : va_P (dC, dI) vwCl [(mo, .inr (12, [.ref nw, .ref kp, .ref ik, .ref mr, .long la_, .long lb_, .ref mw, .long lc_, .int ti_, .int cb_, .long ld_, .long le_, .ref mq, .ref mz, .ref my, .int 3, .ref mb, .int bl_, .int ta_, .int tl_, .int tk_, .int vl_, .ref mx, .ref mv])), (mz, .inl (cz_, 6, .inl (upd (upd (upd fz_ (Int32.toNatClampNeg 0) (fz_ 1)) (Int32.toNatClampNeg 1) (fz_ 0)) (Int32.toNatClampNeg 1) (fz_ 2))))] H := hP
                    have hD : va_D A [(mo, .inr (12, [.ref nw, .ref kp, .ref ik, .ref mr, .long la_, .long lb_, .ref mw, .long lc_, .int ti_, .int cb_, .long ld_, .long le_, .ref mq, .ref mz, .ref my, .int 3, .ref mb, .int bl_, .int ta_, .int tl_, .int tk_, .int vl_, .ref mx, .ref mv])), (mz, .inl (cz_, 6, .inl (upd (upd (upd fz_ (Int32.toNatClampNeg 0) (fz_ 1)) (Int32.toNatClampNeg 1) (fz_ 0)) (Int32.toNatClampNeg 1) (fz_ 2))))] := hD
                    refine lv_aload_n hx hb dX12_nextOrder_137 rfl (lv_at hl 6 rfl) ?_
                    refine va_get (D := (dC, dI)) (ci := 12) (v := .ref mz) (C := RX12) (T := TX12) (N := 24) hx hb hts iw_m_nextOrder_X12 hown hK hP 0 rfl rfl 13 (by decide) (hts (.fieldLink RX12 34 "ThriceCountedModel" "order" "[I") (by decide +kernel)) (fun _ h9 => h9) rfl dX12_nextOrder_138 ?_
                    refine lv_iload hx hb dX12_nextOrder_141 (lv_at hl 1 rfl) ?_
                    refine lv_iload hx hb dX12_nextOrder_143 (lv_at hl 0 rfl) ?_
                    refine va_iast hx hb hK hP hD hS 1 0 rfl rfl (show ¬ ((2 : Int32) < 0 ∨ 6 ≤ (2 : Int32).toNatClampNeg) by decide) dX12_nextOrder_145 (fun H locs hP hD hS => ?_)
                    have hP : va_P (dC, dI) vwCl [(mo, .inr (12, [.ref nw, .ref kp, .ref ik, .ref mr, .long la_, .long lb_, .ref mw, .long lc_, .int ti_, .int cb_, .long ld_, .long le_, .ref mq, .ref mz, .ref my, .int 3, .ref mb, .int bl_, .int ta_, .int tl_, .int tk_, .int vl_, .ref mx, .ref mv])), (mz, .inl (cz_, 6, .inl (upd (upd (upd (upd fz_ (Int32.toNatClampNeg 0) (fz_ 1)) (Int32.toNatClampNeg 1) (fz_ 0)) (Int32.toNatClampNeg 1) (fz_ 2)) (Int32.toNatClampNeg 2) (fz_ 0))))] H := hP
                    have hD : va_D A [(mo, .inr (12, [.ref nw, .ref kp, .ref ik, .ref mr, .long la_, .long lb_, .ref mw, .long lc_, .int ti_, .int cb_, .long ld_, .long le_, .ref mq, .ref mz, .ref my, .int 3, .ref mb, .int bl_, .int ta_, .int tl_, .int tk_, .int vl_, .ref mx, .ref mv])), (mz, .inl (cz_, 6, .inl (upd (upd (upd (upd fz_ (Int32.toNatClampNeg 0) (fz_ 1)) (Int32.toNatClampNeg 1) (fz_ 0)) (Int32.toNatClampNeg 1) (fz_ 2)) (Int32.toNatClampNeg 2) (fz_ 0))))] := hD
                    refine lv_iinc (v := 2) (lv' := [(4, .int 2), (6, .int (fz_ 0)), (5, .int 2), (3, .int (fz_ 0)), (2, .int 1), (1, .int 0), (0, .ref mo)]) hx hb dX12_nextOrder_146 hl (k := 2) rfl (by decide) (by decide) rfl (fun ls hl => ?_)
                    refine lv_iinc (v := 1) (lv' := [(5, .int 1), (4, .int 2), (6, .int (fz_ 0)), (3, .int (fz_ 0)), (2, .int 1), (1, .int 0), (0, .ref mo)]) hx hb dX12_nextOrder_149 hl (k := 2) rfl (by decide) (by decide) rfl (fun ls hl => ?_)
                    refine lv_goto (tgt := 107) hx hb dX12_nextOrder_152 (by decide) ?_
                    refine lv_iload hx hb dX12_nextOrder_107 (lv_at hl 1 rfl) ?_
                    refine lv_iload hx hb dX12_nextOrder_109 (lv_at hl 0 rfl) ?_
                    refine lv_icmp_ge (tgt := 155) hx hb dX12_nextOrder_111 (by decide) (fun c_57 => ?_) (fun c_57 => ?_)
                    · refine lv_iconst (v := 1) hx hb dX12_nextOrder_155 (by decide) ?_
                      have hP9 := hP.sub (ws' := [(mo, .inr (12, [.ref nw, .ref kp, .ref ik, .ref mr, .long la_, .long lb_, .ref mw, .long lc_, .int ti_, .int cb_, .long ld_, .long le_, .ref mq, .ref mz, .ref my, .int (nI 3), .ref mb, .int bl_, .int ta_, .int tl_, .int tk_, .int vl_, .ref mx, .ref mv])), (mz, .inl (cz_, 6, .inl (upd (upd (upd (upd fz_ (Int32.toNatClampNeg 0) (fz_ 1)) (Int32.toNatClampNeg 1) (fz_ 0)) (Int32.toNatClampNeg 1) (fz_ 2)) (Int32.toNatClampNeg 2) (fz_ 0))))]) [0, 1] rfl
                      have hD9 := hD.sub (ws' := [(mo, .inr (12, [.ref nw, .ref kp, .ref ik, .ref mr, .long la_, .long lb_, .ref mw, .long lc_, .int ti_, .int cb_, .long ld_, .long le_, .ref mq, .ref mz, .ref my, .int (nI 3), .ref mb, .int bl_, .int ta_, .int tl_, .int tk_, .int vl_, .ref mx, .ref mv])), (mz, .inl (cz_, 6, .inl (upd (upd (upd (upd fz_ (Int32.toNatClampNeg 0) (fz_ 1)) (Int32.toNatClampNeg 1) (fz_ 0)) (Int32.toNatClampNeg 1) (fz_ 2)) (Int32.toNatClampNeg 2) (fz_ 0))))]) [0, 1] (by decide) rfl
                      have hK9 := hK.sub (tys' := [(cz_, .int)]) [0] rfl
                      have hlt_58 : (fz_ 0).toInt < (fz_ 1).toInt := tz_ltt2 c_51 (hdi.2 0 1 (by omega) (by omega))
                      have hb_59 := hdi.1 0 (by omega)
                      have hb_60 := hdi.1 1 (by omega)
                      have hb_61 := hdi.1 2 (by omega)
                      have ev_62 : tz_val 3 fz_ = 7776 * (fz_ 0).toInt + 1296 * (fz_ 1).toInt + 216 * (fz_ 2).toInt + 36 * 0 + 6 * 0 + 0 := rfl
                      have eg_63 : tz_val 3 (upd (upd (upd (upd fz_ (Int32.toNatClampNeg 0) (fz_ 1)) (Int32.toNatClampNeg 1) (fz_ 0)) (Int32.toNatClampNeg 1) (fz_ 2)) (Int32.toNatClampNeg 2) (fz_ 0)) = 7776 * (fz_ 1).toInt + 1296 * (fz_ 2).toInt + 216 * (fz_ 0).toInt + 36 * 0 + 6 * 0 + 0 := rfl
                      have hp_64 : tz_Di 3 (upd (upd (upd (upd fz_ (Int32.toNatClampNeg 0) (fz_ 1)) (Int32.toNatClampNeg 1) (fz_ 0)) (Int32.toNatClampNeg 1) (fz_ 2)) (Int32.toNatClampNeg 2) (fz_ 0)) := hdi.perm (fun a => ([1, 2, 0] : List Nat).getD a 0) (fun a ha => by
                        rcases (show a = 0 ∨ a = 1 ∨ a = 2 by omega) with rfl | rfl | rfl <;> exact ⟨by decide, rfl⟩) (by decide)
                      exact W.zret (v := 1) hx hb hr (by decide) (fun t ht hW => ⟨⟨1, (), rfl, Or.inr ⟨rfl, 0, by omega, tz_nle_of c_51⟩, (upd (upd (upd (upd fz_ (Int32.toNatClampNeg 0) (fz_ 1)) (Int32.toNatClampNeg 1) (fz_ 0)) (Int32.toNatClampNeg 1) (fz_ 2)) (Int32.toNatClampNeg 2) (fz_ 0)), hp_64, by rw [ev_62, eg_63]; omega, fun _ => by rw [ev_62, eg_63]; omega, by rw [ht]; exact hP9, va_K.moved hW.alike hK9, hD9⟩, hS.F ht⟩) hS.2.2 dX12_nextOrder_156
                    · exact absurd c_57 (by decide)
                · exact absurd c_35 c_51
            · exact absurd c_36 (by decide)
          · refine lv_iinc (v := (-1)) (lv' := [(1, .int (-1)), (0, .ref mo)]) hx hb dX12_nextOrder_28 hl (k := 0) rfl (by decide) (by decide) rfl (fun ls hl => ?_)
            refine lv_goto (tgt := 7) hx hb dX12_nextOrder_31 (by decide) ?_
            refine lv_iload_n hx hb dX12_nextOrder_7 rfl (lv_at hl 0 rfl) ?_
            refine lv_if_lt (tgt := 34) hx hb dX12_nextOrder_8 (by decide) (fun c_65 => ?_) (fun c_65 => ?_)
            · refine lv_iload_n hx hb dX12_nextOrder_34 rfl (lv_at hl 0 rfl) ?_
              refine lv_if_ge (tgt := 40) hx hb dX12_nextOrder_35 (by decide) (fun c_66 => ?_) (fun c_66 => ?_)
              · exact absurd c_66 (by decide)
              · refine lv_iconst (v := 0) hx hb dX12_nextOrder_38 (by decide) ?_
                have hP9 := hP.sub (ws' := [(mo, .inr (12, [.ref nw, .ref kp, .ref ik, .ref mr, .long la_, .long lb_, .ref mw, .long lc_, .int ti_, .int cb_, .long ld_, .long le_, .ref mq, .ref mz, .ref my, .int (nI 3), .ref mb, .int bl_, .int ta_, .int tl_, .int tk_, .int vl_, .ref mx, .ref mv])), (mz, .inl (cz_, 6, .inl fz_))]) [0, 1] rfl
                have hD9 := hD.sub (ws' := [(mo, .inr (12, [.ref nw, .ref kp, .ref ik, .ref mr, .long la_, .long lb_, .ref mw, .long lc_, .int ti_, .int cb_, .long ld_, .long le_, .ref mq, .ref mz, .ref my, .int (nI 3), .ref mb, .int bl_, .int ta_, .int tl_, .int tk_, .int vl_, .ref mx, .ref mv])), (mz, .inl (cz_, 6, .inl fz_))]) [0, 1] (by decide) rfl
                have hK9 := hK.sub (tys' := [(cz_, .int)]) [0] rfl
                exact W.zret (v := 0) hx hb hr (by decide) (fun t ht hW => ⟨⟨0, (), rfl, Or.inl rfl, fz_, hdi, Int.le_refl _, fun ⟨k, hk, hle⟩ => by
                    rcases (show k = 0 ∨ k = 1 by omega) with rfl | rfl
                    · exact (hle (tz_gt_of c_35)).elim
                    · exact (hle (tz_gt_of c_21)).elim, by rw [ht]; exact hP9, va_K.moved hW.alike hK9, hD9⟩, hS.F ht⟩) hS.2.2 dX12_nextOrder_39
            · exact absurd c_65 (by decide)
  · have hP : va_P (dC, dI) vwCl [(mo, .inr (12, [.ref nw, .ref kp, .ref ik, .ref mr, .long la_, .long lb_, .ref mw, .long lc_, .int ti_, .int cb_, .long ld_, .long le_, .ref mq, .ref mz, .ref my, .int 4, .ref mb, .int bl_, .int ta_, .int tl_, .int tk_, .int vl_, .ref mx, .ref mv])), (mz, .inl (cz_, 6, .inl fz_))] s.heap := hP
    have hD : va_D A [(mo, .inr (12, [.ref nw, .ref kp, .ref ik, .ref mr, .long la_, .long lb_, .ref mw, .long lc_, .int ti_, .int cb_, .long ld_, .long le_, .ref mq, .ref mz, .ref my, .int 4, .ref mb, .int bl_, .int ta_, .int tl_, .int tk_, .int vl_, .ref mx, .ref mv])), (mz, .inl (cz_, 6, .inl fz_))] := hD
    refine lv_aload_n hx hb dX12_nextOrder_0 rfl (lv_at hl 0 rfl) ?_
    refine va_get (D := (dC, dI)) (ci := 12) (v := .int 4) (C := RX12) (T := TX12) (N := 24) hx hb hts iw_m_nextOrder_X12 hown hK hP 0 rfl rfl 15 (by decide) (hts (.fieldLink RX12 218 "ThriceCountedModel" "soughtMany" "I") (by decide +kernel)) (fun _ h9 => h9) rfl dX12_nextOrder_1 ?_
    refine lv_iconst (v := 2) hx hb dX12_nextOrder_4 (by decide) ?_
    refine lv_isub hx hb dX12_nextOrder_5 ?_
    refine tz_i 2 (by decide) ?_
    refine lv_istore_n (lv' := [(1, .int 2), (0, .ref mo)]) hx hb dX12_nextOrder_6 rfl hl (by decide) rfl (fun ls hl => ?_)
    refine lv_iload_n hx hb dX12_nextOrder_7 rfl (lv_at hl 0 rfl) ?_
    refine lv_if_lt (tgt := 34) hx hb dX12_nextOrder_8 (by decide) (fun c_67 => ?_) (fun c_67 => ?_)
    · exact absurd c_67 (by decide)
    · refine lv_aload_n hx hb dX12_nextOrder_11 rfl (lv_at hl 1 rfl) ?_
      refine va_get (D := (dC, dI)) (ci := 12) (v := .ref mz) (C := RX12) (T := TX12) (N := 24) hx hb hts iw_m_nextOrder_X12 hown hK hP 0 rfl rfl 13 (by decide) (hts (.fieldLink RX12 34 "ThriceCountedModel" "order" "[I") (by decide +kernel)) (fun _ h9 => h9) rfl dX12_nextOrder_12 ?_
      refine lv_iload_n hx hb dX12_nextOrder_15 rfl (lv_at hl 0 rfl) ?_
      refine va_iald hx hb hK hP 1 0 rfl rfl (show ¬ ((2 : Int32) < 0 ∨ 6 ≤ (2 : Int32).toNatClampNeg) by decide) dX12_nextOrder_16 ?_
      refine tz_i (fz_ 2) rfl ?_
      refine lv_aload_n hx hb dX12_nextOrder_17 rfl (lv_at hl 1 rfl) ?_
      refine va_get (D := (dC, dI)) (ci := 12) (v := .ref mz) (C := RX12) (T := TX12) (N := 24) hx hb hts iw_m_nextOrder_X12 hown hK hP 0 rfl rfl 13 (by decide) (hts (.fieldLink RX12 34 "ThriceCountedModel" "order" "[I") (by decide +kernel)) (fun _ h9 => h9) rfl dX12_nextOrder_18 ?_
      refine lv_iload_n hx hb dX12_nextOrder_21 rfl (lv_at hl 0 rfl) ?_
      refine lv_iconst (v := 1) hx hb dX12_nextOrder_22 (by decide) ?_
      refine lv_iadd hx hb dX12_nextOrder_23 ?_
      refine tz_i 3 (by decide) ?_
      refine va_iald hx hb hK hP 1 0 rfl rfl (show ¬ ((3 : Int32) < 0 ∨ 6 ≤ (3 : Int32).toNatClampNeg) by decide) dX12_nextOrder_24 ?_
      refine tz_i (fz_ 3) rfl ?_
      refine lv_icmp_le (tgt := 34) hx hb dX12_nextOrder_25 (by decide) (fun c_68 => ?_) (fun c_68 => ?_)
      · refine lv_iload_n hx hb dX12_nextOrder_34 rfl (lv_at hl 0 rfl) ?_
        refine lv_if_ge (tgt := 40) hx hb dX12_nextOrder_35 (by decide) (fun c_69 => ?_) (fun c_69 => ?_)
        · refine lv_aload_n hx hb dX12_nextOrder_40 rfl (lv_at hl 1 rfl) ?_
          refine va_get (D := (dC, dI)) (ci := 12) (v := .int 4) (C := RX12) (T := TX12) (N := 24) hx hb hts iw_m_nextOrder_X12 hown hK hP 0 rfl rfl 15 (by decide) (hts (.fieldLink RX12 218 "ThriceCountedModel" "soughtMany" "I") (by decide +kernel)) (fun _ h9 => h9) rfl dX12_nextOrder_41 ?_
          refine lv_iconst (v := 1) hx hb dX12_nextOrder_44 (by decide) ?_
          refine lv_isub hx hb dX12_nextOrder_45 ?_
          refine tz_i 3 (by decide) ?_
          refine lv_istore_n (lv' := [(2, .int 3), (1, .int 2), (0, .ref mo)]) hx hb dX12_nextOrder_46 rfl hl (by decide) rfl (fun ls hl => ?_)
          refine lv_aload_n hx hb dX12_nextOrder_47 rfl (lv_at hl 2 rfl) ?_
          refine va_get (D := (dC, dI)) (ci := 12) (v := .ref mz) (C := RX12) (T := TX12) (N := 24) hx hb hts iw_m_nextOrder_X12 hown hK hP 0 rfl rfl 13 (by decide) (hts (.fieldLink RX12 34 "ThriceCountedModel" "order" "[I") (by decide +kernel)) (fun _ h9 => h9) rfl dX12_nextOrder_48 ?_
          refine lv_iload_n hx hb dX12_nextOrder_51 rfl (lv_at hl 0 rfl) ?_
          refine va_iald hx hb hK hP 1 0 rfl rfl (show ¬ ((3 : Int32) < 0 ∨ 6 ≤ (3 : Int32).toNatClampNeg) by decide) dX12_nextOrder_52 ?_
          refine tz_i (fz_ 3) rfl ?_
          refine lv_aload_n hx hb dX12_nextOrder_53 rfl (lv_at hl 2 rfl) ?_
          refine va_get (D := (dC, dI)) (ci := 12) (v := .ref mz) (C := RX12) (T := TX12) (N := 24) hx hb hts iw_m_nextOrder_X12 hown hK hP 0 rfl rfl 13 (by decide) (hts (.fieldLink RX12 34 "ThriceCountedModel" "order" "[I") (by decide +kernel)) (fun _ h9 => h9) rfl dX12_nextOrder_54 ?_
          refine lv_iload_n hx hb dX12_nextOrder_57 rfl (lv_at hl 1 rfl) ?_
          refine va_iald hx hb hK hP 1 0 rfl rfl (show ¬ ((2 : Int32) < 0 ∨ 6 ≤ (2 : Int32).toNatClampNeg) by decide) dX12_nextOrder_58 ?_
          refine tz_i (fz_ 2) rfl ?_
          refine lv_icmp_ge (tgt := 68) hx hb dX12_nextOrder_59 (by decide) (fun c_70 => ?_) (fun c_70 => ?_)
          · refine lv_aload_n hx hb dX12_nextOrder_68 rfl (lv_at hl 2 rfl) ?_
            refine va_get (D := (dC, dI)) (ci := 12) (v := .ref mz) (C := RX12) (T := TX12) (N := 24) hx hb hts iw_m_nextOrder_X12 hown hK hP 0 rfl rfl 13 (by decide) (hts (.fieldLink RX12 34 "ThriceCountedModel" "order" "[I") (by decide +kernel)) (fun _ h9 => h9) rfl dX12_nextOrder_69 ?_
            refine lv_iload_n hx hb dX12_nextOrder_72 rfl (lv_at hl 1 rfl) ?_
            refine va_iald hx hb hK hP 1 0 rfl rfl (show ¬ ((2 : Int32) < 0 ∨ 6 ≤ (2 : Int32).toNatClampNeg) by decide) dX12_nextOrder_73 ?_
            refine tz_i (fz_ 2) rfl ?_
            refine lv_istore_n (lv' := [(3, .int (fz_ 2)), (2, .int 3), (1, .int 2), (0, .ref mo)]) hx hb dX12_nextOrder_74 rfl hl (by decide) rfl (fun ls hl => ?_)
            refine lv_aload_n hx hb dX12_nextOrder_75 rfl (lv_at hl 3 rfl) ?_
            refine va_get (D := (dC, dI)) (ci := 12) (v := .ref mz) (C := RX12) (T := TX12) (N := 24) hx hb hts iw_m_nextOrder_X12 hown hK hP 0 rfl rfl 13 (by decide) (hts (.fieldLink RX12 34 "ThriceCountedModel" "order" "[I") (by decide +kernel)) (fun _ h9 => h9) rfl dX12_nextOrder_76 ?_
            refine lv_iload_n hx hb dX12_nextOrder_79 rfl (lv_at hl 2 rfl) ?_
            refine lv_aload_n hx hb dX12_nextOrder_80 rfl (lv_at hl 3 rfl) ?_
            refine va_get (D := (dC, dI)) (ci := 12) (v := .ref mz) (C := RX12) (T := TX12) (N := 24) hx hb hts iw_m_nextOrder_X12 hown hK hP 0 rfl rfl 13 (by decide) (hts (.fieldLink RX12 34 "ThriceCountedModel" "order" "[I") (by decide +kernel)) (fun _ h9 => h9) rfl dX12_nextOrder_81 ?_
            refine lv_iload_n hx hb dX12_nextOrder_84 rfl (lv_at hl 1 rfl) ?_
            refine va_iald hx hb hK hP 1 0 rfl rfl (show ¬ ((3 : Int32) < 0 ∨ 6 ≤ (3 : Int32).toNatClampNeg) by decide) dX12_nextOrder_85 ?_
            refine tz_i (fz_ 3) rfl ?_
            refine va_iast hx hb hK hP hD hS 1 0 rfl rfl (show ¬ ((2 : Int32) < 0 ∨ 6 ≤ (2 : Int32).toNatClampNeg) by decide) dX12_nextOrder_86 (fun H locs hP hD hS => ?_)
            have hP : va_P (dC, dI) vwCl [(mo, .inr (12, [.ref nw, .ref kp, .ref ik, .ref mr, .long la_, .long lb_, .ref mw, .long lc_, .int ti_, .int cb_, .long ld_, .long le_, .ref mq, .ref mz, .ref my, .int 4, .ref mb, .int bl_, .int ta_, .int tl_, .int tk_, .int vl_, .ref mx, .ref mv])), (mz, .inl (cz_, 6, .inl (upd fz_ (Int32.toNatClampNeg 2) (fz_ 3))))] H := hP
            have hD : va_D A [(mo, .inr (12, [.ref nw, .ref kp, .ref ik, .ref mr, .long la_, .long lb_, .ref mw, .long lc_, .int ti_, .int cb_, .long ld_, .long le_, .ref mq, .ref mz, .ref my, .int 4, .ref mb, .int bl_, .int ta_, .int tl_, .int tk_, .int vl_, .ref mx, .ref mv])), (mz, .inl (cz_, 6, .inl (upd fz_ (Int32.toNatClampNeg 2) (fz_ 3))))] := hD
            refine lv_aload_n hx hb dX12_nextOrder_87 rfl (lv_at hl 3 rfl) ?_
            refine va_get (D := (dC, dI)) (ci := 12) (v := .ref mz) (C := RX12) (T := TX12) (N := 24) hx hb hts iw_m_nextOrder_X12 hown hK hP 0 rfl rfl 13 (by decide) (hts (.fieldLink RX12 34 "ThriceCountedModel" "order" "[I") (by decide +kernel)) (fun _ h9 => h9) rfl dX12_nextOrder_88 ?_
            refine lv_iload_n hx hb dX12_nextOrder_91 rfl (lv_at hl 1 rfl) ?_
            refine lv_iload_n hx hb dX12_nextOrder_92 rfl (lv_at hl 0 rfl) ?_
            refine va_iast hx hb hK hP hD hS 1 0 rfl rfl (show ¬ ((3 : Int32) < 0 ∨ 6 ≤ (3 : Int32).toNatClampNeg) by decide) dX12_nextOrder_93 (fun H locs hP hD hS => ?_)
            have hP : va_P (dC, dI) vwCl [(mo, .inr (12, [.ref nw, .ref kp, .ref ik, .ref mr, .long la_, .long lb_, .ref mw, .long lc_, .int ti_, .int cb_, .long ld_, .long le_, .ref mq, .ref mz, .ref my, .int 4, .ref mb, .int bl_, .int ta_, .int tl_, .int tk_, .int vl_, .ref mx, .ref mv])), (mz, .inl (cz_, 6, .inl (upd (upd fz_ (Int32.toNatClampNeg 2) (fz_ 3)) (Int32.toNatClampNeg 3) (fz_ 2))))] H := hP
            have hD : va_D A [(mo, .inr (12, [.ref nw, .ref kp, .ref ik, .ref mr, .long la_, .long lb_, .ref mw, .long lc_, .int ti_, .int cb_, .long ld_, .long le_, .ref mq, .ref mz, .ref my, .int 4, .ref mb, .int bl_, .int ta_, .int tl_, .int tk_, .int vl_, .ref mx, .ref mv])), (mz, .inl (cz_, 6, .inl (upd (upd fz_ (Int32.toNatClampNeg 2) (fz_ 3)) (Int32.toNatClampNeg 3) (fz_ 2))))] := hD
            refine lv_iload_n hx hb dX12_nextOrder_94 rfl (lv_at hl 2 rfl) ?_
            refine lv_iconst (v := 1) hx hb dX12_nextOrder_95 (by decide) ?_
            refine lv_iadd hx hb dX12_nextOrder_96 ?_
            refine tz_i 3 (by decide) ?_
            refine lv_istore (lv' := [(4, .int 3), (3, .int (fz_ 2)), (2, .int 3), (1, .int 2), (0, .ref mo)]) hx hb dX12_nextOrder_97 hl (by decide) rfl (fun ls hl => ?_)
            refine lv_aload_n hx hb dX12_nextOrder_99 rfl (lv_at hl 4 rfl) ?_
            refine va_get (D := (dC, dI)) (ci := 12) (v := .int 4) (C := RX12) (T := TX12) (N := 24) hx hb hts iw_m_nextOrder_X12 hown hK hP 0 rfl rfl 15 (by decide) (hts (.fieldLink RX12 218 "ThriceCountedModel" "soughtMany" "I") (by decide +kernel)) (fun _ h9 => h9) rfl dX12_nextOrder_100 ?_
            refine lv_iconst (v := 1) hx hb dX12_nextOrder_103 (by decide) ?_
            refine lv_isub hx hb dX12_nextOrder_104 ?_
            refine tz_i 3 (by decide) ?_
            refine lv_istore (lv' := [(5, .int 3), (4, .int 3), (3, .int (fz_ 2)), (2, .int 3), (1, .int 2), (0, .ref mo)]) hx hb dX12_nextOrder_105 hl (by decide) rfl (fun ls hl => ?_)
            refine lv_iload hx hb dX12_nextOrder_107 (lv_at hl 1 rfl) ?_
            refine lv_iload hx hb dX12_nextOrder_109 (lv_at hl 0 rfl) ?_
            refine lv_icmp_ge (tgt := 155) hx hb dX12_nextOrder_111 (by decide) (fun c_73 => ?_) (fun c_73 => ?_)
            · refine lv_iconst (v := 1) hx hb dX12_nextOrder_155 (by decide) ?_
              have hP9 := hP.sub (ws' := [(mo, .inr (12, [.ref nw, .ref kp, .ref ik, .ref mr, .long la_, .long lb_, .ref mw, .long lc_, .int ti_, .int cb_, .long ld_, .long le_, .ref mq, .ref mz, .ref my, .int (nI 4), .ref mb, .int bl_, .int ta_, .int tl_, .int tk_, .int vl_, .ref mx, .ref mv])), (mz, .inl (cz_, 6, .inl (upd (upd fz_ (Int32.toNatClampNeg 2) (fz_ 3)) (Int32.toNatClampNeg 3) (fz_ 2))))]) [0, 1] rfl
              have hD9 := hD.sub (ws' := [(mo, .inr (12, [.ref nw, .ref kp, .ref ik, .ref mr, .long la_, .long lb_, .ref mw, .long lc_, .int ti_, .int cb_, .long ld_, .long le_, .ref mq, .ref mz, .ref my, .int (nI 4), .ref mb, .int bl_, .int ta_, .int tl_, .int tk_, .int vl_, .ref mx, .ref mv])), (mz, .inl (cz_, 6, .inl (upd (upd fz_ (Int32.toNatClampNeg 2) (fz_ 3)) (Int32.toNatClampNeg 3) (fz_ 2))))]) [0, 1] (by decide) rfl
              have hK9 := hK.sub (tys' := [(cz_, .int)]) [0] rfl
              have hlt_74 : (fz_ 2).toInt < (fz_ 3).toInt := tz_ltt2 c_70 (hdi.2 2 3 (by omega) (by omega))
              have hb_75 := hdi.1 0 (by omega)
              have hb_76 := hdi.1 1 (by omega)
              have hb_77 := hdi.1 2 (by omega)
              have hb_78 := hdi.1 3 (by omega)
              have ev_79 : tz_val 4 fz_ = 7776 * (fz_ 0).toInt + 1296 * (fz_ 1).toInt + 216 * (fz_ 2).toInt + 36 * (fz_ 3).toInt + 6 * 0 + 0 := rfl
              have eg_80 : tz_val 4 (upd (upd fz_ (Int32.toNatClampNeg 2) (fz_ 3)) (Int32.toNatClampNeg 3) (fz_ 2)) = 7776 * (fz_ 0).toInt + 1296 * (fz_ 1).toInt + 216 * (fz_ 3).toInt + 36 * (fz_ 2).toInt + 6 * 0 + 0 := rfl
              have hp_81 : tz_Di 4 (upd (upd fz_ (Int32.toNatClampNeg 2) (fz_ 3)) (Int32.toNatClampNeg 3) (fz_ 2)) := hdi.perm (fun a => ([0, 1, 3, 2] : List Nat).getD a 0) (fun a ha => by
                rcases (show a = 0 ∨ a = 1 ∨ a = 2 ∨ a = 3 by omega) with rfl | rfl | rfl | rfl <;> exact ⟨by decide, rfl⟩) (by decide)
              exact W.zret (v := 1) hx hb hr (by decide) (fun t ht hW => ⟨⟨1, (), rfl, Or.inr ⟨rfl, 2, by omega, tz_nle_of c_70⟩, (upd (upd fz_ (Int32.toNatClampNeg 2) (fz_ 3)) (Int32.toNatClampNeg 3) (fz_ 2)), hp_81, by rw [ev_79, eg_80]; omega, fun _ => by rw [ev_79, eg_80]; omega, by rw [ht]; exact hP9, va_K.moved hW.alike hK9, hD9⟩, hS.F ht⟩) hS.2.2 dX12_nextOrder_156
            · exact absurd c_73 (by decide)
          · exact absurd c_68 c_70
        · exact absurd c_69 (by decide)
      · refine lv_iinc (v := 1) (lv' := [(1, .int 1), (0, .ref mo)]) hx hb dX12_nextOrder_28 hl (k := 0) rfl (by decide) (by decide) rfl (fun ls hl => ?_)
        refine lv_goto (tgt := 7) hx hb dX12_nextOrder_31 (by decide) ?_
        refine lv_iload_n hx hb dX12_nextOrder_7 rfl (lv_at hl 0 rfl) ?_
        refine lv_if_lt (tgt := 34) hx hb dX12_nextOrder_8 (by decide) (fun c_82 => ?_) (fun c_82 => ?_)
        · exact absurd c_82 (by decide)
        · refine lv_aload_n hx hb dX12_nextOrder_11 rfl (lv_at hl 1 rfl) ?_
          refine va_get (D := (dC, dI)) (ci := 12) (v := .ref mz) (C := RX12) (T := TX12) (N := 24) hx hb hts iw_m_nextOrder_X12 hown hK hP 0 rfl rfl 13 (by decide) (hts (.fieldLink RX12 34 "ThriceCountedModel" "order" "[I") (by decide +kernel)) (fun _ h9 => h9) rfl dX12_nextOrder_12 ?_
          refine lv_iload_n hx hb dX12_nextOrder_15 rfl (lv_at hl 0 rfl) ?_
          refine va_iald hx hb hK hP 1 0 rfl rfl (show ¬ ((1 : Int32) < 0 ∨ 6 ≤ (1 : Int32).toNatClampNeg) by decide) dX12_nextOrder_16 ?_
          refine tz_i (fz_ 1) rfl ?_
          refine lv_aload_n hx hb dX12_nextOrder_17 rfl (lv_at hl 1 rfl) ?_
          refine va_get (D := (dC, dI)) (ci := 12) (v := .ref mz) (C := RX12) (T := TX12) (N := 24) hx hb hts iw_m_nextOrder_X12 hown hK hP 0 rfl rfl 13 (by decide) (hts (.fieldLink RX12 34 "ThriceCountedModel" "order" "[I") (by decide +kernel)) (fun _ h9 => h9) rfl dX12_nextOrder_18 ?_
          refine lv_iload_n hx hb dX12_nextOrder_21 rfl (lv_at hl 0 rfl) ?_
          refine lv_iconst (v := 1) hx hb dX12_nextOrder_22 (by decide) ?_
          refine lv_iadd hx hb dX12_nextOrder_23 ?_
          refine tz_i 2 (by decide) ?_
          refine va_iald hx hb hK hP 1 0 rfl rfl (show ¬ ((2 : Int32) < 0 ∨ 6 ≤ (2 : Int32).toNatClampNeg) by decide) dX12_nextOrder_24 ?_
          refine tz_i (fz_ 2) rfl ?_
          refine lv_icmp_le (tgt := 34) hx hb dX12_nextOrder_25 (by decide) (fun c_83 => ?_) (fun c_83 => ?_)
          · refine lv_iload_n hx hb dX12_nextOrder_34 rfl (lv_at hl 0 rfl) ?_
            refine lv_if_ge (tgt := 40) hx hb dX12_nextOrder_35 (by decide) (fun c_84 => ?_) (fun c_84 => ?_)
            · refine lv_aload_n hx hb dX12_nextOrder_40 rfl (lv_at hl 1 rfl) ?_
              refine va_get (D := (dC, dI)) (ci := 12) (v := .int 4) (C := RX12) (T := TX12) (N := 24) hx hb hts iw_m_nextOrder_X12 hown hK hP 0 rfl rfl 15 (by decide) (hts (.fieldLink RX12 218 "ThriceCountedModel" "soughtMany" "I") (by decide +kernel)) (fun _ h9 => h9) rfl dX12_nextOrder_41 ?_
              refine lv_iconst (v := 1) hx hb dX12_nextOrder_44 (by decide) ?_
              refine lv_isub hx hb dX12_nextOrder_45 ?_
              refine tz_i 3 (by decide) ?_
              refine lv_istore_n (lv' := [(2, .int 3), (1, .int 1), (0, .ref mo)]) hx hb dX12_nextOrder_46 rfl hl (by decide) rfl (fun ls hl => ?_)
              refine lv_aload_n hx hb dX12_nextOrder_47 rfl (lv_at hl 2 rfl) ?_
              refine va_get (D := (dC, dI)) (ci := 12) (v := .ref mz) (C := RX12) (T := TX12) (N := 24) hx hb hts iw_m_nextOrder_X12 hown hK hP 0 rfl rfl 13 (by decide) (hts (.fieldLink RX12 34 "ThriceCountedModel" "order" "[I") (by decide +kernel)) (fun _ h9 => h9) rfl dX12_nextOrder_48 ?_
              refine lv_iload_n hx hb dX12_nextOrder_51 rfl (lv_at hl 0 rfl) ?_
              refine va_iald hx hb hK hP 1 0 rfl rfl (show ¬ ((3 : Int32) < 0 ∨ 6 ≤ (3 : Int32).toNatClampNeg) by decide) dX12_nextOrder_52 ?_
              refine tz_i (fz_ 3) rfl ?_
              refine lv_aload_n hx hb dX12_nextOrder_53 rfl (lv_at hl 2 rfl) ?_
              refine va_get (D := (dC, dI)) (ci := 12) (v := .ref mz) (C := RX12) (T := TX12) (N := 24) hx hb hts iw_m_nextOrder_X12 hown hK hP 0 rfl rfl 13 (by decide) (hts (.fieldLink RX12 34 "ThriceCountedModel" "order" "[I") (by decide +kernel)) (fun _ h9 => h9) rfl dX12_nextOrder_54 ?_
              refine lv_iload_n hx hb dX12_nextOrder_57 rfl (lv_at hl 1 rfl) ?_
              refine va_iald hx hb hK hP 1 0 rfl rfl (show ¬ ((1 : Int32) < 0 ∨ 6 ≤ (1 : Int32).toNatClampNeg) by decide) dX12_nextOrder_58 ?_
              refine tz_i (fz_ 1) rfl ?_
              refine lv_icmp_ge (tgt := 68) hx hb dX12_nextOrder_59 (by decide) (fun c_85 => ?_) (fun c_85 => ?_)
              · refine lv_aload_n hx hb dX12_nextOrder_68 rfl (lv_at hl 2 rfl) ?_
                refine va_get (D := (dC, dI)) (ci := 12) (v := .ref mz) (C := RX12) (T := TX12) (N := 24) hx hb hts iw_m_nextOrder_X12 hown hK hP 0 rfl rfl 13 (by decide) (hts (.fieldLink RX12 34 "ThriceCountedModel" "order" "[I") (by decide +kernel)) (fun _ h9 => h9) rfl dX12_nextOrder_69 ?_
                refine lv_iload_n hx hb dX12_nextOrder_72 rfl (lv_at hl 1 rfl) ?_
                refine va_iald hx hb hK hP 1 0 rfl rfl (show ¬ ((1 : Int32) < 0 ∨ 6 ≤ (1 : Int32).toNatClampNeg) by decide) dX12_nextOrder_73 ?_
                refine tz_i (fz_ 1) rfl ?_
                refine lv_istore_n (lv' := [(3, .int (fz_ 1)), (2, .int 3), (1, .int 1), (0, .ref mo)]) hx hb dX12_nextOrder_74 rfl hl (by decide) rfl (fun ls hl => ?_)
                refine lv_aload_n hx hb dX12_nextOrder_75 rfl (lv_at hl 3 rfl) ?_
                refine va_get (D := (dC, dI)) (ci := 12) (v := .ref mz) (C := RX12) (T := TX12) (N := 24) hx hb hts iw_m_nextOrder_X12 hown hK hP 0 rfl rfl 13 (by decide) (hts (.fieldLink RX12 34 "ThriceCountedModel" "order" "[I") (by decide +kernel)) (fun _ h9 => h9) rfl dX12_nextOrder_76 ?_
                refine lv_iload_n hx hb dX12_nextOrder_79 rfl (lv_at hl 2 rfl) ?_
                refine lv_aload_n hx hb dX12_nextOrder_80 rfl (lv_at hl 3 rfl) ?_
                refine va_get (D := (dC, dI)) (ci := 12) (v := .ref mz) (C := RX12) (T := TX12) (N := 24) hx hb hts iw_m_nextOrder_X12 hown hK hP 0 rfl rfl 13 (by decide) (hts (.fieldLink RX12 34 "ThriceCountedModel" "order" "[I") (by decide +kernel)) (fun _ h9 => h9) rfl dX12_nextOrder_81 ?_
                refine lv_iload_n hx hb dX12_nextOrder_84 rfl (lv_at hl 1 rfl) ?_
                refine va_iald hx hb hK hP 1 0 rfl rfl (show ¬ ((3 : Int32) < 0 ∨ 6 ≤ (3 : Int32).toNatClampNeg) by decide) dX12_nextOrder_85 ?_
                refine tz_i (fz_ 3) rfl ?_
                refine va_iast hx hb hK hP hD hS 1 0 rfl rfl (show ¬ ((1 : Int32) < 0 ∨ 6 ≤ (1 : Int32).toNatClampNeg) by decide) dX12_nextOrder_86 (fun H locs hP hD hS => ?_)
                have hP : va_P (dC, dI) vwCl [(mo, .inr (12, [.ref nw, .ref kp, .ref ik, .ref mr, .long la_, .long lb_, .ref mw, .long lc_, .int ti_, .int cb_, .long ld_, .long le_, .ref mq, .ref mz, .ref my, .int 4, .ref mb, .int bl_, .int ta_, .int tl_, .int tk_, .int vl_, .ref mx, .ref mv])), (mz, .inl (cz_, 6, .inl (upd fz_ (Int32.toNatClampNeg 1) (fz_ 3))))] H := hP
                have hD : va_D A [(mo, .inr (12, [.ref nw, .ref kp, .ref ik, .ref mr, .long la_, .long lb_, .ref mw, .long lc_, .int ti_, .int cb_, .long ld_, .long le_, .ref mq, .ref mz, .ref my, .int 4, .ref mb, .int bl_, .int ta_, .int tl_, .int tk_, .int vl_, .ref mx, .ref mv])), (mz, .inl (cz_, 6, .inl (upd fz_ (Int32.toNatClampNeg 1) (fz_ 3))))] := hD
                refine lv_aload_n hx hb dX12_nextOrder_87 rfl (lv_at hl 3 rfl) ?_
                refine va_get (D := (dC, dI)) (ci := 12) (v := .ref mz) (C := RX12) (T := TX12) (N := 24) hx hb hts iw_m_nextOrder_X12 hown hK hP 0 rfl rfl 13 (by decide) (hts (.fieldLink RX12 34 "ThriceCountedModel" "order" "[I") (by decide +kernel)) (fun _ h9 => h9) rfl dX12_nextOrder_88 ?_
                refine lv_iload_n hx hb dX12_nextOrder_91 rfl (lv_at hl 1 rfl) ?_
                refine lv_iload_n hx hb dX12_nextOrder_92 rfl (lv_at hl 0 rfl) ?_
                refine va_iast hx hb hK hP hD hS 1 0 rfl rfl (show ¬ ((3 : Int32) < 0 ∨ 6 ≤ (3 : Int32).toNatClampNeg) by decide) dX12_nextOrder_93 (fun H locs hP hD hS => ?_)
                have hP : va_P (dC, dI) vwCl [(mo, .inr (12, [.ref nw, .ref kp, .ref ik, .ref mr, .long la_, .long lb_, .ref mw, .long lc_, .int ti_, .int cb_, .long ld_, .long le_, .ref mq, .ref mz, .ref my, .int 4, .ref mb, .int bl_, .int ta_, .int tl_, .int tk_, .int vl_, .ref mx, .ref mv])), (mz, .inl (cz_, 6, .inl (upd (upd fz_ (Int32.toNatClampNeg 1) (fz_ 3)) (Int32.toNatClampNeg 3) (fz_ 1))))] H := hP
                have hD : va_D A [(mo, .inr (12, [.ref nw, .ref kp, .ref ik, .ref mr, .long la_, .long lb_, .ref mw, .long lc_, .int ti_, .int cb_, .long ld_, .long le_, .ref mq, .ref mz, .ref my, .int 4, .ref mb, .int bl_, .int ta_, .int tl_, .int tk_, .int vl_, .ref mx, .ref mv])), (mz, .inl (cz_, 6, .inl (upd (upd fz_ (Int32.toNatClampNeg 1) (fz_ 3)) (Int32.toNatClampNeg 3) (fz_ 1))))] := hD
                refine lv_iload_n hx hb dX12_nextOrder_94 rfl (lv_at hl 2 rfl) ?_
                refine lv_iconst (v := 1) hx hb dX12_nextOrder_95 (by decide) ?_
                refine lv_iadd hx hb dX12_nextOrder_96 ?_
                refine tz_i 2 (by decide) ?_
                refine lv_istore (lv' := [(4, .int 2), (3, .int (fz_ 1)), (2, .int 3), (1, .int 1), (0, .ref mo)]) hx hb dX12_nextOrder_97 hl (by decide) rfl (fun ls hl => ?_)
                refine lv_aload_n hx hb dX12_nextOrder_99 rfl (lv_at hl 4 rfl) ?_
                refine va_get (D := (dC, dI)) (ci := 12) (v := .int 4) (C := RX12) (T := TX12) (N := 24) hx hb hts iw_m_nextOrder_X12 hown hK hP 0 rfl rfl 15 (by decide) (hts (.fieldLink RX12 218 "ThriceCountedModel" "soughtMany" "I") (by decide +kernel)) (fun _ h9 => h9) rfl dX12_nextOrder_100 ?_
                refine lv_iconst (v := 1) hx hb dX12_nextOrder_103 (by decide) ?_
                refine lv_isub hx hb dX12_nextOrder_104 ?_
                refine tz_i 3 (by decide) ?_
                refine lv_istore (lv' := [(5, .int 3), (4, .int 2), (3, .int (fz_ 1)), (2, .int 3), (1, .int 1), (0, .ref mo)]) hx hb dX12_nextOrder_105 hl (by decide) rfl (fun ls hl => ?_)
                refine lv_iload hx hb dX12_nextOrder_107 (lv_at hl 1 rfl) ?_
                refine lv_iload hx hb dX12_nextOrder_109 (lv_at hl 0 rfl) ?_
                refine lv_icmp_ge (tgt := 155) hx hb dX12_nextOrder_111 (by decide) (fun c_88 => ?_) (fun c_88 => ?_)
                · exact absurd c_88 (by decide)
                · refine lv_aload_n hx hb dX12_nextOrder_114 rfl (lv_at hl 5 rfl) ?_
                  refine va_get (D := (dC, dI)) (ci := 12) (v := .ref mz) (C := RX12) (T := TX12) (N := 24) hx hb hts iw_m_nextOrder_X12 hown hK hP 0 rfl rfl 13 (by decide) (hts (.fieldLink RX12 34 "ThriceCountedModel" "order" "[I") (by decide +kernel)) (fun _ h9 => h9) rfl dX12_nextOrder_115 ?_
                  refine lv_iload hx hb dX12_nextOrder_118 (lv_at hl 1 rfl) ?_
                  refine va_iald hx hb hK hP 1 0 rfl rfl (show ¬ ((2 : Int32) < 0 ∨ 6 ≤ (2 : Int32).toNatClampNeg) by decide) dX12_nextOrder_120 ?_
                  refine tz_i (fz_ 2) rfl ?_
                  refine lv_istore (lv' := [(6, .int (fz_ 2)), (5, .int 3), (4, .int 2), (3, .int (fz_ 1)), (2, .int 3), (1, .int 1), (0, .ref mo)]) hx hb dX12_nextOrder_121 hl (by decide) rfl (fun ls hl => ?_)
                  refine lv_aload_n hx hb dX12_nextOrder_123 rfl (lv_at hl 6 rfl) ?_
                  refine va_get (D := (dC, dI)) (ci := 12) (v := .ref mz) (C := RX12) (T := TX12) (N := 24) hx hb hts iw_m_nextOrder_X12 hown hK hP 0 rfl rfl 13 (by decide) (hts (.fieldLink RX12 34 "ThriceCountedModel" "order" "[I") (by decide +kernel)) (fun _ h9 => h9) rfl dX12_nextOrder_124 ?_
                  refine lv_iload hx hb dX12_nextOrder_127 (lv_at hl 2 rfl) ?_
                  refine lv_aload_n hx hb dX12_nextOrder_129 rfl (lv_at hl 6 rfl) ?_
                  refine va_get (D := (dC, dI)) (ci := 12) (v := .ref mz) (C := RX12) (T := TX12) (N := 24) hx hb hts iw_m_nextOrder_X12 hown hK hP 0 rfl rfl 13 (by decide) (hts (.fieldLink RX12 34 "ThriceCountedModel" "order" "[I") (by decide +kernel)) (fun _ h9 => h9) rfl dX12_nextOrder_130 ?_
                  refine lv_iload hx hb dX12_nextOrder_133 (lv_at hl 1 rfl) ?_
                  refine va_iald hx hb hK hP 1 0 rfl rfl (show ¬ ((3 : Int32) < 0 ∨ 6 ≤ (3 : Int32).toNatClampNeg) by decide) dX12_nextOrder_135 ?_
                  refine tz_i (fz_ 1) rfl ?_
                  refine va_iast hx hb hK hP hD hS 1 0 rfl rfl (show ¬ ((2 : Int32) < 0 ∨ 6 ≤ (2 : Int32).toNatClampNeg) by decide) dX12_nextOrder_136 (fun H locs hP hD hS => ?_)
                  have hP : va_P (dC, dI) vwCl [(mo, .inr (12, [.ref nw, .ref kp, .ref ik, .ref mr, .long la_, .long lb_, .ref mw, .long lc_, .int ti_, .int cb_, .long ld_, .long le_, .ref mq, .ref mz, .ref my, .int 4, .ref mb, .int bl_, .int ta_, .int tl_, .int tk_, .int vl_, .ref mx, .ref mv])), (mz, .inl (cz_, 6, .inl (upd (upd (upd fz_ (Int32.toNatClampNeg 1) (fz_ 3)) (Int32.toNatClampNeg 3) (fz_ 1)) (Int32.toNatClampNeg 2) (fz_ 1))))] H := hP
                  have hD : va_D A [(mo, .inr (12, [.ref nw, .ref kp, .ref ik, .ref mr, .long la_, .long lb_, .ref mw, .long lc_, .int ti_, .int cb_, .long ld_, .long le_, .ref mq, .ref mz, .ref my, .int 4, .ref mb, .int bl_, .int ta_, .int tl_, .int tk_, .int vl_, .ref mx, .ref mv])), (mz, .inl (cz_, 6, .inl (upd (upd (upd fz_ (Int32.toNatClampNeg 1) (fz_ 3)) (Int32.toNatClampNeg 3) (fz_ 1)) (Int32.toNatClampNeg 2) (fz_ 1))))] := hD
                  refine lv_aload_n hx hb dX12_nextOrder_137 rfl (lv_at hl 6 rfl) ?_
                  refine va_get (D := (dC, dI)) (ci := 12) (v := .ref mz) (C := RX12) (T := TX12) (N := 24) hx hb hts iw_m_nextOrder_X12 hown hK hP 0 rfl rfl 13 (by decide) (hts (.fieldLink RX12 34 "ThriceCountedModel" "order" "[I") (by decide +kernel)) (fun _ h9 => h9) rfl dX12_nextOrder_138 ?_
                  refine lv_iload hx hb dX12_nextOrder_141 (lv_at hl 1 rfl) ?_
                  refine lv_iload hx hb dX12_nextOrder_143 (lv_at hl 0 rfl) ?_
                  refine va_iast hx hb hK hP hD hS 1 0 rfl rfl (show ¬ ((3 : Int32) < 0 ∨ 6 ≤ (3 : Int32).toNatClampNeg) by decide) dX12_nextOrder_145 (fun H locs hP hD hS => ?_)
                  have hP : va_P (dC, dI) vwCl [(mo, .inr (12, [.ref nw, .ref kp, .ref ik, .ref mr, .long la_, .long lb_, .ref mw, .long lc_, .int ti_, .int cb_, .long ld_, .long le_, .ref mq, .ref mz, .ref my, .int 4, .ref mb, .int bl_, .int ta_, .int tl_, .int tk_, .int vl_, .ref mx, .ref mv])), (mz, .inl (cz_, 6, .inl (upd (upd (upd (upd fz_ (Int32.toNatClampNeg 1) (fz_ 3)) (Int32.toNatClampNeg 3) (fz_ 1)) (Int32.toNatClampNeg 2) (fz_ 1)) (Int32.toNatClampNeg 3) (fz_ 2))))] H := hP
                  have hD : va_D A [(mo, .inr (12, [.ref nw, .ref kp, .ref ik, .ref mr, .long la_, .long lb_, .ref mw, .long lc_, .int ti_, .int cb_, .long ld_, .long le_, .ref mq, .ref mz, .ref my, .int 4, .ref mb, .int bl_, .int ta_, .int tl_, .int tk_, .int vl_, .ref mx, .ref mv])), (mz, .inl (cz_, 6, .inl (upd (upd (upd (upd fz_ (Int32.toNatClampNeg 1) (fz_ 3)) (Int32.toNatClampNeg 3) (fz_ 1)) (Int32.toNatClampNeg 2) (fz_ 1)) (Int32.toNatClampNeg 3) (fz_ 2))))] := hD
                  refine lv_iinc (v := 3) (lv' := [(4, .int 3), (6, .int (fz_ 2)), (5, .int 3), (3, .int (fz_ 1)), (2, .int 3), (1, .int 1), (0, .ref mo)]) hx hb dX12_nextOrder_146 hl (k := 2) rfl (by decide) (by decide) rfl (fun ls hl => ?_)
                  refine lv_iinc (v := 2) (lv' := [(5, .int 2), (4, .int 3), (6, .int (fz_ 2)), (3, .int (fz_ 1)), (2, .int 3), (1, .int 1), (0, .ref mo)]) hx hb dX12_nextOrder_149 hl (k := 2) rfl (by decide) (by decide) rfl (fun ls hl => ?_)
                  refine lv_goto (tgt := 107) hx hb dX12_nextOrder_152 (by decide) ?_
                  refine lv_iload hx hb dX12_nextOrder_107 (lv_at hl 1 rfl) ?_
                  refine lv_iload hx hb dX12_nextOrder_109 (lv_at hl 0 rfl) ?_
                  refine lv_icmp_ge (tgt := 155) hx hb dX12_nextOrder_111 (by decide) (fun c_91 => ?_) (fun c_91 => ?_)
                  · refine lv_iconst (v := 1) hx hb dX12_nextOrder_155 (by decide) ?_
                    have hP9 := hP.sub (ws' := [(mo, .inr (12, [.ref nw, .ref kp, .ref ik, .ref mr, .long la_, .long lb_, .ref mw, .long lc_, .int ti_, .int cb_, .long ld_, .long le_, .ref mq, .ref mz, .ref my, .int (nI 4), .ref mb, .int bl_, .int ta_, .int tl_, .int tk_, .int vl_, .ref mx, .ref mv])), (mz, .inl (cz_, 6, .inl (upd (upd (upd (upd fz_ (Int32.toNatClampNeg 1) (fz_ 3)) (Int32.toNatClampNeg 3) (fz_ 1)) (Int32.toNatClampNeg 2) (fz_ 1)) (Int32.toNatClampNeg 3) (fz_ 2))))]) [0, 1] rfl
                    have hD9 := hD.sub (ws' := [(mo, .inr (12, [.ref nw, .ref kp, .ref ik, .ref mr, .long la_, .long lb_, .ref mw, .long lc_, .int ti_, .int cb_, .long ld_, .long le_, .ref mq, .ref mz, .ref my, .int (nI 4), .ref mb, .int bl_, .int ta_, .int tl_, .int tk_, .int vl_, .ref mx, .ref mv])), (mz, .inl (cz_, 6, .inl (upd (upd (upd (upd fz_ (Int32.toNatClampNeg 1) (fz_ 3)) (Int32.toNatClampNeg 3) (fz_ 1)) (Int32.toNatClampNeg 2) (fz_ 1)) (Int32.toNatClampNeg 3) (fz_ 2))))]) [0, 1] (by decide) rfl
                    have hK9 := hK.sub (tys' := [(cz_, .int)]) [0] rfl
                    have hlt_92 : (fz_ 1).toInt < (fz_ 3).toInt := tz_ltt2 c_85 (hdi.2 1 3 (by omega) (by omega))
                    have hb_93 := hdi.1 0 (by omega)
                    have hb_94 := hdi.1 1 (by omega)
                    have hb_95 := hdi.1 2 (by omega)
                    have hb_96 := hdi.1 3 (by omega)
                    have ev_97 : tz_val 4 fz_ = 7776 * (fz_ 0).toInt + 1296 * (fz_ 1).toInt + 216 * (fz_ 2).toInt + 36 * (fz_ 3).toInt + 6 * 0 + 0 := rfl
                    have eg_98 : tz_val 4 (upd (upd (upd (upd fz_ (Int32.toNatClampNeg 1) (fz_ 3)) (Int32.toNatClampNeg 3) (fz_ 1)) (Int32.toNatClampNeg 2) (fz_ 1)) (Int32.toNatClampNeg 3) (fz_ 2)) = 7776 * (fz_ 0).toInt + 1296 * (fz_ 3).toInt + 216 * (fz_ 1).toInt + 36 * (fz_ 2).toInt + 6 * 0 + 0 := rfl
                    have hp_99 : tz_Di 4 (upd (upd (upd (upd fz_ (Int32.toNatClampNeg 1) (fz_ 3)) (Int32.toNatClampNeg 3) (fz_ 1)) (Int32.toNatClampNeg 2) (fz_ 1)) (Int32.toNatClampNeg 3) (fz_ 2)) := hdi.perm (fun a => ([0, 3, 1, 2] : List Nat).getD a 0) (fun a ha => by
                      rcases (show a = 0 ∨ a = 1 ∨ a = 2 ∨ a = 3 by omega) with rfl | rfl | rfl | rfl <;> exact ⟨by decide, rfl⟩) (by decide)
                    exact W.zret (v := 1) hx hb hr (by decide) (fun t ht hW => ⟨⟨1, (), rfl, Or.inr ⟨rfl, 1, by omega, tz_nle_of c_83⟩, (upd (upd (upd (upd fz_ (Int32.toNatClampNeg 1) (fz_ 3)) (Int32.toNatClampNeg 3) (fz_ 1)) (Int32.toNatClampNeg 2) (fz_ 1)) (Int32.toNatClampNeg 3) (fz_ 2)), hp_99, by rw [ev_97, eg_98]; omega, fun _ => by rw [ev_97, eg_98]; omega, by rw [ht]; exact hP9, va_K.moved hW.alike hK9, hD9⟩, hS.F ht⟩) hS.2.2 dX12_nextOrder_156
                  · exact absurd c_91 (by decide)
              · refine lv_iinc (v := 2) (lv' := [(2, .int 2), (1, .int 1), (0, .ref mo)]) hx hb dX12_nextOrder_62 hl (k := 0) rfl (by decide) (by decide) rfl (fun ls hl => ?_)
                refine lv_goto (tgt := 47) hx hb dX12_nextOrder_65 (by decide) ?_
                refine lv_aload_n hx hb dX12_nextOrder_47 rfl (lv_at hl 2 rfl) ?_
                refine va_get (D := (dC, dI)) (ci := 12) (v := .ref mz) (C := RX12) (T := TX12) (N := 24) hx hb hts iw_m_nextOrder_X12 hown hK hP 0 rfl rfl 13 (by decide) (hts (.fieldLink RX12 34 "ThriceCountedModel" "order" "[I") (by decide +kernel)) (fun _ h9 => h9) rfl dX12_nextOrder_48 ?_
                refine lv_iload_n hx hb dX12_nextOrder_51 rfl (lv_at hl 0 rfl) ?_
                refine va_iald hx hb hK hP 1 0 rfl rfl (show ¬ ((2 : Int32) < 0 ∨ 6 ≤ (2 : Int32).toNatClampNeg) by decide) dX12_nextOrder_52 ?_
                refine tz_i (fz_ 2) rfl ?_
                refine lv_aload_n hx hb dX12_nextOrder_53 rfl (lv_at hl 2 rfl) ?_
                refine va_get (D := (dC, dI)) (ci := 12) (v := .ref mz) (C := RX12) (T := TX12) (N := 24) hx hb hts iw_m_nextOrder_X12 hown hK hP 0 rfl rfl 13 (by decide) (hts (.fieldLink RX12 34 "ThriceCountedModel" "order" "[I") (by decide +kernel)) (fun _ h9 => h9) rfl dX12_nextOrder_54 ?_
                refine lv_iload_n hx hb dX12_nextOrder_57 rfl (lv_at hl 1 rfl) ?_
                refine va_iald hx hb hK hP 1 0 rfl rfl (show ¬ ((1 : Int32) < 0 ∨ 6 ≤ (1 : Int32).toNatClampNeg) by decide) dX12_nextOrder_58 ?_
                refine tz_i (fz_ 1) rfl ?_
                refine lv_icmp_ge (tgt := 68) hx hb dX12_nextOrder_59 (by decide) (fun c_100 => ?_) (fun c_100 => ?_)
                · refine lv_aload_n hx hb dX12_nextOrder_68 rfl (lv_at hl 2 rfl) ?_
                  refine va_get (D := (dC, dI)) (ci := 12) (v := .ref mz) (C := RX12) (T := TX12) (N := 24) hx hb hts iw_m_nextOrder_X12 hown hK hP 0 rfl rfl 13 (by decide) (hts (.fieldLink RX12 34 "ThriceCountedModel" "order" "[I") (by decide +kernel)) (fun _ h9 => h9) rfl dX12_nextOrder_69 ?_
                  refine lv_iload_n hx hb dX12_nextOrder_72 rfl (lv_at hl 1 rfl) ?_
                  refine va_iald hx hb hK hP 1 0 rfl rfl (show ¬ ((1 : Int32) < 0 ∨ 6 ≤ (1 : Int32).toNatClampNeg) by decide) dX12_nextOrder_73 ?_
                  refine tz_i (fz_ 1) rfl ?_
                  refine lv_istore_n (lv' := [(3, .int (fz_ 1)), (2, .int 2), (1, .int 1), (0, .ref mo)]) hx hb dX12_nextOrder_74 rfl hl (by decide) rfl (fun ls hl => ?_)
                  refine lv_aload_n hx hb dX12_nextOrder_75 rfl (lv_at hl 3 rfl) ?_
                  refine va_get (D := (dC, dI)) (ci := 12) (v := .ref mz) (C := RX12) (T := TX12) (N := 24) hx hb hts iw_m_nextOrder_X12 hown hK hP 0 rfl rfl 13 (by decide) (hts (.fieldLink RX12 34 "ThriceCountedModel" "order" "[I") (by decide +kernel)) (fun _ h9 => h9) rfl dX12_nextOrder_76 ?_
                  refine lv_iload_n hx hb dX12_nextOrder_79 rfl (lv_at hl 2 rfl) ?_
                  refine lv_aload_n hx hb dX12_nextOrder_80 rfl (lv_at hl 3 rfl) ?_
                  refine va_get (D := (dC, dI)) (ci := 12) (v := .ref mz) (C := RX12) (T := TX12) (N := 24) hx hb hts iw_m_nextOrder_X12 hown hK hP 0 rfl rfl 13 (by decide) (hts (.fieldLink RX12 34 "ThriceCountedModel" "order" "[I") (by decide +kernel)) (fun _ h9 => h9) rfl dX12_nextOrder_81 ?_
                  refine lv_iload_n hx hb dX12_nextOrder_84 rfl (lv_at hl 1 rfl) ?_
                  refine va_iald hx hb hK hP 1 0 rfl rfl (show ¬ ((2 : Int32) < 0 ∨ 6 ≤ (2 : Int32).toNatClampNeg) by decide) dX12_nextOrder_85 ?_
                  refine tz_i (fz_ 2) rfl ?_
                  refine va_iast hx hb hK hP hD hS 1 0 rfl rfl (show ¬ ((1 : Int32) < 0 ∨ 6 ≤ (1 : Int32).toNatClampNeg) by decide) dX12_nextOrder_86 (fun H locs hP hD hS => ?_)
                  have hP : va_P (dC, dI) vwCl [(mo, .inr (12, [.ref nw, .ref kp, .ref ik, .ref mr, .long la_, .long lb_, .ref mw, .long lc_, .int ti_, .int cb_, .long ld_, .long le_, .ref mq, .ref mz, .ref my, .int 4, .ref mb, .int bl_, .int ta_, .int tl_, .int tk_, .int vl_, .ref mx, .ref mv])), (mz, .inl (cz_, 6, .inl (upd fz_ (Int32.toNatClampNeg 1) (fz_ 2))))] H := hP
                  have hD : va_D A [(mo, .inr (12, [.ref nw, .ref kp, .ref ik, .ref mr, .long la_, .long lb_, .ref mw, .long lc_, .int ti_, .int cb_, .long ld_, .long le_, .ref mq, .ref mz, .ref my, .int 4, .ref mb, .int bl_, .int ta_, .int tl_, .int tk_, .int vl_, .ref mx, .ref mv])), (mz, .inl (cz_, 6, .inl (upd fz_ (Int32.toNatClampNeg 1) (fz_ 2))))] := hD
                  refine lv_aload_n hx hb dX12_nextOrder_87 rfl (lv_at hl 3 rfl) ?_
                  refine va_get (D := (dC, dI)) (ci := 12) (v := .ref mz) (C := RX12) (T := TX12) (N := 24) hx hb hts iw_m_nextOrder_X12 hown hK hP 0 rfl rfl 13 (by decide) (hts (.fieldLink RX12 34 "ThriceCountedModel" "order" "[I") (by decide +kernel)) (fun _ h9 => h9) rfl dX12_nextOrder_88 ?_
                  refine lv_iload_n hx hb dX12_nextOrder_91 rfl (lv_at hl 1 rfl) ?_
                  refine lv_iload_n hx hb dX12_nextOrder_92 rfl (lv_at hl 0 rfl) ?_
                  refine va_iast hx hb hK hP hD hS 1 0 rfl rfl (show ¬ ((2 : Int32) < 0 ∨ 6 ≤ (2 : Int32).toNatClampNeg) by decide) dX12_nextOrder_93 (fun H locs hP hD hS => ?_)
                  have hP : va_P (dC, dI) vwCl [(mo, .inr (12, [.ref nw, .ref kp, .ref ik, .ref mr, .long la_, .long lb_, .ref mw, .long lc_, .int ti_, .int cb_, .long ld_, .long le_, .ref mq, .ref mz, .ref my, .int 4, .ref mb, .int bl_, .int ta_, .int tl_, .int tk_, .int vl_, .ref mx, .ref mv])), (mz, .inl (cz_, 6, .inl (upd (upd fz_ (Int32.toNatClampNeg 1) (fz_ 2)) (Int32.toNatClampNeg 2) (fz_ 1))))] H := hP
                  have hD : va_D A [(mo, .inr (12, [.ref nw, .ref kp, .ref ik, .ref mr, .long la_, .long lb_, .ref mw, .long lc_, .int ti_, .int cb_, .long ld_, .long le_, .ref mq, .ref mz, .ref my, .int 4, .ref mb, .int bl_, .int ta_, .int tl_, .int tk_, .int vl_, .ref mx, .ref mv])), (mz, .inl (cz_, 6, .inl (upd (upd fz_ (Int32.toNatClampNeg 1) (fz_ 2)) (Int32.toNatClampNeg 2) (fz_ 1))))] := hD
                  refine lv_iload_n hx hb dX12_nextOrder_94 rfl (lv_at hl 2 rfl) ?_
                  refine lv_iconst (v := 1) hx hb dX12_nextOrder_95 (by decide) ?_
                  refine lv_iadd hx hb dX12_nextOrder_96 ?_
                  refine tz_i 2 (by decide) ?_
                  refine lv_istore (lv' := [(4, .int 2), (3, .int (fz_ 1)), (2, .int 2), (1, .int 1), (0, .ref mo)]) hx hb dX12_nextOrder_97 hl (by decide) rfl (fun ls hl => ?_)
                  refine lv_aload_n hx hb dX12_nextOrder_99 rfl (lv_at hl 4 rfl) ?_
                  refine va_get (D := (dC, dI)) (ci := 12) (v := .int 4) (C := RX12) (T := TX12) (N := 24) hx hb hts iw_m_nextOrder_X12 hown hK hP 0 rfl rfl 15 (by decide) (hts (.fieldLink RX12 218 "ThriceCountedModel" "soughtMany" "I") (by decide +kernel)) (fun _ h9 => h9) rfl dX12_nextOrder_100 ?_
                  refine lv_iconst (v := 1) hx hb dX12_nextOrder_103 (by decide) ?_
                  refine lv_isub hx hb dX12_nextOrder_104 ?_
                  refine tz_i 3 (by decide) ?_
                  refine lv_istore (lv' := [(5, .int 3), (4, .int 2), (3, .int (fz_ 1)), (2, .int 2), (1, .int 1), (0, .ref mo)]) hx hb dX12_nextOrder_105 hl (by decide) rfl (fun ls hl => ?_)
                  refine lv_iload hx hb dX12_nextOrder_107 (lv_at hl 1 rfl) ?_
                  refine lv_iload hx hb dX12_nextOrder_109 (lv_at hl 0 rfl) ?_
                  refine lv_icmp_ge (tgt := 155) hx hb dX12_nextOrder_111 (by decide) (fun c_103 => ?_) (fun c_103 => ?_)
                  · exact absurd c_103 (by decide)
                  · refine lv_aload_n hx hb dX12_nextOrder_114 rfl (lv_at hl 5 rfl) ?_
                    refine va_get (D := (dC, dI)) (ci := 12) (v := .ref mz) (C := RX12) (T := TX12) (N := 24) hx hb hts iw_m_nextOrder_X12 hown hK hP 0 rfl rfl 13 (by decide) (hts (.fieldLink RX12 34 "ThriceCountedModel" "order" "[I") (by decide +kernel)) (fun _ h9 => h9) rfl dX12_nextOrder_115 ?_
                    refine lv_iload hx hb dX12_nextOrder_118 (lv_at hl 1 rfl) ?_
                    refine va_iald hx hb hK hP 1 0 rfl rfl (show ¬ ((2 : Int32) < 0 ∨ 6 ≤ (2 : Int32).toNatClampNeg) by decide) dX12_nextOrder_120 ?_
                    refine tz_i (fz_ 1) rfl ?_
                    refine lv_istore (lv' := [(6, .int (fz_ 1)), (5, .int 3), (4, .int 2), (3, .int (fz_ 1)), (2, .int 2), (1, .int 1), (0, .ref mo)]) hx hb dX12_nextOrder_121 hl (by decide) rfl (fun ls hl => ?_)
                    refine lv_aload_n hx hb dX12_nextOrder_123 rfl (lv_at hl 6 rfl) ?_
                    refine va_get (D := (dC, dI)) (ci := 12) (v := .ref mz) (C := RX12) (T := TX12) (N := 24) hx hb hts iw_m_nextOrder_X12 hown hK hP 0 rfl rfl 13 (by decide) (hts (.fieldLink RX12 34 "ThriceCountedModel" "order" "[I") (by decide +kernel)) (fun _ h9 => h9) rfl dX12_nextOrder_124 ?_
                    refine lv_iload hx hb dX12_nextOrder_127 (lv_at hl 2 rfl) ?_
                    refine lv_aload_n hx hb dX12_nextOrder_129 rfl (lv_at hl 6 rfl) ?_
                    refine va_get (D := (dC, dI)) (ci := 12) (v := .ref mz) (C := RX12) (T := TX12) (N := 24) hx hb hts iw_m_nextOrder_X12 hown hK hP 0 rfl rfl 13 (by decide) (hts (.fieldLink RX12 34 "ThriceCountedModel" "order" "[I") (by decide +kernel)) (fun _ h9 => h9) rfl dX12_nextOrder_130 ?_
                    refine lv_iload hx hb dX12_nextOrder_133 (lv_at hl 1 rfl) ?_
                    refine va_iald hx hb hK hP 1 0 rfl rfl (show ¬ ((3 : Int32) < 0 ∨ 6 ≤ (3 : Int32).toNatClampNeg) by decide) dX12_nextOrder_135 ?_
                    refine tz_i (fz_ 3) rfl ?_
                    refine va_iast hx hb hK hP hD hS 1 0 rfl rfl (show ¬ ((2 : Int32) < 0 ∨ 6 ≤ (2 : Int32).toNatClampNeg) by decide) dX12_nextOrder_136 (fun H locs hP hD hS => ?_)
                    have hP : va_P (dC, dI) vwCl [(mo, .inr (12, [.ref nw, .ref kp, .ref ik, .ref mr, .long la_, .long lb_, .ref mw, .long lc_, .int ti_, .int cb_, .long ld_, .long le_, .ref mq, .ref mz, .ref my, .int 4, .ref mb, .int bl_, .int ta_, .int tl_, .int tk_, .int vl_, .ref mx, .ref mv])), (mz, .inl (cz_, 6, .inl (upd (upd (upd fz_ (Int32.toNatClampNeg 1) (fz_ 2)) (Int32.toNatClampNeg 2) (fz_ 1)) (Int32.toNatClampNeg 2) (fz_ 3))))] H := hP
                    have hD : va_D A [(mo, .inr (12, [.ref nw, .ref kp, .ref ik, .ref mr, .long la_, .long lb_, .ref mw, .long lc_, .int ti_, .int cb_, .long ld_, .long le_, .ref mq, .ref mz, .ref my, .int 4, .ref mb, .int bl_, .int ta_, .int tl_, .int tk_, .int vl_, .ref mx, .ref mv])), (mz, .inl (cz_, 6, .inl (upd (upd (upd fz_ (Int32.toNatClampNeg 1) (fz_ 2)) (Int32.toNatClampNeg 2) (fz_ 1)) (Int32.toNatClampNeg 2) (fz_ 3))))] := hD
                    refine lv_aload_n hx hb dX12_nextOrder_137 rfl (lv_at hl 6 rfl) ?_
                    refine va_get (D := (dC, dI)) (ci := 12) (v := .ref mz) (C := RX12) (T := TX12) (N := 24) hx hb hts iw_m_nextOrder_X12 hown hK hP 0 rfl rfl 13 (by decide) (hts (.fieldLink RX12 34 "ThriceCountedModel" "order" "[I") (by decide +kernel)) (fun _ h9 => h9) rfl dX12_nextOrder_138 ?_
                    refine lv_iload hx hb dX12_nextOrder_141 (lv_at hl 1 rfl) ?_
                    refine lv_iload hx hb dX12_nextOrder_143 (lv_at hl 0 rfl) ?_
                    refine va_iast hx hb hK hP hD hS 1 0 rfl rfl (show ¬ ((3 : Int32) < 0 ∨ 6 ≤ (3 : Int32).toNatClampNeg) by decide) dX12_nextOrder_145 (fun H locs hP hD hS => ?_)
                    have hP : va_P (dC, dI) vwCl [(mo, .inr (12, [.ref nw, .ref kp, .ref ik, .ref mr, .long la_, .long lb_, .ref mw, .long lc_, .int ti_, .int cb_, .long ld_, .long le_, .ref mq, .ref mz, .ref my, .int 4, .ref mb, .int bl_, .int ta_, .int tl_, .int tk_, .int vl_, .ref mx, .ref mv])), (mz, .inl (cz_, 6, .inl (upd (upd (upd (upd fz_ (Int32.toNatClampNeg 1) (fz_ 2)) (Int32.toNatClampNeg 2) (fz_ 1)) (Int32.toNatClampNeg 2) (fz_ 3)) (Int32.toNatClampNeg 3) (fz_ 1))))] H := hP
                    have hD : va_D A [(mo, .inr (12, [.ref nw, .ref kp, .ref ik, .ref mr, .long la_, .long lb_, .ref mw, .long lc_, .int ti_, .int cb_, .long ld_, .long le_, .ref mq, .ref mz, .ref my, .int 4, .ref mb, .int bl_, .int ta_, .int tl_, .int tk_, .int vl_, .ref mx, .ref mv])), (mz, .inl (cz_, 6, .inl (upd (upd (upd (upd fz_ (Int32.toNatClampNeg 1) (fz_ 2)) (Int32.toNatClampNeg 2) (fz_ 1)) (Int32.toNatClampNeg 2) (fz_ 3)) (Int32.toNatClampNeg 3) (fz_ 1))))] := hD
                    refine lv_iinc (v := 3) (lv' := [(4, .int 3), (6, .int (fz_ 1)), (5, .int 3), (3, .int (fz_ 1)), (2, .int 2), (1, .int 1), (0, .ref mo)]) hx hb dX12_nextOrder_146 hl (k := 2) rfl (by decide) (by decide) rfl (fun ls hl => ?_)
                    refine lv_iinc (v := 2) (lv' := [(5, .int 2), (4, .int 3), (6, .int (fz_ 1)), (3, .int (fz_ 1)), (2, .int 2), (1, .int 1), (0, .ref mo)]) hx hb dX12_nextOrder_149 hl (k := 2) rfl (by decide) (by decide) rfl (fun ls hl => ?_)
                    refine lv_goto (tgt := 107) hx hb dX12_nextOrder_152 (by decide) ?_
                    refine lv_iload hx hb dX12_nextOrder_107 (lv_at hl 1 rfl) ?_
                    refine lv_iload hx hb dX12_nextOrder_109 (lv_at hl 0 rfl) ?_
                    refine lv_icmp_ge (tgt := 155) hx hb dX12_nextOrder_111 (by decide) (fun c_106 => ?_) (fun c_106 => ?_)
                    · refine lv_iconst (v := 1) hx hb dX12_nextOrder_155 (by decide) ?_
                      have hP9 := hP.sub (ws' := [(mo, .inr (12, [.ref nw, .ref kp, .ref ik, .ref mr, .long la_, .long lb_, .ref mw, .long lc_, .int ti_, .int cb_, .long ld_, .long le_, .ref mq, .ref mz, .ref my, .int (nI 4), .ref mb, .int bl_, .int ta_, .int tl_, .int tk_, .int vl_, .ref mx, .ref mv])), (mz, .inl (cz_, 6, .inl (upd (upd (upd (upd fz_ (Int32.toNatClampNeg 1) (fz_ 2)) (Int32.toNatClampNeg 2) (fz_ 1)) (Int32.toNatClampNeg 2) (fz_ 3)) (Int32.toNatClampNeg 3) (fz_ 1))))]) [0, 1] rfl
                      have hD9 := hD.sub (ws' := [(mo, .inr (12, [.ref nw, .ref kp, .ref ik, .ref mr, .long la_, .long lb_, .ref mw, .long lc_, .int ti_, .int cb_, .long ld_, .long le_, .ref mq, .ref mz, .ref my, .int (nI 4), .ref mb, .int bl_, .int ta_, .int tl_, .int tk_, .int vl_, .ref mx, .ref mv])), (mz, .inl (cz_, 6, .inl (upd (upd (upd (upd fz_ (Int32.toNatClampNeg 1) (fz_ 2)) (Int32.toNatClampNeg 2) (fz_ 1)) (Int32.toNatClampNeg 2) (fz_ 3)) (Int32.toNatClampNeg 3) (fz_ 1))))]) [0, 1] (by decide) rfl
                      have hK9 := hK.sub (tys' := [(cz_, .int)]) [0] rfl
                      have hlt_107 : (fz_ 1).toInt < (fz_ 2).toInt := tz_ltt2 c_100 (hdi.2 1 2 (by omega) (by omega))
                      have hb_108 := hdi.1 0 (by omega)
                      have hb_109 := hdi.1 1 (by omega)
                      have hb_110 := hdi.1 2 (by omega)
                      have hb_111 := hdi.1 3 (by omega)
                      have ev_112 : tz_val 4 fz_ = 7776 * (fz_ 0).toInt + 1296 * (fz_ 1).toInt + 216 * (fz_ 2).toInt + 36 * (fz_ 3).toInt + 6 * 0 + 0 := rfl
                      have eg_113 : tz_val 4 (upd (upd (upd (upd fz_ (Int32.toNatClampNeg 1) (fz_ 2)) (Int32.toNatClampNeg 2) (fz_ 1)) (Int32.toNatClampNeg 2) (fz_ 3)) (Int32.toNatClampNeg 3) (fz_ 1)) = 7776 * (fz_ 0).toInt + 1296 * (fz_ 2).toInt + 216 * (fz_ 3).toInt + 36 * (fz_ 1).toInt + 6 * 0 + 0 := rfl
                      have hp_114 : tz_Di 4 (upd (upd (upd (upd fz_ (Int32.toNatClampNeg 1) (fz_ 2)) (Int32.toNatClampNeg 2) (fz_ 1)) (Int32.toNatClampNeg 2) (fz_ 3)) (Int32.toNatClampNeg 3) (fz_ 1)) := hdi.perm (fun a => ([0, 2, 3, 1] : List Nat).getD a 0) (fun a ha => by
                        rcases (show a = 0 ∨ a = 1 ∨ a = 2 ∨ a = 3 by omega) with rfl | rfl | rfl | rfl <;> exact ⟨by decide, rfl⟩) (by decide)
                      exact W.zret (v := 1) hx hb hr (by decide) (fun t ht hW => ⟨⟨1, (), rfl, Or.inr ⟨rfl, 1, by omega, tz_nle_of c_100⟩, (upd (upd (upd (upd fz_ (Int32.toNatClampNeg 1) (fz_ 2)) (Int32.toNatClampNeg 2) (fz_ 1)) (Int32.toNatClampNeg 2) (fz_ 3)) (Int32.toNatClampNeg 3) (fz_ 1)), hp_114, by rw [ev_112, eg_113]; omega, fun _ => by rw [ev_112, eg_113]; omega, by rw [ht]; exact hP9, va_K.moved hW.alike hK9, hD9⟩, hS.F ht⟩) hS.2.2 dX12_nextOrder_156
                    · exact absurd c_106 (by decide)
                · exact absurd c_83 c_100
            · exact absurd c_84 (by decide)
          · refine lv_iinc (v := 0) (lv' := [(1, .int 0), (0, .ref mo)]) hx hb dX12_nextOrder_28 hl (k := 0) rfl (by decide) (by decide) rfl (fun ls hl => ?_)
            refine lv_goto (tgt := 7) hx hb dX12_nextOrder_31 (by decide) ?_
            refine lv_iload_n hx hb dX12_nextOrder_7 rfl (lv_at hl 0 rfl) ?_
            refine lv_if_lt (tgt := 34) hx hb dX12_nextOrder_8 (by decide) (fun c_115 => ?_) (fun c_115 => ?_)
            · exact absurd c_115 (by decide)
            · refine lv_aload_n hx hb dX12_nextOrder_11 rfl (lv_at hl 1 rfl) ?_
              refine va_get (D := (dC, dI)) (ci := 12) (v := .ref mz) (C := RX12) (T := TX12) (N := 24) hx hb hts iw_m_nextOrder_X12 hown hK hP 0 rfl rfl 13 (by decide) (hts (.fieldLink RX12 34 "ThriceCountedModel" "order" "[I") (by decide +kernel)) (fun _ h9 => h9) rfl dX12_nextOrder_12 ?_
              refine lv_iload_n hx hb dX12_nextOrder_15 rfl (lv_at hl 0 rfl) ?_
              refine va_iald hx hb hK hP 1 0 rfl rfl (show ¬ ((0 : Int32) < 0 ∨ 6 ≤ (0 : Int32).toNatClampNeg) by decide) dX12_nextOrder_16 ?_
              refine tz_i (fz_ 0) rfl ?_
              refine lv_aload_n hx hb dX12_nextOrder_17 rfl (lv_at hl 1 rfl) ?_
              refine va_get (D := (dC, dI)) (ci := 12) (v := .ref mz) (C := RX12) (T := TX12) (N := 24) hx hb hts iw_m_nextOrder_X12 hown hK hP 0 rfl rfl 13 (by decide) (hts (.fieldLink RX12 34 "ThriceCountedModel" "order" "[I") (by decide +kernel)) (fun _ h9 => h9) rfl dX12_nextOrder_18 ?_
              refine lv_iload_n hx hb dX12_nextOrder_21 rfl (lv_at hl 0 rfl) ?_
              refine lv_iconst (v := 1) hx hb dX12_nextOrder_22 (by decide) ?_
              refine lv_iadd hx hb dX12_nextOrder_23 ?_
              refine tz_i 1 (by decide) ?_
              refine va_iald hx hb hK hP 1 0 rfl rfl (show ¬ ((1 : Int32) < 0 ∨ 6 ≤ (1 : Int32).toNatClampNeg) by decide) dX12_nextOrder_24 ?_
              refine tz_i (fz_ 1) rfl ?_
              refine lv_icmp_le (tgt := 34) hx hb dX12_nextOrder_25 (by decide) (fun c_116 => ?_) (fun c_116 => ?_)
              · refine lv_iload_n hx hb dX12_nextOrder_34 rfl (lv_at hl 0 rfl) ?_
                refine lv_if_ge (tgt := 40) hx hb dX12_nextOrder_35 (by decide) (fun c_117 => ?_) (fun c_117 => ?_)
                · refine lv_aload_n hx hb dX12_nextOrder_40 rfl (lv_at hl 1 rfl) ?_
                  refine va_get (D := (dC, dI)) (ci := 12) (v := .int 4) (C := RX12) (T := TX12) (N := 24) hx hb hts iw_m_nextOrder_X12 hown hK hP 0 rfl rfl 15 (by decide) (hts (.fieldLink RX12 218 "ThriceCountedModel" "soughtMany" "I") (by decide +kernel)) (fun _ h9 => h9) rfl dX12_nextOrder_41 ?_
                  refine lv_iconst (v := 1) hx hb dX12_nextOrder_44 (by decide) ?_
                  refine lv_isub hx hb dX12_nextOrder_45 ?_
                  refine tz_i 3 (by decide) ?_
                  refine lv_istore_n (lv' := [(2, .int 3), (1, .int 0), (0, .ref mo)]) hx hb dX12_nextOrder_46 rfl hl (by decide) rfl (fun ls hl => ?_)
                  refine lv_aload_n hx hb dX12_nextOrder_47 rfl (lv_at hl 2 rfl) ?_
                  refine va_get (D := (dC, dI)) (ci := 12) (v := .ref mz) (C := RX12) (T := TX12) (N := 24) hx hb hts iw_m_nextOrder_X12 hown hK hP 0 rfl rfl 13 (by decide) (hts (.fieldLink RX12 34 "ThriceCountedModel" "order" "[I") (by decide +kernel)) (fun _ h9 => h9) rfl dX12_nextOrder_48 ?_
                  refine lv_iload_n hx hb dX12_nextOrder_51 rfl (lv_at hl 0 rfl) ?_
                  refine va_iald hx hb hK hP 1 0 rfl rfl (show ¬ ((3 : Int32) < 0 ∨ 6 ≤ (3 : Int32).toNatClampNeg) by decide) dX12_nextOrder_52 ?_
                  refine tz_i (fz_ 3) rfl ?_
                  refine lv_aload_n hx hb dX12_nextOrder_53 rfl (lv_at hl 2 rfl) ?_
                  refine va_get (D := (dC, dI)) (ci := 12) (v := .ref mz) (C := RX12) (T := TX12) (N := 24) hx hb hts iw_m_nextOrder_X12 hown hK hP 0 rfl rfl 13 (by decide) (hts (.fieldLink RX12 34 "ThriceCountedModel" "order" "[I") (by decide +kernel)) (fun _ h9 => h9) rfl dX12_nextOrder_54 ?_
                  refine lv_iload_n hx hb dX12_nextOrder_57 rfl (lv_at hl 1 rfl) ?_
                  refine va_iald hx hb hK hP 1 0 rfl rfl (show ¬ ((0 : Int32) < 0 ∨ 6 ≤ (0 : Int32).toNatClampNeg) by decide) dX12_nextOrder_58 ?_
                  refine tz_i (fz_ 0) rfl ?_
                  refine lv_icmp_ge (tgt := 68) hx hb dX12_nextOrder_59 (by decide) (fun c_118 => ?_) (fun c_118 => ?_)
                  · refine lv_aload_n hx hb dX12_nextOrder_68 rfl (lv_at hl 2 rfl) ?_
                    refine va_get (D := (dC, dI)) (ci := 12) (v := .ref mz) (C := RX12) (T := TX12) (N := 24) hx hb hts iw_m_nextOrder_X12 hown hK hP 0 rfl rfl 13 (by decide) (hts (.fieldLink RX12 34 "ThriceCountedModel" "order" "[I") (by decide +kernel)) (fun _ h9 => h9) rfl dX12_nextOrder_69 ?_
                    refine lv_iload_n hx hb dX12_nextOrder_72 rfl (lv_at hl 1 rfl) ?_
                    refine va_iald hx hb hK hP 1 0 rfl rfl (show ¬ ((0 : Int32) < 0 ∨ 6 ≤ (0 : Int32).toNatClampNeg) by decide) dX12_nextOrder_73 ?_
                    refine tz_i (fz_ 0) rfl ?_
                    refine lv_istore_n (lv' := [(3, .int (fz_ 0)), (2, .int 3), (1, .int 0), (0, .ref mo)]) hx hb dX12_nextOrder_74 rfl hl (by decide) rfl (fun ls hl => ?_)
                    refine lv_aload_n hx hb dX12_nextOrder_75 rfl (lv_at hl 3 rfl) ?_
                    refine va_get (D := (dC, dI)) (ci := 12) (v := .ref mz) (C := RX12) (T := TX12) (N := 24) hx hb hts iw_m_nextOrder_X12 hown hK hP 0 rfl rfl 13 (by decide) (hts (.fieldLink RX12 34 "ThriceCountedModel" "order" "[I") (by decide +kernel)) (fun _ h9 => h9) rfl dX12_nextOrder_76 ?_
                    refine lv_iload_n hx hb dX12_nextOrder_79 rfl (lv_at hl 2 rfl) ?_
                    refine lv_aload_n hx hb dX12_nextOrder_80 rfl (lv_at hl 3 rfl) ?_
                    refine va_get (D := (dC, dI)) (ci := 12) (v := .ref mz) (C := RX12) (T := TX12) (N := 24) hx hb hts iw_m_nextOrder_X12 hown hK hP 0 rfl rfl 13 (by decide) (hts (.fieldLink RX12 34 "ThriceCountedModel" "order" "[I") (by decide +kernel)) (fun _ h9 => h9) rfl dX12_nextOrder_81 ?_
                    refine lv_iload_n hx hb dX12_nextOrder_84 rfl (lv_at hl 1 rfl) ?_
                    refine va_iald hx hb hK hP 1 0 rfl rfl (show ¬ ((3 : Int32) < 0 ∨ 6 ≤ (3 : Int32).toNatClampNeg) by decide) dX12_nextOrder_85 ?_
                    refine tz_i (fz_ 3) rfl ?_
                    refine va_iast hx hb hK hP hD hS 1 0 rfl rfl (show ¬ ((0 : Int32) < 0 ∨ 6 ≤ (0 : Int32).toNatClampNeg) by decide) dX12_nextOrder_86 (fun H locs hP hD hS => ?_)
                    have hP : va_P (dC, dI) vwCl [(mo, .inr (12, [.ref nw, .ref kp, .ref ik, .ref mr, .long la_, .long lb_, .ref mw, .long lc_, .int ti_, .int cb_, .long ld_, .long le_, .ref mq, .ref mz, .ref my, .int 4, .ref mb, .int bl_, .int ta_, .int tl_, .int tk_, .int vl_, .ref mx, .ref mv])), (mz, .inl (cz_, 6, .inl (upd fz_ (Int32.toNatClampNeg 0) (fz_ 3))))] H := hP
                    have hD : va_D A [(mo, .inr (12, [.ref nw, .ref kp, .ref ik, .ref mr, .long la_, .long lb_, .ref mw, .long lc_, .int ti_, .int cb_, .long ld_, .long le_, .ref mq, .ref mz, .ref my, .int 4, .ref mb, .int bl_, .int ta_, .int tl_, .int tk_, .int vl_, .ref mx, .ref mv])), (mz, .inl (cz_, 6, .inl (upd fz_ (Int32.toNatClampNeg 0) (fz_ 3))))] := hD
                    refine lv_aload_n hx hb dX12_nextOrder_87 rfl (lv_at hl 3 rfl) ?_
                    refine va_get (D := (dC, dI)) (ci := 12) (v := .ref mz) (C := RX12) (T := TX12) (N := 24) hx hb hts iw_m_nextOrder_X12 hown hK hP 0 rfl rfl 13 (by decide) (hts (.fieldLink RX12 34 "ThriceCountedModel" "order" "[I") (by decide +kernel)) (fun _ h9 => h9) rfl dX12_nextOrder_88 ?_
                    refine lv_iload_n hx hb dX12_nextOrder_91 rfl (lv_at hl 1 rfl) ?_
                    refine lv_iload_n hx hb dX12_nextOrder_92 rfl (lv_at hl 0 rfl) ?_
                    refine va_iast hx hb hK hP hD hS 1 0 rfl rfl (show ¬ ((3 : Int32) < 0 ∨ 6 ≤ (3 : Int32).toNatClampNeg) by decide) dX12_nextOrder_93 (fun H locs hP hD hS => ?_)
                    have hP : va_P (dC, dI) vwCl [(mo, .inr (12, [.ref nw, .ref kp, .ref ik, .ref mr, .long la_, .long lb_, .ref mw, .long lc_, .int ti_, .int cb_, .long ld_, .long le_, .ref mq, .ref mz, .ref my, .int 4, .ref mb, .int bl_, .int ta_, .int tl_, .int tk_, .int vl_, .ref mx, .ref mv])), (mz, .inl (cz_, 6, .inl (upd (upd fz_ (Int32.toNatClampNeg 0) (fz_ 3)) (Int32.toNatClampNeg 3) (fz_ 0))))] H := hP
                    have hD : va_D A [(mo, .inr (12, [.ref nw, .ref kp, .ref ik, .ref mr, .long la_, .long lb_, .ref mw, .long lc_, .int ti_, .int cb_, .long ld_, .long le_, .ref mq, .ref mz, .ref my, .int 4, .ref mb, .int bl_, .int ta_, .int tl_, .int tk_, .int vl_, .ref mx, .ref mv])), (mz, .inl (cz_, 6, .inl (upd (upd fz_ (Int32.toNatClampNeg 0) (fz_ 3)) (Int32.toNatClampNeg 3) (fz_ 0))))] := hD
                    refine lv_iload_n hx hb dX12_nextOrder_94 rfl (lv_at hl 2 rfl) ?_
                    refine lv_iconst (v := 1) hx hb dX12_nextOrder_95 (by decide) ?_
                    refine lv_iadd hx hb dX12_nextOrder_96 ?_
                    refine tz_i 1 (by decide) ?_
                    refine lv_istore (lv' := [(4, .int 1), (3, .int (fz_ 0)), (2, .int 3), (1, .int 0), (0, .ref mo)]) hx hb dX12_nextOrder_97 hl (by decide) rfl (fun ls hl => ?_)
                    refine lv_aload_n hx hb dX12_nextOrder_99 rfl (lv_at hl 4 rfl) ?_
                    refine va_get (D := (dC, dI)) (ci := 12) (v := .int 4) (C := RX12) (T := TX12) (N := 24) hx hb hts iw_m_nextOrder_X12 hown hK hP 0 rfl rfl 15 (by decide) (hts (.fieldLink RX12 218 "ThriceCountedModel" "soughtMany" "I") (by decide +kernel)) (fun _ h9 => h9) rfl dX12_nextOrder_100 ?_
                    refine lv_iconst (v := 1) hx hb dX12_nextOrder_103 (by decide) ?_
                    refine lv_isub hx hb dX12_nextOrder_104 ?_
                    refine tz_i 3 (by decide) ?_
                    refine lv_istore (lv' := [(5, .int 3), (4, .int 1), (3, .int (fz_ 0)), (2, .int 3), (1, .int 0), (0, .ref mo)]) hx hb dX12_nextOrder_105 hl (by decide) rfl (fun ls hl => ?_)
                    refine lv_iload hx hb dX12_nextOrder_107 (lv_at hl 1 rfl) ?_
                    refine lv_iload hx hb dX12_nextOrder_109 (lv_at hl 0 rfl) ?_
                    refine lv_icmp_ge (tgt := 155) hx hb dX12_nextOrder_111 (by decide) (fun c_121 => ?_) (fun c_121 => ?_)
                    · exact absurd c_121 (by decide)
                    · refine lv_aload_n hx hb dX12_nextOrder_114 rfl (lv_at hl 5 rfl) ?_
                      refine va_get (D := (dC, dI)) (ci := 12) (v := .ref mz) (C := RX12) (T := TX12) (N := 24) hx hb hts iw_m_nextOrder_X12 hown hK hP 0 rfl rfl 13 (by decide) (hts (.fieldLink RX12 34 "ThriceCountedModel" "order" "[I") (by decide +kernel)) (fun _ h9 => h9) rfl dX12_nextOrder_115 ?_
                      refine lv_iload hx hb dX12_nextOrder_118 (lv_at hl 1 rfl) ?_
                      refine va_iald hx hb hK hP 1 0 rfl rfl (show ¬ ((1 : Int32) < 0 ∨ 6 ≤ (1 : Int32).toNatClampNeg) by decide) dX12_nextOrder_120 ?_
                      refine tz_i (fz_ 1) rfl ?_
                      refine lv_istore (lv' := [(6, .int (fz_ 1)), (5, .int 3), (4, .int 1), (3, .int (fz_ 0)), (2, .int 3), (1, .int 0), (0, .ref mo)]) hx hb dX12_nextOrder_121 hl (by decide) rfl (fun ls hl => ?_)
                      refine lv_aload_n hx hb dX12_nextOrder_123 rfl (lv_at hl 6 rfl) ?_
                      refine va_get (D := (dC, dI)) (ci := 12) (v := .ref mz) (C := RX12) (T := TX12) (N := 24) hx hb hts iw_m_nextOrder_X12 hown hK hP 0 rfl rfl 13 (by decide) (hts (.fieldLink RX12 34 "ThriceCountedModel" "order" "[I") (by decide +kernel)) (fun _ h9 => h9) rfl dX12_nextOrder_124 ?_
                      refine lv_iload hx hb dX12_nextOrder_127 (lv_at hl 2 rfl) ?_
                      refine lv_aload_n hx hb dX12_nextOrder_129 rfl (lv_at hl 6 rfl) ?_
                      refine va_get (D := (dC, dI)) (ci := 12) (v := .ref mz) (C := RX12) (T := TX12) (N := 24) hx hb hts iw_m_nextOrder_X12 hown hK hP 0 rfl rfl 13 (by decide) (hts (.fieldLink RX12 34 "ThriceCountedModel" "order" "[I") (by decide +kernel)) (fun _ h9 => h9) rfl dX12_nextOrder_130 ?_
                      refine lv_iload hx hb dX12_nextOrder_133 (lv_at hl 1 rfl) ?_
                      refine va_iald hx hb hK hP 1 0 rfl rfl (show ¬ ((3 : Int32) < 0 ∨ 6 ≤ (3 : Int32).toNatClampNeg) by decide) dX12_nextOrder_135 ?_
                      refine tz_i (fz_ 0) rfl ?_
                      refine va_iast hx hb hK hP hD hS 1 0 rfl rfl (show ¬ ((1 : Int32) < 0 ∨ 6 ≤ (1 : Int32).toNatClampNeg) by decide) dX12_nextOrder_136 (fun H locs hP hD hS => ?_)
                      have hP : va_P (dC, dI) vwCl [(mo, .inr (12, [.ref nw, .ref kp, .ref ik, .ref mr, .long la_, .long lb_, .ref mw, .long lc_, .int ti_, .int cb_, .long ld_, .long le_, .ref mq, .ref mz, .ref my, .int 4, .ref mb, .int bl_, .int ta_, .int tl_, .int tk_, .int vl_, .ref mx, .ref mv])), (mz, .inl (cz_, 6, .inl (upd (upd (upd fz_ (Int32.toNatClampNeg 0) (fz_ 3)) (Int32.toNatClampNeg 3) (fz_ 0)) (Int32.toNatClampNeg 1) (fz_ 0))))] H := hP
                      have hD : va_D A [(mo, .inr (12, [.ref nw, .ref kp, .ref ik, .ref mr, .long la_, .long lb_, .ref mw, .long lc_, .int ti_, .int cb_, .long ld_, .long le_, .ref mq, .ref mz, .ref my, .int 4, .ref mb, .int bl_, .int ta_, .int tl_, .int tk_, .int vl_, .ref mx, .ref mv])), (mz, .inl (cz_, 6, .inl (upd (upd (upd fz_ (Int32.toNatClampNeg 0) (fz_ 3)) (Int32.toNatClampNeg 3) (fz_ 0)) (Int32.toNatClampNeg 1) (fz_ 0))))] := hD
                      refine lv_aload_n hx hb dX12_nextOrder_137 rfl (lv_at hl 6 rfl) ?_
                      refine va_get (D := (dC, dI)) (ci := 12) (v := .ref mz) (C := RX12) (T := TX12) (N := 24) hx hb hts iw_m_nextOrder_X12 hown hK hP 0 rfl rfl 13 (by decide) (hts (.fieldLink RX12 34 "ThriceCountedModel" "order" "[I") (by decide +kernel)) (fun _ h9 => h9) rfl dX12_nextOrder_138 ?_
                      refine lv_iload hx hb dX12_nextOrder_141 (lv_at hl 1 rfl) ?_
                      refine lv_iload hx hb dX12_nextOrder_143 (lv_at hl 0 rfl) ?_
                      refine va_iast hx hb hK hP hD hS 1 0 rfl rfl (show ¬ ((3 : Int32) < 0 ∨ 6 ≤ (3 : Int32).toNatClampNeg) by decide) dX12_nextOrder_145 (fun H locs hP hD hS => ?_)
                      have hP : va_P (dC, dI) vwCl [(mo, .inr (12, [.ref nw, .ref kp, .ref ik, .ref mr, .long la_, .long lb_, .ref mw, .long lc_, .int ti_, .int cb_, .long ld_, .long le_, .ref mq, .ref mz, .ref my, .int 4, .ref mb, .int bl_, .int ta_, .int tl_, .int tk_, .int vl_, .ref mx, .ref mv])), (mz, .inl (cz_, 6, .inl (upd (upd (upd (upd fz_ (Int32.toNatClampNeg 0) (fz_ 3)) (Int32.toNatClampNeg 3) (fz_ 0)) (Int32.toNatClampNeg 1) (fz_ 0)) (Int32.toNatClampNeg 3) (fz_ 1))))] H := hP
                      have hD : va_D A [(mo, .inr (12, [.ref nw, .ref kp, .ref ik, .ref mr, .long la_, .long lb_, .ref mw, .long lc_, .int ti_, .int cb_, .long ld_, .long le_, .ref mq, .ref mz, .ref my, .int 4, .ref mb, .int bl_, .int ta_, .int tl_, .int tk_, .int vl_, .ref mx, .ref mv])), (mz, .inl (cz_, 6, .inl (upd (upd (upd (upd fz_ (Int32.toNatClampNeg 0) (fz_ 3)) (Int32.toNatClampNeg 3) (fz_ 0)) (Int32.toNatClampNeg 1) (fz_ 0)) (Int32.toNatClampNeg 3) (fz_ 1))))] := hD
                      refine lv_iinc (v := 2) (lv' := [(4, .int 2), (6, .int (fz_ 1)), (5, .int 3), (3, .int (fz_ 0)), (2, .int 3), (1, .int 0), (0, .ref mo)]) hx hb dX12_nextOrder_146 hl (k := 2) rfl (by decide) (by decide) rfl (fun ls hl => ?_)
                      refine lv_iinc (v := 2) (lv' := [(5, .int 2), (4, .int 2), (6, .int (fz_ 1)), (3, .int (fz_ 0)), (2, .int 3), (1, .int 0), (0, .ref mo)]) hx hb dX12_nextOrder_149 hl (k := 2) rfl (by decide) (by decide) rfl (fun ls hl => ?_)
                      refine lv_goto (tgt := 107) hx hb dX12_nextOrder_152 (by decide) ?_
                      refine lv_iload hx hb dX12_nextOrder_107 (lv_at hl 1 rfl) ?_
                      refine lv_iload hx hb dX12_nextOrder_109 (lv_at hl 0 rfl) ?_
                      refine lv_icmp_ge (tgt := 155) hx hb dX12_nextOrder_111 (by decide) (fun c_124 => ?_) (fun c_124 => ?_)
                      · refine lv_iconst (v := 1) hx hb dX12_nextOrder_155 (by decide) ?_
                        have hP9 := hP.sub (ws' := [(mo, .inr (12, [.ref nw, .ref kp, .ref ik, .ref mr, .long la_, .long lb_, .ref mw, .long lc_, .int ti_, .int cb_, .long ld_, .long le_, .ref mq, .ref mz, .ref my, .int (nI 4), .ref mb, .int bl_, .int ta_, .int tl_, .int tk_, .int vl_, .ref mx, .ref mv])), (mz, .inl (cz_, 6, .inl (upd (upd (upd (upd fz_ (Int32.toNatClampNeg 0) (fz_ 3)) (Int32.toNatClampNeg 3) (fz_ 0)) (Int32.toNatClampNeg 1) (fz_ 0)) (Int32.toNatClampNeg 3) (fz_ 1))))]) [0, 1] rfl
                        have hD9 := hD.sub (ws' := [(mo, .inr (12, [.ref nw, .ref kp, .ref ik, .ref mr, .long la_, .long lb_, .ref mw, .long lc_, .int ti_, .int cb_, .long ld_, .long le_, .ref mq, .ref mz, .ref my, .int (nI 4), .ref mb, .int bl_, .int ta_, .int tl_, .int tk_, .int vl_, .ref mx, .ref mv])), (mz, .inl (cz_, 6, .inl (upd (upd (upd (upd fz_ (Int32.toNatClampNeg 0) (fz_ 3)) (Int32.toNatClampNeg 3) (fz_ 0)) (Int32.toNatClampNeg 1) (fz_ 0)) (Int32.toNatClampNeg 3) (fz_ 1))))]) [0, 1] (by decide) rfl
                        have hK9 := hK.sub (tys' := [(cz_, .int)]) [0] rfl
                        have hlt_125 : (fz_ 0).toInt < (fz_ 3).toInt := tz_ltt2 c_118 (hdi.2 0 3 (by omega) (by omega))
                        have hb_126 := hdi.1 0 (by omega)
                        have hb_127 := hdi.1 1 (by omega)
                        have hb_128 := hdi.1 2 (by omega)
                        have hb_129 := hdi.1 3 (by omega)
                        have ev_130 : tz_val 4 fz_ = 7776 * (fz_ 0).toInt + 1296 * (fz_ 1).toInt + 216 * (fz_ 2).toInt + 36 * (fz_ 3).toInt + 6 * 0 + 0 := rfl
                        have eg_131 : tz_val 4 (upd (upd (upd (upd fz_ (Int32.toNatClampNeg 0) (fz_ 3)) (Int32.toNatClampNeg 3) (fz_ 0)) (Int32.toNatClampNeg 1) (fz_ 0)) (Int32.toNatClampNeg 3) (fz_ 1)) = 7776 * (fz_ 3).toInt + 1296 * (fz_ 0).toInt + 216 * (fz_ 2).toInt + 36 * (fz_ 1).toInt + 6 * 0 + 0 := rfl
                        have hp_132 : tz_Di 4 (upd (upd (upd (upd fz_ (Int32.toNatClampNeg 0) (fz_ 3)) (Int32.toNatClampNeg 3) (fz_ 0)) (Int32.toNatClampNeg 1) (fz_ 0)) (Int32.toNatClampNeg 3) (fz_ 1)) := hdi.perm (fun a => ([3, 0, 2, 1] : List Nat).getD a 0) (fun a ha => by
                          rcases (show a = 0 ∨ a = 1 ∨ a = 2 ∨ a = 3 by omega) with rfl | rfl | rfl | rfl <;> exact ⟨by decide, rfl⟩) (by decide)
                        exact W.zret (v := 1) hx hb hr (by decide) (fun t ht hW => ⟨⟨1, (), rfl, Or.inr ⟨rfl, 0, by omega, tz_nle_of c_116⟩, (upd (upd (upd (upd fz_ (Int32.toNatClampNeg 0) (fz_ 3)) (Int32.toNatClampNeg 3) (fz_ 0)) (Int32.toNatClampNeg 1) (fz_ 0)) (Int32.toNatClampNeg 3) (fz_ 1)), hp_132, by rw [ev_130, eg_131]; omega, fun _ => by rw [ev_130, eg_131]; omega, by rw [ht]; exact hP9, va_K.moved hW.alike hK9, hD9⟩, hS.F ht⟩) hS.2.2 dX12_nextOrder_156
                      · exact absurd c_124 (by decide)
                  · refine lv_iinc (v := 2) (lv' := [(2, .int 2), (1, .int 0), (0, .ref mo)]) hx hb dX12_nextOrder_62 hl (k := 0) rfl (by decide) (by decide) rfl (fun ls hl => ?_)
                    refine lv_goto (tgt := 47) hx hb dX12_nextOrder_65 (by decide) ?_
                    refine lv_aload_n hx hb dX12_nextOrder_47 rfl (lv_at hl 2 rfl) ?_
                    refine va_get (D := (dC, dI)) (ci := 12) (v := .ref mz) (C := RX12) (T := TX12) (N := 24) hx hb hts iw_m_nextOrder_X12 hown hK hP 0 rfl rfl 13 (by decide) (hts (.fieldLink RX12 34 "ThriceCountedModel" "order" "[I") (by decide +kernel)) (fun _ h9 => h9) rfl dX12_nextOrder_48 ?_
                    refine lv_iload_n hx hb dX12_nextOrder_51 rfl (lv_at hl 0 rfl) ?_
                    refine va_iald hx hb hK hP 1 0 rfl rfl (show ¬ ((2 : Int32) < 0 ∨ 6 ≤ (2 : Int32).toNatClampNeg) by decide) dX12_nextOrder_52 ?_
                    refine tz_i (fz_ 2) rfl ?_
                    refine lv_aload_n hx hb dX12_nextOrder_53 rfl (lv_at hl 2 rfl) ?_
                    refine va_get (D := (dC, dI)) (ci := 12) (v := .ref mz) (C := RX12) (T := TX12) (N := 24) hx hb hts iw_m_nextOrder_X12 hown hK hP 0 rfl rfl 13 (by decide) (hts (.fieldLink RX12 34 "ThriceCountedModel" "order" "[I") (by decide +kernel)) (fun _ h9 => h9) rfl dX12_nextOrder_54 ?_
                    refine lv_iload_n hx hb dX12_nextOrder_57 rfl (lv_at hl 1 rfl) ?_
                    refine va_iald hx hb hK hP 1 0 rfl rfl (show ¬ ((0 : Int32) < 0 ∨ 6 ≤ (0 : Int32).toNatClampNeg) by decide) dX12_nextOrder_58 ?_
                    refine tz_i (fz_ 0) rfl ?_
                    refine lv_icmp_ge (tgt := 68) hx hb dX12_nextOrder_59 (by decide) (fun c_133 => ?_) (fun c_133 => ?_)
                    · refine lv_aload_n hx hb dX12_nextOrder_68 rfl (lv_at hl 2 rfl) ?_
                      refine va_get (D := (dC, dI)) (ci := 12) (v := .ref mz) (C := RX12) (T := TX12) (N := 24) hx hb hts iw_m_nextOrder_X12 hown hK hP 0 rfl rfl 13 (by decide) (hts (.fieldLink RX12 34 "ThriceCountedModel" "order" "[I") (by decide +kernel)) (fun _ h9 => h9) rfl dX12_nextOrder_69 ?_
                      refine lv_iload_n hx hb dX12_nextOrder_72 rfl (lv_at hl 1 rfl) ?_
                      refine va_iald hx hb hK hP 1 0 rfl rfl (show ¬ ((0 : Int32) < 0 ∨ 6 ≤ (0 : Int32).toNatClampNeg) by decide) dX12_nextOrder_73 ?_
                      refine tz_i (fz_ 0) rfl ?_
                      refine lv_istore_n (lv' := [(3, .int (fz_ 0)), (2, .int 2), (1, .int 0), (0, .ref mo)]) hx hb dX12_nextOrder_74 rfl hl (by decide) rfl (fun ls hl => ?_)
                      refine lv_aload_n hx hb dX12_nextOrder_75 rfl (lv_at hl 3 rfl) ?_
                      refine va_get (D := (dC, dI)) (ci := 12) (v := .ref mz) (C := RX12) (T := TX12) (N := 24) hx hb hts iw_m_nextOrder_X12 hown hK hP 0 rfl rfl 13 (by decide) (hts (.fieldLink RX12 34 "ThriceCountedModel" "order" "[I") (by decide +kernel)) (fun _ h9 => h9) rfl dX12_nextOrder_76 ?_
                      refine lv_iload_n hx hb dX12_nextOrder_79 rfl (lv_at hl 2 rfl) ?_
                      refine lv_aload_n hx hb dX12_nextOrder_80 rfl (lv_at hl 3 rfl) ?_
                      refine va_get (D := (dC, dI)) (ci := 12) (v := .ref mz) (C := RX12) (T := TX12) (N := 24) hx hb hts iw_m_nextOrder_X12 hown hK hP 0 rfl rfl 13 (by decide) (hts (.fieldLink RX12 34 "ThriceCountedModel" "order" "[I") (by decide +kernel)) (fun _ h9 => h9) rfl dX12_nextOrder_81 ?_
                      refine lv_iload_n hx hb dX12_nextOrder_84 rfl (lv_at hl 1 rfl) ?_
                      refine va_iald hx hb hK hP 1 0 rfl rfl (show ¬ ((2 : Int32) < 0 ∨ 6 ≤ (2 : Int32).toNatClampNeg) by decide) dX12_nextOrder_85 ?_
                      refine tz_i (fz_ 2) rfl ?_
                      refine va_iast hx hb hK hP hD hS 1 0 rfl rfl (show ¬ ((0 : Int32) < 0 ∨ 6 ≤ (0 : Int32).toNatClampNeg) by decide) dX12_nextOrder_86 (fun H locs hP hD hS => ?_)
                      have hP : va_P (dC, dI) vwCl [(mo, .inr (12, [.ref nw, .ref kp, .ref ik, .ref mr, .long la_, .long lb_, .ref mw, .long lc_, .int ti_, .int cb_, .long ld_, .long le_, .ref mq, .ref mz, .ref my, .int 4, .ref mb, .int bl_, .int ta_, .int tl_, .int tk_, .int vl_, .ref mx, .ref mv])), (mz, .inl (cz_, 6, .inl (upd fz_ (Int32.toNatClampNeg 0) (fz_ 2))))] H := hP
                      have hD : va_D A [(mo, .inr (12, [.ref nw, .ref kp, .ref ik, .ref mr, .long la_, .long lb_, .ref mw, .long lc_, .int ti_, .int cb_, .long ld_, .long le_, .ref mq, .ref mz, .ref my, .int 4, .ref mb, .int bl_, .int ta_, .int tl_, .int tk_, .int vl_, .ref mx, .ref mv])), (mz, .inl (cz_, 6, .inl (upd fz_ (Int32.toNatClampNeg 0) (fz_ 2))))] := hD
                      refine lv_aload_n hx hb dX12_nextOrder_87 rfl (lv_at hl 3 rfl) ?_
                      refine va_get (D := (dC, dI)) (ci := 12) (v := .ref mz) (C := RX12) (T := TX12) (N := 24) hx hb hts iw_m_nextOrder_X12 hown hK hP 0 rfl rfl 13 (by decide) (hts (.fieldLink RX12 34 "ThriceCountedModel" "order" "[I") (by decide +kernel)) (fun _ h9 => h9) rfl dX12_nextOrder_88 ?_
                      refine lv_iload_n hx hb dX12_nextOrder_91 rfl (lv_at hl 1 rfl) ?_
                      refine lv_iload_n hx hb dX12_nextOrder_92 rfl (lv_at hl 0 rfl) ?_
                      refine va_iast hx hb hK hP hD hS 1 0 rfl rfl (show ¬ ((2 : Int32) < 0 ∨ 6 ≤ (2 : Int32).toNatClampNeg) by decide) dX12_nextOrder_93 (fun H locs hP hD hS => ?_)
                      have hP : va_P (dC, dI) vwCl [(mo, .inr (12, [.ref nw, .ref kp, .ref ik, .ref mr, .long la_, .long lb_, .ref mw, .long lc_, .int ti_, .int cb_, .long ld_, .long le_, .ref mq, .ref mz, .ref my, .int 4, .ref mb, .int bl_, .int ta_, .int tl_, .int tk_, .int vl_, .ref mx, .ref mv])), (mz, .inl (cz_, 6, .inl (upd (upd fz_ (Int32.toNatClampNeg 0) (fz_ 2)) (Int32.toNatClampNeg 2) (fz_ 0))))] H := hP
                      have hD : va_D A [(mo, .inr (12, [.ref nw, .ref kp, .ref ik, .ref mr, .long la_, .long lb_, .ref mw, .long lc_, .int ti_, .int cb_, .long ld_, .long le_, .ref mq, .ref mz, .ref my, .int 4, .ref mb, .int bl_, .int ta_, .int tl_, .int tk_, .int vl_, .ref mx, .ref mv])), (mz, .inl (cz_, 6, .inl (upd (upd fz_ (Int32.toNatClampNeg 0) (fz_ 2)) (Int32.toNatClampNeg 2) (fz_ 0))))] := hD
                      refine lv_iload_n hx hb dX12_nextOrder_94 rfl (lv_at hl 2 rfl) ?_
                      refine lv_iconst (v := 1) hx hb dX12_nextOrder_95 (by decide) ?_
                      refine lv_iadd hx hb dX12_nextOrder_96 ?_
                      refine tz_i 1 (by decide) ?_
                      refine lv_istore (lv' := [(4, .int 1), (3, .int (fz_ 0)), (2, .int 2), (1, .int 0), (0, .ref mo)]) hx hb dX12_nextOrder_97 hl (by decide) rfl (fun ls hl => ?_)
                      refine lv_aload_n hx hb dX12_nextOrder_99 rfl (lv_at hl 4 rfl) ?_
                      refine va_get (D := (dC, dI)) (ci := 12) (v := .int 4) (C := RX12) (T := TX12) (N := 24) hx hb hts iw_m_nextOrder_X12 hown hK hP 0 rfl rfl 15 (by decide) (hts (.fieldLink RX12 218 "ThriceCountedModel" "soughtMany" "I") (by decide +kernel)) (fun _ h9 => h9) rfl dX12_nextOrder_100 ?_
                      refine lv_iconst (v := 1) hx hb dX12_nextOrder_103 (by decide) ?_
                      refine lv_isub hx hb dX12_nextOrder_104 ?_
                      refine tz_i 3 (by decide) ?_
                      refine lv_istore (lv' := [(5, .int 3), (4, .int 1), (3, .int (fz_ 0)), (2, .int 2), (1, .int 0), (0, .ref mo)]) hx hb dX12_nextOrder_105 hl (by decide) rfl (fun ls hl => ?_)
                      refine lv_iload hx hb dX12_nextOrder_107 (lv_at hl 1 rfl) ?_
                      refine lv_iload hx hb dX12_nextOrder_109 (lv_at hl 0 rfl) ?_
                      refine lv_icmp_ge (tgt := 155) hx hb dX12_nextOrder_111 (by decide) (fun c_136 => ?_) (fun c_136 => ?_)
                      · exact absurd c_136 (by decide)
                      · refine lv_aload_n hx hb dX12_nextOrder_114 rfl (lv_at hl 5 rfl) ?_
                        refine va_get (D := (dC, dI)) (ci := 12) (v := .ref mz) (C := RX12) (T := TX12) (N := 24) hx hb hts iw_m_nextOrder_X12 hown hK hP 0 rfl rfl 13 (by decide) (hts (.fieldLink RX12 34 "ThriceCountedModel" "order" "[I") (by decide +kernel)) (fun _ h9 => h9) rfl dX12_nextOrder_115 ?_
                        refine lv_iload hx hb dX12_nextOrder_118 (lv_at hl 1 rfl) ?_
                        refine va_iald hx hb hK hP 1 0 rfl rfl (show ¬ ((1 : Int32) < 0 ∨ 6 ≤ (1 : Int32).toNatClampNeg) by decide) dX12_nextOrder_120 ?_
                        refine tz_i (fz_ 1) rfl ?_
                        refine lv_istore (lv' := [(6, .int (fz_ 1)), (5, .int 3), (4, .int 1), (3, .int (fz_ 0)), (2, .int 2), (1, .int 0), (0, .ref mo)]) hx hb dX12_nextOrder_121 hl (by decide) rfl (fun ls hl => ?_)
                        refine lv_aload_n hx hb dX12_nextOrder_123 rfl (lv_at hl 6 rfl) ?_
                        refine va_get (D := (dC, dI)) (ci := 12) (v := .ref mz) (C := RX12) (T := TX12) (N := 24) hx hb hts iw_m_nextOrder_X12 hown hK hP 0 rfl rfl 13 (by decide) (hts (.fieldLink RX12 34 "ThriceCountedModel" "order" "[I") (by decide +kernel)) (fun _ h9 => h9) rfl dX12_nextOrder_124 ?_
                        refine lv_iload hx hb dX12_nextOrder_127 (lv_at hl 2 rfl) ?_
                        refine lv_aload_n hx hb dX12_nextOrder_129 rfl (lv_at hl 6 rfl) ?_
                        refine va_get (D := (dC, dI)) (ci := 12) (v := .ref mz) (C := RX12) (T := TX12) (N := 24) hx hb hts iw_m_nextOrder_X12 hown hK hP 0 rfl rfl 13 (by decide) (hts (.fieldLink RX12 34 "ThriceCountedModel" "order" "[I") (by decide +kernel)) (fun _ h9 => h9) rfl dX12_nextOrder_130 ?_
                        refine lv_iload hx hb dX12_nextOrder_133 (lv_at hl 1 rfl) ?_
                        refine va_iald hx hb hK hP 1 0 rfl rfl (show ¬ ((3 : Int32) < 0 ∨ 6 ≤ (3 : Int32).toNatClampNeg) by decide) dX12_nextOrder_135 ?_
                        refine tz_i (fz_ 3) rfl ?_
                        refine va_iast hx hb hK hP hD hS 1 0 rfl rfl (show ¬ ((1 : Int32) < 0 ∨ 6 ≤ (1 : Int32).toNatClampNeg) by decide) dX12_nextOrder_136 (fun H locs hP hD hS => ?_)
                        have hP : va_P (dC, dI) vwCl [(mo, .inr (12, [.ref nw, .ref kp, .ref ik, .ref mr, .long la_, .long lb_, .ref mw, .long lc_, .int ti_, .int cb_, .long ld_, .long le_, .ref mq, .ref mz, .ref my, .int 4, .ref mb, .int bl_, .int ta_, .int tl_, .int tk_, .int vl_, .ref mx, .ref mv])), (mz, .inl (cz_, 6, .inl (upd (upd (upd fz_ (Int32.toNatClampNeg 0) (fz_ 2)) (Int32.toNatClampNeg 2) (fz_ 0)) (Int32.toNatClampNeg 1) (fz_ 3))))] H := hP
                        have hD : va_D A [(mo, .inr (12, [.ref nw, .ref kp, .ref ik, .ref mr, .long la_, .long lb_, .ref mw, .long lc_, .int ti_, .int cb_, .long ld_, .long le_, .ref mq, .ref mz, .ref my, .int 4, .ref mb, .int bl_, .int ta_, .int tl_, .int tk_, .int vl_, .ref mx, .ref mv])), (mz, .inl (cz_, 6, .inl (upd (upd (upd fz_ (Int32.toNatClampNeg 0) (fz_ 2)) (Int32.toNatClampNeg 2) (fz_ 0)) (Int32.toNatClampNeg 1) (fz_ 3))))] := hD
                        refine lv_aload_n hx hb dX12_nextOrder_137 rfl (lv_at hl 6 rfl) ?_
                        refine va_get (D := (dC, dI)) (ci := 12) (v := .ref mz) (C := RX12) (T := TX12) (N := 24) hx hb hts iw_m_nextOrder_X12 hown hK hP 0 rfl rfl 13 (by decide) (hts (.fieldLink RX12 34 "ThriceCountedModel" "order" "[I") (by decide +kernel)) (fun _ h9 => h9) rfl dX12_nextOrder_138 ?_
                        refine lv_iload hx hb dX12_nextOrder_141 (lv_at hl 1 rfl) ?_
                        refine lv_iload hx hb dX12_nextOrder_143 (lv_at hl 0 rfl) ?_
                        refine va_iast hx hb hK hP hD hS 1 0 rfl rfl (show ¬ ((3 : Int32) < 0 ∨ 6 ≤ (3 : Int32).toNatClampNeg) by decide) dX12_nextOrder_145 (fun H locs hP hD hS => ?_)
                        have hP : va_P (dC, dI) vwCl [(mo, .inr (12, [.ref nw, .ref kp, .ref ik, .ref mr, .long la_, .long lb_, .ref mw, .long lc_, .int ti_, .int cb_, .long ld_, .long le_, .ref mq, .ref mz, .ref my, .int 4, .ref mb, .int bl_, .int ta_, .int tl_, .int tk_, .int vl_, .ref mx, .ref mv])), (mz, .inl (cz_, 6, .inl (upd (upd (upd (upd fz_ (Int32.toNatClampNeg 0) (fz_ 2)) (Int32.toNatClampNeg 2) (fz_ 0)) (Int32.toNatClampNeg 1) (fz_ 3)) (Int32.toNatClampNeg 3) (fz_ 1))))] H := hP
                        have hD : va_D A [(mo, .inr (12, [.ref nw, .ref kp, .ref ik, .ref mr, .long la_, .long lb_, .ref mw, .long lc_, .int ti_, .int cb_, .long ld_, .long le_, .ref mq, .ref mz, .ref my, .int 4, .ref mb, .int bl_, .int ta_, .int tl_, .int tk_, .int vl_, .ref mx, .ref mv])), (mz, .inl (cz_, 6, .inl (upd (upd (upd (upd fz_ (Int32.toNatClampNeg 0) (fz_ 2)) (Int32.toNatClampNeg 2) (fz_ 0)) (Int32.toNatClampNeg 1) (fz_ 3)) (Int32.toNatClampNeg 3) (fz_ 1))))] := hD
                        refine lv_iinc (v := 2) (lv' := [(4, .int 2), (6, .int (fz_ 1)), (5, .int 3), (3, .int (fz_ 0)), (2, .int 2), (1, .int 0), (0, .ref mo)]) hx hb dX12_nextOrder_146 hl (k := 2) rfl (by decide) (by decide) rfl (fun ls hl => ?_)
                        refine lv_iinc (v := 2) (lv' := [(5, .int 2), (4, .int 2), (6, .int (fz_ 1)), (3, .int (fz_ 0)), (2, .int 2), (1, .int 0), (0, .ref mo)]) hx hb dX12_nextOrder_149 hl (k := 2) rfl (by decide) (by decide) rfl (fun ls hl => ?_)
                        refine lv_goto (tgt := 107) hx hb dX12_nextOrder_152 (by decide) ?_
                        refine lv_iload hx hb dX12_nextOrder_107 (lv_at hl 1 rfl) ?_
                        refine lv_iload hx hb dX12_nextOrder_109 (lv_at hl 0 rfl) ?_
                        refine lv_icmp_ge (tgt := 155) hx hb dX12_nextOrder_111 (by decide) (fun c_139 => ?_) (fun c_139 => ?_)
                        · refine lv_iconst (v := 1) hx hb dX12_nextOrder_155 (by decide) ?_
                          have hP9 := hP.sub (ws' := [(mo, .inr (12, [.ref nw, .ref kp, .ref ik, .ref mr, .long la_, .long lb_, .ref mw, .long lc_, .int ti_, .int cb_, .long ld_, .long le_, .ref mq, .ref mz, .ref my, .int (nI 4), .ref mb, .int bl_, .int ta_, .int tl_, .int tk_, .int vl_, .ref mx, .ref mv])), (mz, .inl (cz_, 6, .inl (upd (upd (upd (upd fz_ (Int32.toNatClampNeg 0) (fz_ 2)) (Int32.toNatClampNeg 2) (fz_ 0)) (Int32.toNatClampNeg 1) (fz_ 3)) (Int32.toNatClampNeg 3) (fz_ 1))))]) [0, 1] rfl
                          have hD9 := hD.sub (ws' := [(mo, .inr (12, [.ref nw, .ref kp, .ref ik, .ref mr, .long la_, .long lb_, .ref mw, .long lc_, .int ti_, .int cb_, .long ld_, .long le_, .ref mq, .ref mz, .ref my, .int (nI 4), .ref mb, .int bl_, .int ta_, .int tl_, .int tk_, .int vl_, .ref mx, .ref mv])), (mz, .inl (cz_, 6, .inl (upd (upd (upd (upd fz_ (Int32.toNatClampNeg 0) (fz_ 2)) (Int32.toNatClampNeg 2) (fz_ 0)) (Int32.toNatClampNeg 1) (fz_ 3)) (Int32.toNatClampNeg 3) (fz_ 1))))]) [0, 1] (by decide) rfl
                          have hK9 := hK.sub (tys' := [(cz_, .int)]) [0] rfl
                          have hlt_140 : (fz_ 0).toInt < (fz_ 2).toInt := tz_ltt2 c_133 (hdi.2 0 2 (by omega) (by omega))
                          have hb_141 := hdi.1 0 (by omega)
                          have hb_142 := hdi.1 1 (by omega)
                          have hb_143 := hdi.1 2 (by omega)
                          have hb_144 := hdi.1 3 (by omega)
                          have ev_145 : tz_val 4 fz_ = 7776 * (fz_ 0).toInt + 1296 * (fz_ 1).toInt + 216 * (fz_ 2).toInt + 36 * (fz_ 3).toInt + 6 * 0 + 0 := rfl
                          have eg_146 : tz_val 4 (upd (upd (upd (upd fz_ (Int32.toNatClampNeg 0) (fz_ 2)) (Int32.toNatClampNeg 2) (fz_ 0)) (Int32.toNatClampNeg 1) (fz_ 3)) (Int32.toNatClampNeg 3) (fz_ 1)) = 7776 * (fz_ 2).toInt + 1296 * (fz_ 3).toInt + 216 * (fz_ 0).toInt + 36 * (fz_ 1).toInt + 6 * 0 + 0 := rfl
                          have hp_147 : tz_Di 4 (upd (upd (upd (upd fz_ (Int32.toNatClampNeg 0) (fz_ 2)) (Int32.toNatClampNeg 2) (fz_ 0)) (Int32.toNatClampNeg 1) (fz_ 3)) (Int32.toNatClampNeg 3) (fz_ 1)) := hdi.perm (fun a => ([2, 3, 0, 1] : List Nat).getD a 0) (fun a ha => by
                            rcases (show a = 0 ∨ a = 1 ∨ a = 2 ∨ a = 3 by omega) with rfl | rfl | rfl | rfl <;> exact ⟨by decide, rfl⟩) (by decide)
                          exact W.zret (v := 1) hx hb hr (by decide) (fun t ht hW => ⟨⟨1, (), rfl, Or.inr ⟨rfl, 0, by omega, tz_nle_of c_116⟩, (upd (upd (upd (upd fz_ (Int32.toNatClampNeg 0) (fz_ 2)) (Int32.toNatClampNeg 2) (fz_ 0)) (Int32.toNatClampNeg 1) (fz_ 3)) (Int32.toNatClampNeg 3) (fz_ 1)), hp_147, by rw [ev_145, eg_146]; omega, fun _ => by rw [ev_145, eg_146]; omega, by rw [ht]; exact hP9, va_K.moved hW.alike hK9, hD9⟩, hS.F ht⟩) hS.2.2 dX12_nextOrder_156
                        · exact absurd c_139 (by decide)
                    · refine lv_iinc (v := 1) (lv' := [(2, .int 1), (1, .int 0), (0, .ref mo)]) hx hb dX12_nextOrder_62 hl (k := 0) rfl (by decide) (by decide) rfl (fun ls hl => ?_)
                      refine lv_goto (tgt := 47) hx hb dX12_nextOrder_65 (by decide) ?_
                      refine lv_aload_n hx hb dX12_nextOrder_47 rfl (lv_at hl 2 rfl) ?_
                      refine va_get (D := (dC, dI)) (ci := 12) (v := .ref mz) (C := RX12) (T := TX12) (N := 24) hx hb hts iw_m_nextOrder_X12 hown hK hP 0 rfl rfl 13 (by decide) (hts (.fieldLink RX12 34 "ThriceCountedModel" "order" "[I") (by decide +kernel)) (fun _ h9 => h9) rfl dX12_nextOrder_48 ?_
                      refine lv_iload_n hx hb dX12_nextOrder_51 rfl (lv_at hl 0 rfl) ?_
                      refine va_iald hx hb hK hP 1 0 rfl rfl (show ¬ ((1 : Int32) < 0 ∨ 6 ≤ (1 : Int32).toNatClampNeg) by decide) dX12_nextOrder_52 ?_
                      refine tz_i (fz_ 1) rfl ?_
                      refine lv_aload_n hx hb dX12_nextOrder_53 rfl (lv_at hl 2 rfl) ?_
                      refine va_get (D := (dC, dI)) (ci := 12) (v := .ref mz) (C := RX12) (T := TX12) (N := 24) hx hb hts iw_m_nextOrder_X12 hown hK hP 0 rfl rfl 13 (by decide) (hts (.fieldLink RX12 34 "ThriceCountedModel" "order" "[I") (by decide +kernel)) (fun _ h9 => h9) rfl dX12_nextOrder_54 ?_
                      refine lv_iload_n hx hb dX12_nextOrder_57 rfl (lv_at hl 1 rfl) ?_
                      refine va_iald hx hb hK hP 1 0 rfl rfl (show ¬ ((0 : Int32) < 0 ∨ 6 ≤ (0 : Int32).toNatClampNeg) by decide) dX12_nextOrder_58 ?_
                      refine tz_i (fz_ 0) rfl ?_
                      refine lv_icmp_ge (tgt := 68) hx hb dX12_nextOrder_59 (by decide) (fun c_148 => ?_) (fun c_148 => ?_)
                      · refine lv_aload_n hx hb dX12_nextOrder_68 rfl (lv_at hl 2 rfl) ?_
                        refine va_get (D := (dC, dI)) (ci := 12) (v := .ref mz) (C := RX12) (T := TX12) (N := 24) hx hb hts iw_m_nextOrder_X12 hown hK hP 0 rfl rfl 13 (by decide) (hts (.fieldLink RX12 34 "ThriceCountedModel" "order" "[I") (by decide +kernel)) (fun _ h9 => h9) rfl dX12_nextOrder_69 ?_
                        refine lv_iload_n hx hb dX12_nextOrder_72 rfl (lv_at hl 1 rfl) ?_
                        refine va_iald hx hb hK hP 1 0 rfl rfl (show ¬ ((0 : Int32) < 0 ∨ 6 ≤ (0 : Int32).toNatClampNeg) by decide) dX12_nextOrder_73 ?_
                        refine tz_i (fz_ 0) rfl ?_
                        refine lv_istore_n (lv' := [(3, .int (fz_ 0)), (2, .int 1), (1, .int 0), (0, .ref mo)]) hx hb dX12_nextOrder_74 rfl hl (by decide) rfl (fun ls hl => ?_)
                        refine lv_aload_n hx hb dX12_nextOrder_75 rfl (lv_at hl 3 rfl) ?_
                        refine va_get (D := (dC, dI)) (ci := 12) (v := .ref mz) (C := RX12) (T := TX12) (N := 24) hx hb hts iw_m_nextOrder_X12 hown hK hP 0 rfl rfl 13 (by decide) (hts (.fieldLink RX12 34 "ThriceCountedModel" "order" "[I") (by decide +kernel)) (fun _ h9 => h9) rfl dX12_nextOrder_76 ?_
                        refine lv_iload_n hx hb dX12_nextOrder_79 rfl (lv_at hl 2 rfl) ?_
                        refine lv_aload_n hx hb dX12_nextOrder_80 rfl (lv_at hl 3 rfl) ?_
                        refine va_get (D := (dC, dI)) (ci := 12) (v := .ref mz) (C := RX12) (T := TX12) (N := 24) hx hb hts iw_m_nextOrder_X12 hown hK hP 0 rfl rfl 13 (by decide) (hts (.fieldLink RX12 34 "ThriceCountedModel" "order" "[I") (by decide +kernel)) (fun _ h9 => h9) rfl dX12_nextOrder_81 ?_
                        refine lv_iload_n hx hb dX12_nextOrder_84 rfl (lv_at hl 1 rfl) ?_
                        refine va_iald hx hb hK hP 1 0 rfl rfl (show ¬ ((1 : Int32) < 0 ∨ 6 ≤ (1 : Int32).toNatClampNeg) by decide) dX12_nextOrder_85 ?_
                        refine tz_i (fz_ 1) rfl ?_
                        refine va_iast hx hb hK hP hD hS 1 0 rfl rfl (show ¬ ((0 : Int32) < 0 ∨ 6 ≤ (0 : Int32).toNatClampNeg) by decide) dX12_nextOrder_86 (fun H locs hP hD hS => ?_)
                        have hP : va_P (dC, dI) vwCl [(mo, .inr (12, [.ref nw, .ref kp, .ref ik, .ref mr, .long la_, .long lb_, .ref mw, .long lc_, .int ti_, .int cb_, .long ld_, .long le_, .ref mq, .ref mz, .ref my, .int 4, .ref mb, .int bl_, .int ta_, .int tl_, .int tk_, .int vl_, .ref mx, .ref mv])), (mz, .inl (cz_, 6, .inl (upd fz_ (Int32.toNatClampNeg 0) (fz_ 1))))] H := hP
                        have hD : va_D A [(mo, .inr (12, [.ref nw, .ref kp, .ref ik, .ref mr, .long la_, .long lb_, .ref mw, .long lc_, .int ti_, .int cb_, .long ld_, .long le_, .ref mq, .ref mz, .ref my, .int 4, .ref mb, .int bl_, .int ta_, .int tl_, .int tk_, .int vl_, .ref mx, .ref mv])), (mz, .inl (cz_, 6, .inl (upd fz_ (Int32.toNatClampNeg 0) (fz_ 1))))] := hD
                        refine lv_aload_n hx hb dX12_nextOrder_87 rfl (lv_at hl 3 rfl) ?_
                        refine va_get (D := (dC, dI)) (ci := 12) (v := .ref mz) (C := RX12) (T := TX12) (N := 24) hx hb hts iw_m_nextOrder_X12 hown hK hP 0 rfl rfl 13 (by decide) (hts (.fieldLink RX12 34 "ThriceCountedModel" "order" "[I") (by decide +kernel)) (fun _ h9 => h9) rfl dX12_nextOrder_88 ?_
                        refine lv_iload_n hx hb dX12_nextOrder_91 rfl (lv_at hl 1 rfl) ?_
                        refine lv_iload_n hx hb dX12_nextOrder_92 rfl (lv_at hl 0 rfl) ?_
                        refine va_iast hx hb hK hP hD hS 1 0 rfl rfl (show ¬ ((1 : Int32) < 0 ∨ 6 ≤ (1 : Int32).toNatClampNeg) by decide) dX12_nextOrder_93 (fun H locs hP hD hS => ?_)
                        have hP : va_P (dC, dI) vwCl [(mo, .inr (12, [.ref nw, .ref kp, .ref ik, .ref mr, .long la_, .long lb_, .ref mw, .long lc_, .int ti_, .int cb_, .long ld_, .long le_, .ref mq, .ref mz, .ref my, .int 4, .ref mb, .int bl_, .int ta_, .int tl_, .int tk_, .int vl_, .ref mx, .ref mv])), (mz, .inl (cz_, 6, .inl (upd (upd fz_ (Int32.toNatClampNeg 0) (fz_ 1)) (Int32.toNatClampNeg 1) (fz_ 0))))] H := hP
                        have hD : va_D A [(mo, .inr (12, [.ref nw, .ref kp, .ref ik, .ref mr, .long la_, .long lb_, .ref mw, .long lc_, .int ti_, .int cb_, .long ld_, .long le_, .ref mq, .ref mz, .ref my, .int 4, .ref mb, .int bl_, .int ta_, .int tl_, .int tk_, .int vl_, .ref mx, .ref mv])), (mz, .inl (cz_, 6, .inl (upd (upd fz_ (Int32.toNatClampNeg 0) (fz_ 1)) (Int32.toNatClampNeg 1) (fz_ 0))))] := hD
                        refine lv_iload_n hx hb dX12_nextOrder_94 rfl (lv_at hl 2 rfl) ?_
                        refine lv_iconst (v := 1) hx hb dX12_nextOrder_95 (by decide) ?_
                        refine lv_iadd hx hb dX12_nextOrder_96 ?_
                        refine tz_i 1 (by decide) ?_
                        refine lv_istore (lv' := [(4, .int 1), (3, .int (fz_ 0)), (2, .int 1), (1, .int 0), (0, .ref mo)]) hx hb dX12_nextOrder_97 hl (by decide) rfl (fun ls hl => ?_)
                        refine lv_aload_n hx hb dX12_nextOrder_99 rfl (lv_at hl 4 rfl) ?_
                        refine va_get (D := (dC, dI)) (ci := 12) (v := .int 4) (C := RX12) (T := TX12) (N := 24) hx hb hts iw_m_nextOrder_X12 hown hK hP 0 rfl rfl 15 (by decide) (hts (.fieldLink RX12 218 "ThriceCountedModel" "soughtMany" "I") (by decide +kernel)) (fun _ h9 => h9) rfl dX12_nextOrder_100 ?_
                        refine lv_iconst (v := 1) hx hb dX12_nextOrder_103 (by decide) ?_
                        refine lv_isub hx hb dX12_nextOrder_104 ?_
                        refine tz_i 3 (by decide) ?_
                        refine lv_istore (lv' := [(5, .int 3), (4, .int 1), (3, .int (fz_ 0)), (2, .int 1), (1, .int 0), (0, .ref mo)]) hx hb dX12_nextOrder_105 hl (by decide) rfl (fun ls hl => ?_)
                        refine lv_iload hx hb dX12_nextOrder_107 (lv_at hl 1 rfl) ?_
                        refine lv_iload hx hb dX12_nextOrder_109 (lv_at hl 0 rfl) ?_
                        refine lv_icmp_ge (tgt := 155) hx hb dX12_nextOrder_111 (by decide) (fun c_151 => ?_) (fun c_151 => ?_)
                        · exact absurd c_151 (by decide)
                        · refine lv_aload_n hx hb dX12_nextOrder_114 rfl (lv_at hl 5 rfl) ?_
                          refine va_get (D := (dC, dI)) (ci := 12) (v := .ref mz) (C := RX12) (T := TX12) (N := 24) hx hb hts iw_m_nextOrder_X12 hown hK hP 0 rfl rfl 13 (by decide) (hts (.fieldLink RX12 34 "ThriceCountedModel" "order" "[I") (by decide +kernel)) (fun _ h9 => h9) rfl dX12_nextOrder_115 ?_
                          refine lv_iload hx hb dX12_nextOrder_118 (lv_at hl 1 rfl) ?_
                          refine va_iald hx hb hK hP 1 0 rfl rfl (show ¬ ((1 : Int32) < 0 ∨ 6 ≤ (1 : Int32).toNatClampNeg) by decide) dX12_nextOrder_120 ?_
                          refine tz_i (fz_ 0) rfl ?_
                          refine lv_istore (lv' := [(6, .int (fz_ 0)), (5, .int 3), (4, .int 1), (3, .int (fz_ 0)), (2, .int 1), (1, .int 0), (0, .ref mo)]) hx hb dX12_nextOrder_121 hl (by decide) rfl (fun ls hl => ?_)
                          refine lv_aload_n hx hb dX12_nextOrder_123 rfl (lv_at hl 6 rfl) ?_
                          refine va_get (D := (dC, dI)) (ci := 12) (v := .ref mz) (C := RX12) (T := TX12) (N := 24) hx hb hts iw_m_nextOrder_X12 hown hK hP 0 rfl rfl 13 (by decide) (hts (.fieldLink RX12 34 "ThriceCountedModel" "order" "[I") (by decide +kernel)) (fun _ h9 => h9) rfl dX12_nextOrder_124 ?_
                          refine lv_iload hx hb dX12_nextOrder_127 (lv_at hl 2 rfl) ?_
                          refine lv_aload_n hx hb dX12_nextOrder_129 rfl (lv_at hl 6 rfl) ?_
                          refine va_get (D := (dC, dI)) (ci := 12) (v := .ref mz) (C := RX12) (T := TX12) (N := 24) hx hb hts iw_m_nextOrder_X12 hown hK hP 0 rfl rfl 13 (by decide) (hts (.fieldLink RX12 34 "ThriceCountedModel" "order" "[I") (by decide +kernel)) (fun _ h9 => h9) rfl dX12_nextOrder_130 ?_
                          refine lv_iload hx hb dX12_nextOrder_133 (lv_at hl 1 rfl) ?_
                          refine va_iald hx hb hK hP 1 0 rfl rfl (show ¬ ((3 : Int32) < 0 ∨ 6 ≤ (3 : Int32).toNatClampNeg) by decide) dX12_nextOrder_135 ?_
                          refine tz_i (fz_ 3) rfl ?_
                          refine va_iast hx hb hK hP hD hS 1 0 rfl rfl (show ¬ ((1 : Int32) < 0 ∨ 6 ≤ (1 : Int32).toNatClampNeg) by decide) dX12_nextOrder_136 (fun H locs hP hD hS => ?_)
                          have hP : va_P (dC, dI) vwCl [(mo, .inr (12, [.ref nw, .ref kp, .ref ik, .ref mr, .long la_, .long lb_, .ref mw, .long lc_, .int ti_, .int cb_, .long ld_, .long le_, .ref mq, .ref mz, .ref my, .int 4, .ref mb, .int bl_, .int ta_, .int tl_, .int tk_, .int vl_, .ref mx, .ref mv])), (mz, .inl (cz_, 6, .inl (upd (upd (upd fz_ (Int32.toNatClampNeg 0) (fz_ 1)) (Int32.toNatClampNeg 1) (fz_ 0)) (Int32.toNatClampNeg 1) (fz_ 3))))] H := hP
                          have hD : va_D A [(mo, .inr (12, [.ref nw, .ref kp, .ref ik, .ref mr, .long la_, .long lb_, .ref mw, .long lc_, .int ti_, .int cb_, .long ld_, .long le_, .ref mq, .ref mz, .ref my, .int 4, .ref mb, .int bl_, .int ta_, .int tl_, .int tk_, .int vl_, .ref mx, .ref mv])), (mz, .inl (cz_, 6, .inl (upd (upd (upd fz_ (Int32.toNatClampNeg 0) (fz_ 1)) (Int32.toNatClampNeg 1) (fz_ 0)) (Int32.toNatClampNeg 1) (fz_ 3))))] := hD
                          refine lv_aload_n hx hb dX12_nextOrder_137 rfl (lv_at hl 6 rfl) ?_
                          refine va_get (D := (dC, dI)) (ci := 12) (v := .ref mz) (C := RX12) (T := TX12) (N := 24) hx hb hts iw_m_nextOrder_X12 hown hK hP 0 rfl rfl 13 (by decide) (hts (.fieldLink RX12 34 "ThriceCountedModel" "order" "[I") (by decide +kernel)) (fun _ h9 => h9) rfl dX12_nextOrder_138 ?_
                          refine lv_iload hx hb dX12_nextOrder_141 (lv_at hl 1 rfl) ?_
                          refine lv_iload hx hb dX12_nextOrder_143 (lv_at hl 0 rfl) ?_
                          refine va_iast hx hb hK hP hD hS 1 0 rfl rfl (show ¬ ((3 : Int32) < 0 ∨ 6 ≤ (3 : Int32).toNatClampNeg) by decide) dX12_nextOrder_145 (fun H locs hP hD hS => ?_)
                          have hP : va_P (dC, dI) vwCl [(mo, .inr (12, [.ref nw, .ref kp, .ref ik, .ref mr, .long la_, .long lb_, .ref mw, .long lc_, .int ti_, .int cb_, .long ld_, .long le_, .ref mq, .ref mz, .ref my, .int 4, .ref mb, .int bl_, .int ta_, .int tl_, .int tk_, .int vl_, .ref mx, .ref mv])), (mz, .inl (cz_, 6, .inl (upd (upd (upd (upd fz_ (Int32.toNatClampNeg 0) (fz_ 1)) (Int32.toNatClampNeg 1) (fz_ 0)) (Int32.toNatClampNeg 1) (fz_ 3)) (Int32.toNatClampNeg 3) (fz_ 0))))] H := hP
                          have hD : va_D A [(mo, .inr (12, [.ref nw, .ref kp, .ref ik, .ref mr, .long la_, .long lb_, .ref mw, .long lc_, .int ti_, .int cb_, .long ld_, .long le_, .ref mq, .ref mz, .ref my, .int 4, .ref mb, .int bl_, .int ta_, .int tl_, .int tk_, .int vl_, .ref mx, .ref mv])), (mz, .inl (cz_, 6, .inl (upd (upd (upd (upd fz_ (Int32.toNatClampNeg 0) (fz_ 1)) (Int32.toNatClampNeg 1) (fz_ 0)) (Int32.toNatClampNeg 1) (fz_ 3)) (Int32.toNatClampNeg 3) (fz_ 0))))] := hD
                          refine lv_iinc (v := 2) (lv' := [(4, .int 2), (6, .int (fz_ 0)), (5, .int 3), (3, .int (fz_ 0)), (2, .int 1), (1, .int 0), (0, .ref mo)]) hx hb dX12_nextOrder_146 hl (k := 2) rfl (by decide) (by decide) rfl (fun ls hl => ?_)
                          refine lv_iinc (v := 2) (lv' := [(5, .int 2), (4, .int 2), (6, .int (fz_ 0)), (3, .int (fz_ 0)), (2, .int 1), (1, .int 0), (0, .ref mo)]) hx hb dX12_nextOrder_149 hl (k := 2) rfl (by decide) (by decide) rfl (fun ls hl => ?_)
                          refine lv_goto (tgt := 107) hx hb dX12_nextOrder_152 (by decide) ?_
                          refine lv_iload hx hb dX12_nextOrder_107 (lv_at hl 1 rfl) ?_
                          refine lv_iload hx hb dX12_nextOrder_109 (lv_at hl 0 rfl) ?_
                          refine lv_icmp_ge (tgt := 155) hx hb dX12_nextOrder_111 (by decide) (fun c_154 => ?_) (fun c_154 => ?_)
                          · refine lv_iconst (v := 1) hx hb dX12_nextOrder_155 (by decide) ?_
                            have hP9 := hP.sub (ws' := [(mo, .inr (12, [.ref nw, .ref kp, .ref ik, .ref mr, .long la_, .long lb_, .ref mw, .long lc_, .int ti_, .int cb_, .long ld_, .long le_, .ref mq, .ref mz, .ref my, .int (nI 4), .ref mb, .int bl_, .int ta_, .int tl_, .int tk_, .int vl_, .ref mx, .ref mv])), (mz, .inl (cz_, 6, .inl (upd (upd (upd (upd fz_ (Int32.toNatClampNeg 0) (fz_ 1)) (Int32.toNatClampNeg 1) (fz_ 0)) (Int32.toNatClampNeg 1) (fz_ 3)) (Int32.toNatClampNeg 3) (fz_ 0))))]) [0, 1] rfl
                            have hD9 := hD.sub (ws' := [(mo, .inr (12, [.ref nw, .ref kp, .ref ik, .ref mr, .long la_, .long lb_, .ref mw, .long lc_, .int ti_, .int cb_, .long ld_, .long le_, .ref mq, .ref mz, .ref my, .int (nI 4), .ref mb, .int bl_, .int ta_, .int tl_, .int tk_, .int vl_, .ref mx, .ref mv])), (mz, .inl (cz_, 6, .inl (upd (upd (upd (upd fz_ (Int32.toNatClampNeg 0) (fz_ 1)) (Int32.toNatClampNeg 1) (fz_ 0)) (Int32.toNatClampNeg 1) (fz_ 3)) (Int32.toNatClampNeg 3) (fz_ 0))))]) [0, 1] (by decide) rfl
                            have hK9 := hK.sub (tys' := [(cz_, .int)]) [0] rfl
                            have hlt_155 : (fz_ 0).toInt < (fz_ 1).toInt := tz_ltt2 c_148 (hdi.2 0 1 (by omega) (by omega))
                            have hb_156 := hdi.1 0 (by omega)
                            have hb_157 := hdi.1 1 (by omega)
                            have hb_158 := hdi.1 2 (by omega)
                            have hb_159 := hdi.1 3 (by omega)
                            have ev_160 : tz_val 4 fz_ = 7776 * (fz_ 0).toInt + 1296 * (fz_ 1).toInt + 216 * (fz_ 2).toInt + 36 * (fz_ 3).toInt + 6 * 0 + 0 := rfl
                            have eg_161 : tz_val 4 (upd (upd (upd (upd fz_ (Int32.toNatClampNeg 0) (fz_ 1)) (Int32.toNatClampNeg 1) (fz_ 0)) (Int32.toNatClampNeg 1) (fz_ 3)) (Int32.toNatClampNeg 3) (fz_ 0)) = 7776 * (fz_ 1).toInt + 1296 * (fz_ 3).toInt + 216 * (fz_ 2).toInt + 36 * (fz_ 0).toInt + 6 * 0 + 0 := rfl
                            have hp_162 : tz_Di 4 (upd (upd (upd (upd fz_ (Int32.toNatClampNeg 0) (fz_ 1)) (Int32.toNatClampNeg 1) (fz_ 0)) (Int32.toNatClampNeg 1) (fz_ 3)) (Int32.toNatClampNeg 3) (fz_ 0)) := hdi.perm (fun a => ([1, 3, 2, 0] : List Nat).getD a 0) (fun a ha => by
                              rcases (show a = 0 ∨ a = 1 ∨ a = 2 ∨ a = 3 by omega) with rfl | rfl | rfl | rfl <;> exact ⟨by decide, rfl⟩) (by decide)
                            exact W.zret (v := 1) hx hb hr (by decide) (fun t ht hW => ⟨⟨1, (), rfl, Or.inr ⟨rfl, 0, by omega, tz_nle_of c_148⟩, (upd (upd (upd (upd fz_ (Int32.toNatClampNeg 0) (fz_ 1)) (Int32.toNatClampNeg 1) (fz_ 0)) (Int32.toNatClampNeg 1) (fz_ 3)) (Int32.toNatClampNeg 3) (fz_ 0)), hp_162, by rw [ev_160, eg_161]; omega, fun _ => by rw [ev_160, eg_161]; omega, by rw [ht]; exact hP9, va_K.moved hW.alike hK9, hD9⟩, hS.F ht⟩) hS.2.2 dX12_nextOrder_156
                          · exact absurd c_154 (by decide)
                      · exact absurd c_116 c_148
                · exact absurd c_117 (by decide)
              · refine lv_iinc (v := (-1)) (lv' := [(1, .int (-1)), (0, .ref mo)]) hx hb dX12_nextOrder_28 hl (k := 0) rfl (by decide) (by decide) rfl (fun ls hl => ?_)
                refine lv_goto (tgt := 7) hx hb dX12_nextOrder_31 (by decide) ?_
                refine lv_iload_n hx hb dX12_nextOrder_7 rfl (lv_at hl 0 rfl) ?_
                refine lv_if_lt (tgt := 34) hx hb dX12_nextOrder_8 (by decide) (fun c_163 => ?_) (fun c_163 => ?_)
                · refine lv_iload_n hx hb dX12_nextOrder_34 rfl (lv_at hl 0 rfl) ?_
                  refine lv_if_ge (tgt := 40) hx hb dX12_nextOrder_35 (by decide) (fun c_164 => ?_) (fun c_164 => ?_)
                  · exact absurd c_164 (by decide)
                  · refine lv_iconst (v := 0) hx hb dX12_nextOrder_38 (by decide) ?_
                    have hP9 := hP.sub (ws' := [(mo, .inr (12, [.ref nw, .ref kp, .ref ik, .ref mr, .long la_, .long lb_, .ref mw, .long lc_, .int ti_, .int cb_, .long ld_, .long le_, .ref mq, .ref mz, .ref my, .int (nI 4), .ref mb, .int bl_, .int ta_, .int tl_, .int tk_, .int vl_, .ref mx, .ref mv])), (mz, .inl (cz_, 6, .inl fz_))]) [0, 1] rfl
                    have hD9 := hD.sub (ws' := [(mo, .inr (12, [.ref nw, .ref kp, .ref ik, .ref mr, .long la_, .long lb_, .ref mw, .long lc_, .int ti_, .int cb_, .long ld_, .long le_, .ref mq, .ref mz, .ref my, .int (nI 4), .ref mb, .int bl_, .int ta_, .int tl_, .int tk_, .int vl_, .ref mx, .ref mv])), (mz, .inl (cz_, 6, .inl fz_))]) [0, 1] (by decide) rfl
                    have hK9 := hK.sub (tys' := [(cz_, .int)]) [0] rfl
                    exact W.zret (v := 0) hx hb hr (by decide) (fun t ht hW => ⟨⟨0, (), rfl, Or.inl rfl, fz_, hdi, Int.le_refl _, fun ⟨k, hk, hle⟩ => by
                        rcases (show k = 0 ∨ k = 1 ∨ k = 2 by omega) with rfl | rfl | rfl
                        · exact (hle (tz_gt_of c_116)).elim
                        · exact (hle (tz_gt_of c_83)).elim
                        · exact (hle (tz_gt_of c_68)).elim, by rw [ht]; exact hP9, va_K.moved hW.alike hK9, hD9⟩, hS.F ht⟩) hS.2.2 dX12_nextOrder_39
                · exact absurd c_163 (by decide)
  · have hP : va_P (dC, dI) vwCl [(mo, .inr (12, [.ref nw, .ref kp, .ref ik, .ref mr, .long la_, .long lb_, .ref mw, .long lc_, .int ti_, .int cb_, .long ld_, .long le_, .ref mq, .ref mz, .ref my, .int 5, .ref mb, .int bl_, .int ta_, .int tl_, .int tk_, .int vl_, .ref mx, .ref mv])), (mz, .inl (cz_, 6, .inl fz_))] s.heap := hP
    have hD : va_D A [(mo, .inr (12, [.ref nw, .ref kp, .ref ik, .ref mr, .long la_, .long lb_, .ref mw, .long lc_, .int ti_, .int cb_, .long ld_, .long le_, .ref mq, .ref mz, .ref my, .int 5, .ref mb, .int bl_, .int ta_, .int tl_, .int tk_, .int vl_, .ref mx, .ref mv])), (mz, .inl (cz_, 6, .inl fz_))] := hD
    refine lv_aload_n hx hb dX12_nextOrder_0 rfl (lv_at hl 0 rfl) ?_
    refine va_get (D := (dC, dI)) (ci := 12) (v := .int 5) (C := RX12) (T := TX12) (N := 24) hx hb hts iw_m_nextOrder_X12 hown hK hP 0 rfl rfl 15 (by decide) (hts (.fieldLink RX12 218 "ThriceCountedModel" "soughtMany" "I") (by decide +kernel)) (fun _ h9 => h9) rfl dX12_nextOrder_1 ?_
    refine lv_iconst (v := 2) hx hb dX12_nextOrder_4 (by decide) ?_
    refine lv_isub hx hb dX12_nextOrder_5 ?_
    refine tz_i 3 (by decide) ?_
    refine lv_istore_n (lv' := [(1, .int 3), (0, .ref mo)]) hx hb dX12_nextOrder_6 rfl hl (by decide) rfl (fun ls hl => ?_)
    refine lv_iload_n hx hb dX12_nextOrder_7 rfl (lv_at hl 0 rfl) ?_
    refine lv_if_lt (tgt := 34) hx hb dX12_nextOrder_8 (by decide) (fun c_165 => ?_) (fun c_165 => ?_)
    · exact absurd c_165 (by decide)
    · refine lv_aload_n hx hb dX12_nextOrder_11 rfl (lv_at hl 1 rfl) ?_
      refine va_get (D := (dC, dI)) (ci := 12) (v := .ref mz) (C := RX12) (T := TX12) (N := 24) hx hb hts iw_m_nextOrder_X12 hown hK hP 0 rfl rfl 13 (by decide) (hts (.fieldLink RX12 34 "ThriceCountedModel" "order" "[I") (by decide +kernel)) (fun _ h9 => h9) rfl dX12_nextOrder_12 ?_
      refine lv_iload_n hx hb dX12_nextOrder_15 rfl (lv_at hl 0 rfl) ?_
      refine va_iald hx hb hK hP 1 0 rfl rfl (show ¬ ((3 : Int32) < 0 ∨ 6 ≤ (3 : Int32).toNatClampNeg) by decide) dX12_nextOrder_16 ?_
      refine tz_i (fz_ 3) rfl ?_
      refine lv_aload_n hx hb dX12_nextOrder_17 rfl (lv_at hl 1 rfl) ?_
      refine va_get (D := (dC, dI)) (ci := 12) (v := .ref mz) (C := RX12) (T := TX12) (N := 24) hx hb hts iw_m_nextOrder_X12 hown hK hP 0 rfl rfl 13 (by decide) (hts (.fieldLink RX12 34 "ThriceCountedModel" "order" "[I") (by decide +kernel)) (fun _ h9 => h9) rfl dX12_nextOrder_18 ?_
      refine lv_iload_n hx hb dX12_nextOrder_21 rfl (lv_at hl 0 rfl) ?_
      refine lv_iconst (v := 1) hx hb dX12_nextOrder_22 (by decide) ?_
      refine lv_iadd hx hb dX12_nextOrder_23 ?_
      refine tz_i 4 (by decide) ?_
      refine va_iald hx hb hK hP 1 0 rfl rfl (show ¬ ((4 : Int32) < 0 ∨ 6 ≤ (4 : Int32).toNatClampNeg) by decide) dX12_nextOrder_24 ?_
      refine tz_i (fz_ 4) rfl ?_
      refine lv_icmp_le (tgt := 34) hx hb dX12_nextOrder_25 (by decide) (fun c_166 => ?_) (fun c_166 => ?_)
      · refine lv_iload_n hx hb dX12_nextOrder_34 rfl (lv_at hl 0 rfl) ?_
        refine lv_if_ge (tgt := 40) hx hb dX12_nextOrder_35 (by decide) (fun c_167 => ?_) (fun c_167 => ?_)
        · refine lv_aload_n hx hb dX12_nextOrder_40 rfl (lv_at hl 1 rfl) ?_
          refine va_get (D := (dC, dI)) (ci := 12) (v := .int 5) (C := RX12) (T := TX12) (N := 24) hx hb hts iw_m_nextOrder_X12 hown hK hP 0 rfl rfl 15 (by decide) (hts (.fieldLink RX12 218 "ThriceCountedModel" "soughtMany" "I") (by decide +kernel)) (fun _ h9 => h9) rfl dX12_nextOrder_41 ?_
          refine lv_iconst (v := 1) hx hb dX12_nextOrder_44 (by decide) ?_
          refine lv_isub hx hb dX12_nextOrder_45 ?_
          refine tz_i 4 (by decide) ?_
          refine lv_istore_n (lv' := [(2, .int 4), (1, .int 3), (0, .ref mo)]) hx hb dX12_nextOrder_46 rfl hl (by decide) rfl (fun ls hl => ?_)
          refine lv_aload_n hx hb dX12_nextOrder_47 rfl (lv_at hl 2 rfl) ?_
          refine va_get (D := (dC, dI)) (ci := 12) (v := .ref mz) (C := RX12) (T := TX12) (N := 24) hx hb hts iw_m_nextOrder_X12 hown hK hP 0 rfl rfl 13 (by decide) (hts (.fieldLink RX12 34 "ThriceCountedModel" "order" "[I") (by decide +kernel)) (fun _ h9 => h9) rfl dX12_nextOrder_48 ?_
          refine lv_iload_n hx hb dX12_nextOrder_51 rfl (lv_at hl 0 rfl) ?_
          refine va_iald hx hb hK hP 1 0 rfl rfl (show ¬ ((4 : Int32) < 0 ∨ 6 ≤ (4 : Int32).toNatClampNeg) by decide) dX12_nextOrder_52 ?_
          refine tz_i (fz_ 4) rfl ?_
          refine lv_aload_n hx hb dX12_nextOrder_53 rfl (lv_at hl 2 rfl) ?_
          refine va_get (D := (dC, dI)) (ci := 12) (v := .ref mz) (C := RX12) (T := TX12) (N := 24) hx hb hts iw_m_nextOrder_X12 hown hK hP 0 rfl rfl 13 (by decide) (hts (.fieldLink RX12 34 "ThriceCountedModel" "order" "[I") (by decide +kernel)) (fun _ h9 => h9) rfl dX12_nextOrder_54 ?_
          refine lv_iload_n hx hb dX12_nextOrder_57 rfl (lv_at hl 1 rfl) ?_
          refine va_iald hx hb hK hP 1 0 rfl rfl (show ¬ ((3 : Int32) < 0 ∨ 6 ≤ (3 : Int32).toNatClampNeg) by decide) dX12_nextOrder_58 ?_
          refine tz_i (fz_ 3) rfl ?_
          refine lv_icmp_ge (tgt := 68) hx hb dX12_nextOrder_59 (by decide) (fun c_168 => ?_) (fun c_168 => ?_)
          · refine lv_aload_n hx hb dX12_nextOrder_68 rfl (lv_at hl 2 rfl) ?_
            refine va_get (D := (dC, dI)) (ci := 12) (v := .ref mz) (C := RX12) (T := TX12) (N := 24) hx hb hts iw_m_nextOrder_X12 hown hK hP 0 rfl rfl 13 (by decide) (hts (.fieldLink RX12 34 "ThriceCountedModel" "order" "[I") (by decide +kernel)) (fun _ h9 => h9) rfl dX12_nextOrder_69 ?_
            refine lv_iload_n hx hb dX12_nextOrder_72 rfl (lv_at hl 1 rfl) ?_
            refine va_iald hx hb hK hP 1 0 rfl rfl (show ¬ ((3 : Int32) < 0 ∨ 6 ≤ (3 : Int32).toNatClampNeg) by decide) dX12_nextOrder_73 ?_
            refine tz_i (fz_ 3) rfl ?_
            refine lv_istore_n (lv' := [(3, .int (fz_ 3)), (2, .int 4), (1, .int 3), (0, .ref mo)]) hx hb dX12_nextOrder_74 rfl hl (by decide) rfl (fun ls hl => ?_)
            refine lv_aload_n hx hb dX12_nextOrder_75 rfl (lv_at hl 3 rfl) ?_
            refine va_get (D := (dC, dI)) (ci := 12) (v := .ref mz) (C := RX12) (T := TX12) (N := 24) hx hb hts iw_m_nextOrder_X12 hown hK hP 0 rfl rfl 13 (by decide) (hts (.fieldLink RX12 34 "ThriceCountedModel" "order" "[I") (by decide +kernel)) (fun _ h9 => h9) rfl dX12_nextOrder_76 ?_
            refine lv_iload_n hx hb dX12_nextOrder_79 rfl (lv_at hl 2 rfl) ?_
            refine lv_aload_n hx hb dX12_nextOrder_80 rfl (lv_at hl 3 rfl) ?_
            refine va_get (D := (dC, dI)) (ci := 12) (v := .ref mz) (C := RX12) (T := TX12) (N := 24) hx hb hts iw_m_nextOrder_X12 hown hK hP 0 rfl rfl 13 (by decide) (hts (.fieldLink RX12 34 "ThriceCountedModel" "order" "[I") (by decide +kernel)) (fun _ h9 => h9) rfl dX12_nextOrder_81 ?_
            refine lv_iload_n hx hb dX12_nextOrder_84 rfl (lv_at hl 1 rfl) ?_
            refine va_iald hx hb hK hP 1 0 rfl rfl (show ¬ ((4 : Int32) < 0 ∨ 6 ≤ (4 : Int32).toNatClampNeg) by decide) dX12_nextOrder_85 ?_
            refine tz_i (fz_ 4) rfl ?_
            refine va_iast hx hb hK hP hD hS 1 0 rfl rfl (show ¬ ((3 : Int32) < 0 ∨ 6 ≤ (3 : Int32).toNatClampNeg) by decide) dX12_nextOrder_86 (fun H locs hP hD hS => ?_)
            have hP : va_P (dC, dI) vwCl [(mo, .inr (12, [.ref nw, .ref kp, .ref ik, .ref mr, .long la_, .long lb_, .ref mw, .long lc_, .int ti_, .int cb_, .long ld_, .long le_, .ref mq, .ref mz, .ref my, .int 5, .ref mb, .int bl_, .int ta_, .int tl_, .int tk_, .int vl_, .ref mx, .ref mv])), (mz, .inl (cz_, 6, .inl (upd fz_ (Int32.toNatClampNeg 3) (fz_ 4))))] H := hP
            have hD : va_D A [(mo, .inr (12, [.ref nw, .ref kp, .ref ik, .ref mr, .long la_, .long lb_, .ref mw, .long lc_, .int ti_, .int cb_, .long ld_, .long le_, .ref mq, .ref mz, .ref my, .int 5, .ref mb, .int bl_, .int ta_, .int tl_, .int tk_, .int vl_, .ref mx, .ref mv])), (mz, .inl (cz_, 6, .inl (upd fz_ (Int32.toNatClampNeg 3) (fz_ 4))))] := hD
            refine lv_aload_n hx hb dX12_nextOrder_87 rfl (lv_at hl 3 rfl) ?_
            refine va_get (D := (dC, dI)) (ci := 12) (v := .ref mz) (C := RX12) (T := TX12) (N := 24) hx hb hts iw_m_nextOrder_X12 hown hK hP 0 rfl rfl 13 (by decide) (hts (.fieldLink RX12 34 "ThriceCountedModel" "order" "[I") (by decide +kernel)) (fun _ h9 => h9) rfl dX12_nextOrder_88 ?_
            refine lv_iload_n hx hb dX12_nextOrder_91 rfl (lv_at hl 1 rfl) ?_
            refine lv_iload_n hx hb dX12_nextOrder_92 rfl (lv_at hl 0 rfl) ?_
            refine va_iast hx hb hK hP hD hS 1 0 rfl rfl (show ¬ ((4 : Int32) < 0 ∨ 6 ≤ (4 : Int32).toNatClampNeg) by decide) dX12_nextOrder_93 (fun H locs hP hD hS => ?_)
            have hP : va_P (dC, dI) vwCl [(mo, .inr (12, [.ref nw, .ref kp, .ref ik, .ref mr, .long la_, .long lb_, .ref mw, .long lc_, .int ti_, .int cb_, .long ld_, .long le_, .ref mq, .ref mz, .ref my, .int 5, .ref mb, .int bl_, .int ta_, .int tl_, .int tk_, .int vl_, .ref mx, .ref mv])), (mz, .inl (cz_, 6, .inl (upd (upd fz_ (Int32.toNatClampNeg 3) (fz_ 4)) (Int32.toNatClampNeg 4) (fz_ 3))))] H := hP
            have hD : va_D A [(mo, .inr (12, [.ref nw, .ref kp, .ref ik, .ref mr, .long la_, .long lb_, .ref mw, .long lc_, .int ti_, .int cb_, .long ld_, .long le_, .ref mq, .ref mz, .ref my, .int 5, .ref mb, .int bl_, .int ta_, .int tl_, .int tk_, .int vl_, .ref mx, .ref mv])), (mz, .inl (cz_, 6, .inl (upd (upd fz_ (Int32.toNatClampNeg 3) (fz_ 4)) (Int32.toNatClampNeg 4) (fz_ 3))))] := hD
            refine lv_iload_n hx hb dX12_nextOrder_94 rfl (lv_at hl 2 rfl) ?_
            refine lv_iconst (v := 1) hx hb dX12_nextOrder_95 (by decide) ?_
            refine lv_iadd hx hb dX12_nextOrder_96 ?_
            refine tz_i 4 (by decide) ?_
            refine lv_istore (lv' := [(4, .int 4), (3, .int (fz_ 3)), (2, .int 4), (1, .int 3), (0, .ref mo)]) hx hb dX12_nextOrder_97 hl (by decide) rfl (fun ls hl => ?_)
            refine lv_aload_n hx hb dX12_nextOrder_99 rfl (lv_at hl 4 rfl) ?_
            refine va_get (D := (dC, dI)) (ci := 12) (v := .int 5) (C := RX12) (T := TX12) (N := 24) hx hb hts iw_m_nextOrder_X12 hown hK hP 0 rfl rfl 15 (by decide) (hts (.fieldLink RX12 218 "ThriceCountedModel" "soughtMany" "I") (by decide +kernel)) (fun _ h9 => h9) rfl dX12_nextOrder_100 ?_
            refine lv_iconst (v := 1) hx hb dX12_nextOrder_103 (by decide) ?_
            refine lv_isub hx hb dX12_nextOrder_104 ?_
            refine tz_i 4 (by decide) ?_
            refine lv_istore (lv' := [(5, .int 4), (4, .int 4), (3, .int (fz_ 3)), (2, .int 4), (1, .int 3), (0, .ref mo)]) hx hb dX12_nextOrder_105 hl (by decide) rfl (fun ls hl => ?_)
            refine lv_iload hx hb dX12_nextOrder_107 (lv_at hl 1 rfl) ?_
            refine lv_iload hx hb dX12_nextOrder_109 (lv_at hl 0 rfl) ?_
            refine lv_icmp_ge (tgt := 155) hx hb dX12_nextOrder_111 (by decide) (fun c_171 => ?_) (fun c_171 => ?_)
            · refine lv_iconst (v := 1) hx hb dX12_nextOrder_155 (by decide) ?_
              have hP9 := hP.sub (ws' := [(mo, .inr (12, [.ref nw, .ref kp, .ref ik, .ref mr, .long la_, .long lb_, .ref mw, .long lc_, .int ti_, .int cb_, .long ld_, .long le_, .ref mq, .ref mz, .ref my, .int (nI 5), .ref mb, .int bl_, .int ta_, .int tl_, .int tk_, .int vl_, .ref mx, .ref mv])), (mz, .inl (cz_, 6, .inl (upd (upd fz_ (Int32.toNatClampNeg 3) (fz_ 4)) (Int32.toNatClampNeg 4) (fz_ 3))))]) [0, 1] rfl
              have hD9 := hD.sub (ws' := [(mo, .inr (12, [.ref nw, .ref kp, .ref ik, .ref mr, .long la_, .long lb_, .ref mw, .long lc_, .int ti_, .int cb_, .long ld_, .long le_, .ref mq, .ref mz, .ref my, .int (nI 5), .ref mb, .int bl_, .int ta_, .int tl_, .int tk_, .int vl_, .ref mx, .ref mv])), (mz, .inl (cz_, 6, .inl (upd (upd fz_ (Int32.toNatClampNeg 3) (fz_ 4)) (Int32.toNatClampNeg 4) (fz_ 3))))]) [0, 1] (by decide) rfl
              have hK9 := hK.sub (tys' := [(cz_, .int)]) [0] rfl
              have hlt_172 : (fz_ 3).toInt < (fz_ 4).toInt := tz_ltt2 c_168 (hdi.2 3 4 (by omega) (by omega))
              have hb_173 := hdi.1 0 (by omega)
              have hb_174 := hdi.1 1 (by omega)
              have hb_175 := hdi.1 2 (by omega)
              have hb_176 := hdi.1 3 (by omega)
              have hb_177 := hdi.1 4 (by omega)
              have ev_178 : tz_val 5 fz_ = 7776 * (fz_ 0).toInt + 1296 * (fz_ 1).toInt + 216 * (fz_ 2).toInt + 36 * (fz_ 3).toInt + 6 * (fz_ 4).toInt + 0 := rfl
              have eg_179 : tz_val 5 (upd (upd fz_ (Int32.toNatClampNeg 3) (fz_ 4)) (Int32.toNatClampNeg 4) (fz_ 3)) = 7776 * (fz_ 0).toInt + 1296 * (fz_ 1).toInt + 216 * (fz_ 2).toInt + 36 * (fz_ 4).toInt + 6 * (fz_ 3).toInt + 0 := rfl
              have hp_180 : tz_Di 5 (upd (upd fz_ (Int32.toNatClampNeg 3) (fz_ 4)) (Int32.toNatClampNeg 4) (fz_ 3)) := hdi.perm (fun a => ([0, 1, 2, 4, 3] : List Nat).getD a 0) (fun a ha => by
                rcases (show a = 0 ∨ a = 1 ∨ a = 2 ∨ a = 3 ∨ a = 4 by omega) with rfl | rfl | rfl | rfl | rfl <;> exact ⟨by decide, rfl⟩) (by decide)
              exact W.zret (v := 1) hx hb hr (by decide) (fun t ht hW => ⟨⟨1, (), rfl, Or.inr ⟨rfl, 3, by omega, tz_nle_of c_168⟩, (upd (upd fz_ (Int32.toNatClampNeg 3) (fz_ 4)) (Int32.toNatClampNeg 4) (fz_ 3)), hp_180, by rw [ev_178, eg_179]; omega, fun _ => by rw [ev_178, eg_179]; omega, by rw [ht]; exact hP9, va_K.moved hW.alike hK9, hD9⟩, hS.F ht⟩) hS.2.2 dX12_nextOrder_156
            · exact absurd c_171 (by decide)
          · exact absurd c_166 c_168
        · exact absurd c_167 (by decide)
      · refine lv_iinc (v := 2) (lv' := [(1, .int 2), (0, .ref mo)]) hx hb dX12_nextOrder_28 hl (k := 0) rfl (by decide) (by decide) rfl (fun ls hl => ?_)
        refine lv_goto (tgt := 7) hx hb dX12_nextOrder_31 (by decide) ?_
        refine lv_iload_n hx hb dX12_nextOrder_7 rfl (lv_at hl 0 rfl) ?_
        refine lv_if_lt (tgt := 34) hx hb dX12_nextOrder_8 (by decide) (fun c_181 => ?_) (fun c_181 => ?_)
        · exact absurd c_181 (by decide)
        · refine lv_aload_n hx hb dX12_nextOrder_11 rfl (lv_at hl 1 rfl) ?_
          refine va_get (D := (dC, dI)) (ci := 12) (v := .ref mz) (C := RX12) (T := TX12) (N := 24) hx hb hts iw_m_nextOrder_X12 hown hK hP 0 rfl rfl 13 (by decide) (hts (.fieldLink RX12 34 "ThriceCountedModel" "order" "[I") (by decide +kernel)) (fun _ h9 => h9) rfl dX12_nextOrder_12 ?_
          refine lv_iload_n hx hb dX12_nextOrder_15 rfl (lv_at hl 0 rfl) ?_
          refine va_iald hx hb hK hP 1 0 rfl rfl (show ¬ ((2 : Int32) < 0 ∨ 6 ≤ (2 : Int32).toNatClampNeg) by decide) dX12_nextOrder_16 ?_
          refine tz_i (fz_ 2) rfl ?_
          refine lv_aload_n hx hb dX12_nextOrder_17 rfl (lv_at hl 1 rfl) ?_
          refine va_get (D := (dC, dI)) (ci := 12) (v := .ref mz) (C := RX12) (T := TX12) (N := 24) hx hb hts iw_m_nextOrder_X12 hown hK hP 0 rfl rfl 13 (by decide) (hts (.fieldLink RX12 34 "ThriceCountedModel" "order" "[I") (by decide +kernel)) (fun _ h9 => h9) rfl dX12_nextOrder_18 ?_
          refine lv_iload_n hx hb dX12_nextOrder_21 rfl (lv_at hl 0 rfl) ?_
          refine lv_iconst (v := 1) hx hb dX12_nextOrder_22 (by decide) ?_
          refine lv_iadd hx hb dX12_nextOrder_23 ?_
          refine tz_i 3 (by decide) ?_
          refine va_iald hx hb hK hP 1 0 rfl rfl (show ¬ ((3 : Int32) < 0 ∨ 6 ≤ (3 : Int32).toNatClampNeg) by decide) dX12_nextOrder_24 ?_
          refine tz_i (fz_ 3) rfl ?_
          refine lv_icmp_le (tgt := 34) hx hb dX12_nextOrder_25 (by decide) (fun c_182 => ?_) (fun c_182 => ?_)
          · refine lv_iload_n hx hb dX12_nextOrder_34 rfl (lv_at hl 0 rfl) ?_
            refine lv_if_ge (tgt := 40) hx hb dX12_nextOrder_35 (by decide) (fun c_183 => ?_) (fun c_183 => ?_)
            · refine lv_aload_n hx hb dX12_nextOrder_40 rfl (lv_at hl 1 rfl) ?_
              refine va_get (D := (dC, dI)) (ci := 12) (v := .int 5) (C := RX12) (T := TX12) (N := 24) hx hb hts iw_m_nextOrder_X12 hown hK hP 0 rfl rfl 15 (by decide) (hts (.fieldLink RX12 218 "ThriceCountedModel" "soughtMany" "I") (by decide +kernel)) (fun _ h9 => h9) rfl dX12_nextOrder_41 ?_
              refine lv_iconst (v := 1) hx hb dX12_nextOrder_44 (by decide) ?_
              refine lv_isub hx hb dX12_nextOrder_45 ?_
              refine tz_i 4 (by decide) ?_
              refine lv_istore_n (lv' := [(2, .int 4), (1, .int 2), (0, .ref mo)]) hx hb dX12_nextOrder_46 rfl hl (by decide) rfl (fun ls hl => ?_)
              refine lv_aload_n hx hb dX12_nextOrder_47 rfl (lv_at hl 2 rfl) ?_
              refine va_get (D := (dC, dI)) (ci := 12) (v := .ref mz) (C := RX12) (T := TX12) (N := 24) hx hb hts iw_m_nextOrder_X12 hown hK hP 0 rfl rfl 13 (by decide) (hts (.fieldLink RX12 34 "ThriceCountedModel" "order" "[I") (by decide +kernel)) (fun _ h9 => h9) rfl dX12_nextOrder_48 ?_
              refine lv_iload_n hx hb dX12_nextOrder_51 rfl (lv_at hl 0 rfl) ?_
              refine va_iald hx hb hK hP 1 0 rfl rfl (show ¬ ((4 : Int32) < 0 ∨ 6 ≤ (4 : Int32).toNatClampNeg) by decide) dX12_nextOrder_52 ?_
              refine tz_i (fz_ 4) rfl ?_
              refine lv_aload_n hx hb dX12_nextOrder_53 rfl (lv_at hl 2 rfl) ?_
              refine va_get (D := (dC, dI)) (ci := 12) (v := .ref mz) (C := RX12) (T := TX12) (N := 24) hx hb hts iw_m_nextOrder_X12 hown hK hP 0 rfl rfl 13 (by decide) (hts (.fieldLink RX12 34 "ThriceCountedModel" "order" "[I") (by decide +kernel)) (fun _ h9 => h9) rfl dX12_nextOrder_54 ?_
              refine lv_iload_n hx hb dX12_nextOrder_57 rfl (lv_at hl 1 rfl) ?_
              refine va_iald hx hb hK hP 1 0 rfl rfl (show ¬ ((2 : Int32) < 0 ∨ 6 ≤ (2 : Int32).toNatClampNeg) by decide) dX12_nextOrder_58 ?_
              refine tz_i (fz_ 2) rfl ?_
              refine lv_icmp_ge (tgt := 68) hx hb dX12_nextOrder_59 (by decide) (fun c_184 => ?_) (fun c_184 => ?_)
              · refine lv_aload_n hx hb dX12_nextOrder_68 rfl (lv_at hl 2 rfl) ?_
                refine va_get (D := (dC, dI)) (ci := 12) (v := .ref mz) (C := RX12) (T := TX12) (N := 24) hx hb hts iw_m_nextOrder_X12 hown hK hP 0 rfl rfl 13 (by decide) (hts (.fieldLink RX12 34 "ThriceCountedModel" "order" "[I") (by decide +kernel)) (fun _ h9 => h9) rfl dX12_nextOrder_69 ?_
                refine lv_iload_n hx hb dX12_nextOrder_72 rfl (lv_at hl 1 rfl) ?_
                refine va_iald hx hb hK hP 1 0 rfl rfl (show ¬ ((2 : Int32) < 0 ∨ 6 ≤ (2 : Int32).toNatClampNeg) by decide) dX12_nextOrder_73 ?_
                refine tz_i (fz_ 2) rfl ?_
                refine lv_istore_n (lv' := [(3, .int (fz_ 2)), (2, .int 4), (1, .int 2), (0, .ref mo)]) hx hb dX12_nextOrder_74 rfl hl (by decide) rfl (fun ls hl => ?_)
                refine lv_aload_n hx hb dX12_nextOrder_75 rfl (lv_at hl 3 rfl) ?_
                refine va_get (D := (dC, dI)) (ci := 12) (v := .ref mz) (C := RX12) (T := TX12) (N := 24) hx hb hts iw_m_nextOrder_X12 hown hK hP 0 rfl rfl 13 (by decide) (hts (.fieldLink RX12 34 "ThriceCountedModel" "order" "[I") (by decide +kernel)) (fun _ h9 => h9) rfl dX12_nextOrder_76 ?_
                refine lv_iload_n hx hb dX12_nextOrder_79 rfl (lv_at hl 2 rfl) ?_
                refine lv_aload_n hx hb dX12_nextOrder_80 rfl (lv_at hl 3 rfl) ?_
                refine va_get (D := (dC, dI)) (ci := 12) (v := .ref mz) (C := RX12) (T := TX12) (N := 24) hx hb hts iw_m_nextOrder_X12 hown hK hP 0 rfl rfl 13 (by decide) (hts (.fieldLink RX12 34 "ThriceCountedModel" "order" "[I") (by decide +kernel)) (fun _ h9 => h9) rfl dX12_nextOrder_81 ?_
                refine lv_iload_n hx hb dX12_nextOrder_84 rfl (lv_at hl 1 rfl) ?_
                refine va_iald hx hb hK hP 1 0 rfl rfl (show ¬ ((4 : Int32) < 0 ∨ 6 ≤ (4 : Int32).toNatClampNeg) by decide) dX12_nextOrder_85 ?_
                refine tz_i (fz_ 4) rfl ?_
                refine va_iast hx hb hK hP hD hS 1 0 rfl rfl (show ¬ ((2 : Int32) < 0 ∨ 6 ≤ (2 : Int32).toNatClampNeg) by decide) dX12_nextOrder_86 (fun H locs hP hD hS => ?_)
                have hP : va_P (dC, dI) vwCl [(mo, .inr (12, [.ref nw, .ref kp, .ref ik, .ref mr, .long la_, .long lb_, .ref mw, .long lc_, .int ti_, .int cb_, .long ld_, .long le_, .ref mq, .ref mz, .ref my, .int 5, .ref mb, .int bl_, .int ta_, .int tl_, .int tk_, .int vl_, .ref mx, .ref mv])), (mz, .inl (cz_, 6, .inl (upd fz_ (Int32.toNatClampNeg 2) (fz_ 4))))] H := hP
                have hD : va_D A [(mo, .inr (12, [.ref nw, .ref kp, .ref ik, .ref mr, .long la_, .long lb_, .ref mw, .long lc_, .int ti_, .int cb_, .long ld_, .long le_, .ref mq, .ref mz, .ref my, .int 5, .ref mb, .int bl_, .int ta_, .int tl_, .int tk_, .int vl_, .ref mx, .ref mv])), (mz, .inl (cz_, 6, .inl (upd fz_ (Int32.toNatClampNeg 2) (fz_ 4))))] := hD
                refine lv_aload_n hx hb dX12_nextOrder_87 rfl (lv_at hl 3 rfl) ?_
                refine va_get (D := (dC, dI)) (ci := 12) (v := .ref mz) (C := RX12) (T := TX12) (N := 24) hx hb hts iw_m_nextOrder_X12 hown hK hP 0 rfl rfl 13 (by decide) (hts (.fieldLink RX12 34 "ThriceCountedModel" "order" "[I") (by decide +kernel)) (fun _ h9 => h9) rfl dX12_nextOrder_88 ?_
                refine lv_iload_n hx hb dX12_nextOrder_91 rfl (lv_at hl 1 rfl) ?_
                refine lv_iload_n hx hb dX12_nextOrder_92 rfl (lv_at hl 0 rfl) ?_
                refine va_iast hx hb hK hP hD hS 1 0 rfl rfl (show ¬ ((4 : Int32) < 0 ∨ 6 ≤ (4 : Int32).toNatClampNeg) by decide) dX12_nextOrder_93 (fun H locs hP hD hS => ?_)
                have hP : va_P (dC, dI) vwCl [(mo, .inr (12, [.ref nw, .ref kp, .ref ik, .ref mr, .long la_, .long lb_, .ref mw, .long lc_, .int ti_, .int cb_, .long ld_, .long le_, .ref mq, .ref mz, .ref my, .int 5, .ref mb, .int bl_, .int ta_, .int tl_, .int tk_, .int vl_, .ref mx, .ref mv])), (mz, .inl (cz_, 6, .inl (upd (upd fz_ (Int32.toNatClampNeg 2) (fz_ 4)) (Int32.toNatClampNeg 4) (fz_ 2))))] H := hP
                have hD : va_D A [(mo, .inr (12, [.ref nw, .ref kp, .ref ik, .ref mr, .long la_, .long lb_, .ref mw, .long lc_, .int ti_, .int cb_, .long ld_, .long le_, .ref mq, .ref mz, .ref my, .int 5, .ref mb, .int bl_, .int ta_, .int tl_, .int tk_, .int vl_, .ref mx, .ref mv])), (mz, .inl (cz_, 6, .inl (upd (upd fz_ (Int32.toNatClampNeg 2) (fz_ 4)) (Int32.toNatClampNeg 4) (fz_ 2))))] := hD
                refine lv_iload_n hx hb dX12_nextOrder_94 rfl (lv_at hl 2 rfl) ?_
                refine lv_iconst (v := 1) hx hb dX12_nextOrder_95 (by decide) ?_
                refine lv_iadd hx hb dX12_nextOrder_96 ?_
                refine tz_i 3 (by decide) ?_
                refine lv_istore (lv' := [(4, .int 3), (3, .int (fz_ 2)), (2, .int 4), (1, .int 2), (0, .ref mo)]) hx hb dX12_nextOrder_97 hl (by decide) rfl (fun ls hl => ?_)
                refine lv_aload_n hx hb dX12_nextOrder_99 rfl (lv_at hl 4 rfl) ?_
                refine va_get (D := (dC, dI)) (ci := 12) (v := .int 5) (C := RX12) (T := TX12) (N := 24) hx hb hts iw_m_nextOrder_X12 hown hK hP 0 rfl rfl 15 (by decide) (hts (.fieldLink RX12 218 "ThriceCountedModel" "soughtMany" "I") (by decide +kernel)) (fun _ h9 => h9) rfl dX12_nextOrder_100 ?_
                refine lv_iconst (v := 1) hx hb dX12_nextOrder_103 (by decide) ?_
                refine lv_isub hx hb dX12_nextOrder_104 ?_
                refine tz_i 4 (by decide) ?_
                refine lv_istore (lv' := [(5, .int 4), (4, .int 3), (3, .int (fz_ 2)), (2, .int 4), (1, .int 2), (0, .ref mo)]) hx hb dX12_nextOrder_105 hl (by decide) rfl (fun ls hl => ?_)
                refine lv_iload hx hb dX12_nextOrder_107 (lv_at hl 1 rfl) ?_
                refine lv_iload hx hb dX12_nextOrder_109 (lv_at hl 0 rfl) ?_
                refine lv_icmp_ge (tgt := 155) hx hb dX12_nextOrder_111 (by decide) (fun c_187 => ?_) (fun c_187 => ?_)
                · exact absurd c_187 (by decide)
                · refine lv_aload_n hx hb dX12_nextOrder_114 rfl (lv_at hl 5 rfl) ?_
                  refine va_get (D := (dC, dI)) (ci := 12) (v := .ref mz) (C := RX12) (T := TX12) (N := 24) hx hb hts iw_m_nextOrder_X12 hown hK hP 0 rfl rfl 13 (by decide) (hts (.fieldLink RX12 34 "ThriceCountedModel" "order" "[I") (by decide +kernel)) (fun _ h9 => h9) rfl dX12_nextOrder_115 ?_
                  refine lv_iload hx hb dX12_nextOrder_118 (lv_at hl 1 rfl) ?_
                  refine va_iald hx hb hK hP 1 0 rfl rfl (show ¬ ((3 : Int32) < 0 ∨ 6 ≤ (3 : Int32).toNatClampNeg) by decide) dX12_nextOrder_120 ?_
                  refine tz_i (fz_ 3) rfl ?_
                  refine lv_istore (lv' := [(6, .int (fz_ 3)), (5, .int 4), (4, .int 3), (3, .int (fz_ 2)), (2, .int 4), (1, .int 2), (0, .ref mo)]) hx hb dX12_nextOrder_121 hl (by decide) rfl (fun ls hl => ?_)
                  refine lv_aload_n hx hb dX12_nextOrder_123 rfl (lv_at hl 6 rfl) ?_
                  refine va_get (D := (dC, dI)) (ci := 12) (v := .ref mz) (C := RX12) (T := TX12) (N := 24) hx hb hts iw_m_nextOrder_X12 hown hK hP 0 rfl rfl 13 (by decide) (hts (.fieldLink RX12 34 "ThriceCountedModel" "order" "[I") (by decide +kernel)) (fun _ h9 => h9) rfl dX12_nextOrder_124 ?_
                  refine lv_iload hx hb dX12_nextOrder_127 (lv_at hl 2 rfl) ?_
                  refine lv_aload_n hx hb dX12_nextOrder_129 rfl (lv_at hl 6 rfl) ?_
                  refine va_get (D := (dC, dI)) (ci := 12) (v := .ref mz) (C := RX12) (T := TX12) (N := 24) hx hb hts iw_m_nextOrder_X12 hown hK hP 0 rfl rfl 13 (by decide) (hts (.fieldLink RX12 34 "ThriceCountedModel" "order" "[I") (by decide +kernel)) (fun _ h9 => h9) rfl dX12_nextOrder_130 ?_
                  refine lv_iload hx hb dX12_nextOrder_133 (lv_at hl 1 rfl) ?_
                  refine va_iald hx hb hK hP 1 0 rfl rfl (show ¬ ((4 : Int32) < 0 ∨ 6 ≤ (4 : Int32).toNatClampNeg) by decide) dX12_nextOrder_135 ?_
                  refine tz_i (fz_ 2) rfl ?_
                  refine va_iast hx hb hK hP hD hS 1 0 rfl rfl (show ¬ ((3 : Int32) < 0 ∨ 6 ≤ (3 : Int32).toNatClampNeg) by decide) dX12_nextOrder_136 (fun H locs hP hD hS => ?_)
                  have hP : va_P (dC, dI) vwCl [(mo, .inr (12, [.ref nw, .ref kp, .ref ik, .ref mr, .long la_, .long lb_, .ref mw, .long lc_, .int ti_, .int cb_, .long ld_, .long le_, .ref mq, .ref mz, .ref my, .int 5, .ref mb, .int bl_, .int ta_, .int tl_, .int tk_, .int vl_, .ref mx, .ref mv])), (mz, .inl (cz_, 6, .inl (upd (upd (upd fz_ (Int32.toNatClampNeg 2) (fz_ 4)) (Int32.toNatClampNeg 4) (fz_ 2)) (Int32.toNatClampNeg 3) (fz_ 2))))] H := hP
                  have hD : va_D A [(mo, .inr (12, [.ref nw, .ref kp, .ref ik, .ref mr, .long la_, .long lb_, .ref mw, .long lc_, .int ti_, .int cb_, .long ld_, .long le_, .ref mq, .ref mz, .ref my, .int 5, .ref mb, .int bl_, .int ta_, .int tl_, .int tk_, .int vl_, .ref mx, .ref mv])), (mz, .inl (cz_, 6, .inl (upd (upd (upd fz_ (Int32.toNatClampNeg 2) (fz_ 4)) (Int32.toNatClampNeg 4) (fz_ 2)) (Int32.toNatClampNeg 3) (fz_ 2))))] := hD
                  refine lv_aload_n hx hb dX12_nextOrder_137 rfl (lv_at hl 6 rfl) ?_
                  refine va_get (D := (dC, dI)) (ci := 12) (v := .ref mz) (C := RX12) (T := TX12) (N := 24) hx hb hts iw_m_nextOrder_X12 hown hK hP 0 rfl rfl 13 (by decide) (hts (.fieldLink RX12 34 "ThriceCountedModel" "order" "[I") (by decide +kernel)) (fun _ h9 => h9) rfl dX12_nextOrder_138 ?_
                  refine lv_iload hx hb dX12_nextOrder_141 (lv_at hl 1 rfl) ?_
                  refine lv_iload hx hb dX12_nextOrder_143 (lv_at hl 0 rfl) ?_
                  refine va_iast hx hb hK hP hD hS 1 0 rfl rfl (show ¬ ((4 : Int32) < 0 ∨ 6 ≤ (4 : Int32).toNatClampNeg) by decide) dX12_nextOrder_145 (fun H locs hP hD hS => ?_)
                  have hP : va_P (dC, dI) vwCl [(mo, .inr (12, [.ref nw, .ref kp, .ref ik, .ref mr, .long la_, .long lb_, .ref mw, .long lc_, .int ti_, .int cb_, .long ld_, .long le_, .ref mq, .ref mz, .ref my, .int 5, .ref mb, .int bl_, .int ta_, .int tl_, .int tk_, .int vl_, .ref mx, .ref mv])), (mz, .inl (cz_, 6, .inl (upd (upd (upd (upd fz_ (Int32.toNatClampNeg 2) (fz_ 4)) (Int32.toNatClampNeg 4) (fz_ 2)) (Int32.toNatClampNeg 3) (fz_ 2)) (Int32.toNatClampNeg 4) (fz_ 3))))] H := hP
                  have hD : va_D A [(mo, .inr (12, [.ref nw, .ref kp, .ref ik, .ref mr, .long la_, .long lb_, .ref mw, .long lc_, .int ti_, .int cb_, .long ld_, .long le_, .ref mq, .ref mz, .ref my, .int 5, .ref mb, .int bl_, .int ta_, .int tl_, .int tk_, .int vl_, .ref mx, .ref mv])), (mz, .inl (cz_, 6, .inl (upd (upd (upd (upd fz_ (Int32.toNatClampNeg 2) (fz_ 4)) (Int32.toNatClampNeg 4) (fz_ 2)) (Int32.toNatClampNeg 3) (fz_ 2)) (Int32.toNatClampNeg 4) (fz_ 3))))] := hD
                  refine lv_iinc (v := 4) (lv' := [(4, .int 4), (6, .int (fz_ 3)), (5, .int 4), (3, .int (fz_ 2)), (2, .int 4), (1, .int 2), (0, .ref mo)]) hx hb dX12_nextOrder_146 hl (k := 2) rfl (by decide) (by decide) rfl (fun ls hl => ?_)
                  refine lv_iinc (v := 3) (lv' := [(5, .int 3), (4, .int 4), (6, .int (fz_ 3)), (3, .int (fz_ 2)), (2, .int 4), (1, .int 2), (0, .ref mo)]) hx hb dX12_nextOrder_149 hl (k := 2) rfl (by decide) (by decide) rfl (fun ls hl => ?_)
                  refine lv_goto (tgt := 107) hx hb dX12_nextOrder_152 (by decide) ?_
                  refine lv_iload hx hb dX12_nextOrder_107 (lv_at hl 1 rfl) ?_
                  refine lv_iload hx hb dX12_nextOrder_109 (lv_at hl 0 rfl) ?_
                  refine lv_icmp_ge (tgt := 155) hx hb dX12_nextOrder_111 (by decide) (fun c_190 => ?_) (fun c_190 => ?_)
                  · refine lv_iconst (v := 1) hx hb dX12_nextOrder_155 (by decide) ?_
                    have hP9 := hP.sub (ws' := [(mo, .inr (12, [.ref nw, .ref kp, .ref ik, .ref mr, .long la_, .long lb_, .ref mw, .long lc_, .int ti_, .int cb_, .long ld_, .long le_, .ref mq, .ref mz, .ref my, .int (nI 5), .ref mb, .int bl_, .int ta_, .int tl_, .int tk_, .int vl_, .ref mx, .ref mv])), (mz, .inl (cz_, 6, .inl (upd (upd (upd (upd fz_ (Int32.toNatClampNeg 2) (fz_ 4)) (Int32.toNatClampNeg 4) (fz_ 2)) (Int32.toNatClampNeg 3) (fz_ 2)) (Int32.toNatClampNeg 4) (fz_ 3))))]) [0, 1] rfl
                    have hD9 := hD.sub (ws' := [(mo, .inr (12, [.ref nw, .ref kp, .ref ik, .ref mr, .long la_, .long lb_, .ref mw, .long lc_, .int ti_, .int cb_, .long ld_, .long le_, .ref mq, .ref mz, .ref my, .int (nI 5), .ref mb, .int bl_, .int ta_, .int tl_, .int tk_, .int vl_, .ref mx, .ref mv])), (mz, .inl (cz_, 6, .inl (upd (upd (upd (upd fz_ (Int32.toNatClampNeg 2) (fz_ 4)) (Int32.toNatClampNeg 4) (fz_ 2)) (Int32.toNatClampNeg 3) (fz_ 2)) (Int32.toNatClampNeg 4) (fz_ 3))))]) [0, 1] (by decide) rfl
                    have hK9 := hK.sub (tys' := [(cz_, .int)]) [0] rfl
                    have hlt_191 : (fz_ 2).toInt < (fz_ 4).toInt := tz_ltt2 c_184 (hdi.2 2 4 (by omega) (by omega))
                    have hb_192 := hdi.1 0 (by omega)
                    have hb_193 := hdi.1 1 (by omega)
                    have hb_194 := hdi.1 2 (by omega)
                    have hb_195 := hdi.1 3 (by omega)
                    have hb_196 := hdi.1 4 (by omega)
                    have ev_197 : tz_val 5 fz_ = 7776 * (fz_ 0).toInt + 1296 * (fz_ 1).toInt + 216 * (fz_ 2).toInt + 36 * (fz_ 3).toInt + 6 * (fz_ 4).toInt + 0 := rfl
                    have eg_198 : tz_val 5 (upd (upd (upd (upd fz_ (Int32.toNatClampNeg 2) (fz_ 4)) (Int32.toNatClampNeg 4) (fz_ 2)) (Int32.toNatClampNeg 3) (fz_ 2)) (Int32.toNatClampNeg 4) (fz_ 3)) = 7776 * (fz_ 0).toInt + 1296 * (fz_ 1).toInt + 216 * (fz_ 4).toInt + 36 * (fz_ 2).toInt + 6 * (fz_ 3).toInt + 0 := rfl
                    have hp_199 : tz_Di 5 (upd (upd (upd (upd fz_ (Int32.toNatClampNeg 2) (fz_ 4)) (Int32.toNatClampNeg 4) (fz_ 2)) (Int32.toNatClampNeg 3) (fz_ 2)) (Int32.toNatClampNeg 4) (fz_ 3)) := hdi.perm (fun a => ([0, 1, 4, 2, 3] : List Nat).getD a 0) (fun a ha => by
                      rcases (show a = 0 ∨ a = 1 ∨ a = 2 ∨ a = 3 ∨ a = 4 by omega) with rfl | rfl | rfl | rfl | rfl <;> exact ⟨by decide, rfl⟩) (by decide)
                    exact W.zret (v := 1) hx hb hr (by decide) (fun t ht hW => ⟨⟨1, (), rfl, Or.inr ⟨rfl, 2, by omega, tz_nle_of c_182⟩, (upd (upd (upd (upd fz_ (Int32.toNatClampNeg 2) (fz_ 4)) (Int32.toNatClampNeg 4) (fz_ 2)) (Int32.toNatClampNeg 3) (fz_ 2)) (Int32.toNatClampNeg 4) (fz_ 3)), hp_199, by rw [ev_197, eg_198]; omega, fun _ => by rw [ev_197, eg_198]; omega, by rw [ht]; exact hP9, va_K.moved hW.alike hK9, hD9⟩, hS.F ht⟩) hS.2.2 dX12_nextOrder_156
                  · exact absurd c_190 (by decide)
              · refine lv_iinc (v := 3) (lv' := [(2, .int 3), (1, .int 2), (0, .ref mo)]) hx hb dX12_nextOrder_62 hl (k := 0) rfl (by decide) (by decide) rfl (fun ls hl => ?_)
                refine lv_goto (tgt := 47) hx hb dX12_nextOrder_65 (by decide) ?_
                refine lv_aload_n hx hb dX12_nextOrder_47 rfl (lv_at hl 2 rfl) ?_
                refine va_get (D := (dC, dI)) (ci := 12) (v := .ref mz) (C := RX12) (T := TX12) (N := 24) hx hb hts iw_m_nextOrder_X12 hown hK hP 0 rfl rfl 13 (by decide) (hts (.fieldLink RX12 34 "ThriceCountedModel" "order" "[I") (by decide +kernel)) (fun _ h9 => h9) rfl dX12_nextOrder_48 ?_
                refine lv_iload_n hx hb dX12_nextOrder_51 rfl (lv_at hl 0 rfl) ?_
                refine va_iald hx hb hK hP 1 0 rfl rfl (show ¬ ((3 : Int32) < 0 ∨ 6 ≤ (3 : Int32).toNatClampNeg) by decide) dX12_nextOrder_52 ?_
                refine tz_i (fz_ 3) rfl ?_
                refine lv_aload_n hx hb dX12_nextOrder_53 rfl (lv_at hl 2 rfl) ?_
                refine va_get (D := (dC, dI)) (ci := 12) (v := .ref mz) (C := RX12) (T := TX12) (N := 24) hx hb hts iw_m_nextOrder_X12 hown hK hP 0 rfl rfl 13 (by decide) (hts (.fieldLink RX12 34 "ThriceCountedModel" "order" "[I") (by decide +kernel)) (fun _ h9 => h9) rfl dX12_nextOrder_54 ?_
                refine lv_iload_n hx hb dX12_nextOrder_57 rfl (lv_at hl 1 rfl) ?_
                refine va_iald hx hb hK hP 1 0 rfl rfl (show ¬ ((2 : Int32) < 0 ∨ 6 ≤ (2 : Int32).toNatClampNeg) by decide) dX12_nextOrder_58 ?_
                refine tz_i (fz_ 2) rfl ?_
                refine lv_icmp_ge (tgt := 68) hx hb dX12_nextOrder_59 (by decide) (fun c_200 => ?_) (fun c_200 => ?_)
                · refine lv_aload_n hx hb dX12_nextOrder_68 rfl (lv_at hl 2 rfl) ?_
                  refine va_get (D := (dC, dI)) (ci := 12) (v := .ref mz) (C := RX12) (T := TX12) (N := 24) hx hb hts iw_m_nextOrder_X12 hown hK hP 0 rfl rfl 13 (by decide) (hts (.fieldLink RX12 34 "ThriceCountedModel" "order" "[I") (by decide +kernel)) (fun _ h9 => h9) rfl dX12_nextOrder_69 ?_
                  refine lv_iload_n hx hb dX12_nextOrder_72 rfl (lv_at hl 1 rfl) ?_
                  refine va_iald hx hb hK hP 1 0 rfl rfl (show ¬ ((2 : Int32) < 0 ∨ 6 ≤ (2 : Int32).toNatClampNeg) by decide) dX12_nextOrder_73 ?_
                  refine tz_i (fz_ 2) rfl ?_
                  refine lv_istore_n (lv' := [(3, .int (fz_ 2)), (2, .int 3), (1, .int 2), (0, .ref mo)]) hx hb dX12_nextOrder_74 rfl hl (by decide) rfl (fun ls hl => ?_)
                  refine lv_aload_n hx hb dX12_nextOrder_75 rfl (lv_at hl 3 rfl) ?_
                  refine va_get (D := (dC, dI)) (ci := 12) (v := .ref mz) (C := RX12) (T := TX12) (N := 24) hx hb hts iw_m_nextOrder_X12 hown hK hP 0 rfl rfl 13 (by decide) (hts (.fieldLink RX12 34 "ThriceCountedModel" "order" "[I") (by decide +kernel)) (fun _ h9 => h9) rfl dX12_nextOrder_76 ?_
                  refine lv_iload_n hx hb dX12_nextOrder_79 rfl (lv_at hl 2 rfl) ?_
                  refine lv_aload_n hx hb dX12_nextOrder_80 rfl (lv_at hl 3 rfl) ?_
                  refine va_get (D := (dC, dI)) (ci := 12) (v := .ref mz) (C := RX12) (T := TX12) (N := 24) hx hb hts iw_m_nextOrder_X12 hown hK hP 0 rfl rfl 13 (by decide) (hts (.fieldLink RX12 34 "ThriceCountedModel" "order" "[I") (by decide +kernel)) (fun _ h9 => h9) rfl dX12_nextOrder_81 ?_
                  refine lv_iload_n hx hb dX12_nextOrder_84 rfl (lv_at hl 1 rfl) ?_
                  refine va_iald hx hb hK hP 1 0 rfl rfl (show ¬ ((3 : Int32) < 0 ∨ 6 ≤ (3 : Int32).toNatClampNeg) by decide) dX12_nextOrder_85 ?_
                  refine tz_i (fz_ 3) rfl ?_
                  refine va_iast hx hb hK hP hD hS 1 0 rfl rfl (show ¬ ((2 : Int32) < 0 ∨ 6 ≤ (2 : Int32).toNatClampNeg) by decide) dX12_nextOrder_86 (fun H locs hP hD hS => ?_)
                  have hP : va_P (dC, dI) vwCl [(mo, .inr (12, [.ref nw, .ref kp, .ref ik, .ref mr, .long la_, .long lb_, .ref mw, .long lc_, .int ti_, .int cb_, .long ld_, .long le_, .ref mq, .ref mz, .ref my, .int 5, .ref mb, .int bl_, .int ta_, .int tl_, .int tk_, .int vl_, .ref mx, .ref mv])), (mz, .inl (cz_, 6, .inl (upd fz_ (Int32.toNatClampNeg 2) (fz_ 3))))] H := hP
                  have hD : va_D A [(mo, .inr (12, [.ref nw, .ref kp, .ref ik, .ref mr, .long la_, .long lb_, .ref mw, .long lc_, .int ti_, .int cb_, .long ld_, .long le_, .ref mq, .ref mz, .ref my, .int 5, .ref mb, .int bl_, .int ta_, .int tl_, .int tk_, .int vl_, .ref mx, .ref mv])), (mz, .inl (cz_, 6, .inl (upd fz_ (Int32.toNatClampNeg 2) (fz_ 3))))] := hD
                  refine lv_aload_n hx hb dX12_nextOrder_87 rfl (lv_at hl 3 rfl) ?_
                  refine va_get (D := (dC, dI)) (ci := 12) (v := .ref mz) (C := RX12) (T := TX12) (N := 24) hx hb hts iw_m_nextOrder_X12 hown hK hP 0 rfl rfl 13 (by decide) (hts (.fieldLink RX12 34 "ThriceCountedModel" "order" "[I") (by decide +kernel)) (fun _ h9 => h9) rfl dX12_nextOrder_88 ?_
                  refine lv_iload_n hx hb dX12_nextOrder_91 rfl (lv_at hl 1 rfl) ?_
                  refine lv_iload_n hx hb dX12_nextOrder_92 rfl (lv_at hl 0 rfl) ?_
                  refine va_iast hx hb hK hP hD hS 1 0 rfl rfl (show ¬ ((3 : Int32) < 0 ∨ 6 ≤ (3 : Int32).toNatClampNeg) by decide) dX12_nextOrder_93 (fun H locs hP hD hS => ?_)
                  have hP : va_P (dC, dI) vwCl [(mo, .inr (12, [.ref nw, .ref kp, .ref ik, .ref mr, .long la_, .long lb_, .ref mw, .long lc_, .int ti_, .int cb_, .long ld_, .long le_, .ref mq, .ref mz, .ref my, .int 5, .ref mb, .int bl_, .int ta_, .int tl_, .int tk_, .int vl_, .ref mx, .ref mv])), (mz, .inl (cz_, 6, .inl (upd (upd fz_ (Int32.toNatClampNeg 2) (fz_ 3)) (Int32.toNatClampNeg 3) (fz_ 2))))] H := hP
                  have hD : va_D A [(mo, .inr (12, [.ref nw, .ref kp, .ref ik, .ref mr, .long la_, .long lb_, .ref mw, .long lc_, .int ti_, .int cb_, .long ld_, .long le_, .ref mq, .ref mz, .ref my, .int 5, .ref mb, .int bl_, .int ta_, .int tl_, .int tk_, .int vl_, .ref mx, .ref mv])), (mz, .inl (cz_, 6, .inl (upd (upd fz_ (Int32.toNatClampNeg 2) (fz_ 3)) (Int32.toNatClampNeg 3) (fz_ 2))))] := hD
                  refine lv_iload_n hx hb dX12_nextOrder_94 rfl (lv_at hl 2 rfl) ?_
                  refine lv_iconst (v := 1) hx hb dX12_nextOrder_95 (by decide) ?_
                  refine lv_iadd hx hb dX12_nextOrder_96 ?_
                  refine tz_i 3 (by decide) ?_
                  refine lv_istore (lv' := [(4, .int 3), (3, .int (fz_ 2)), (2, .int 3), (1, .int 2), (0, .ref mo)]) hx hb dX12_nextOrder_97 hl (by decide) rfl (fun ls hl => ?_)
                  refine lv_aload_n hx hb dX12_nextOrder_99 rfl (lv_at hl 4 rfl) ?_
                  refine va_get (D := (dC, dI)) (ci := 12) (v := .int 5) (C := RX12) (T := TX12) (N := 24) hx hb hts iw_m_nextOrder_X12 hown hK hP 0 rfl rfl 15 (by decide) (hts (.fieldLink RX12 218 "ThriceCountedModel" "soughtMany" "I") (by decide +kernel)) (fun _ h9 => h9) rfl dX12_nextOrder_100 ?_
                  refine lv_iconst (v := 1) hx hb dX12_nextOrder_103 (by decide) ?_
                  refine lv_isub hx hb dX12_nextOrder_104 ?_
                  refine tz_i 4 (by decide) ?_
                  refine lv_istore (lv' := [(5, .int 4), (4, .int 3), (3, .int (fz_ 2)), (2, .int 3), (1, .int 2), (0, .ref mo)]) hx hb dX12_nextOrder_105 hl (by decide) rfl (fun ls hl => ?_)
                  refine lv_iload hx hb dX12_nextOrder_107 (lv_at hl 1 rfl) ?_
                  refine lv_iload hx hb dX12_nextOrder_109 (lv_at hl 0 rfl) ?_
                  refine lv_icmp_ge (tgt := 155) hx hb dX12_nextOrder_111 (by decide) (fun c_203 => ?_) (fun c_203 => ?_)
                  · exact absurd c_203 (by decide)
                  · refine lv_aload_n hx hb dX12_nextOrder_114 rfl (lv_at hl 5 rfl) ?_
                    refine va_get (D := (dC, dI)) (ci := 12) (v := .ref mz) (C := RX12) (T := TX12) (N := 24) hx hb hts iw_m_nextOrder_X12 hown hK hP 0 rfl rfl 13 (by decide) (hts (.fieldLink RX12 34 "ThriceCountedModel" "order" "[I") (by decide +kernel)) (fun _ h9 => h9) rfl dX12_nextOrder_115 ?_
                    refine lv_iload hx hb dX12_nextOrder_118 (lv_at hl 1 rfl) ?_
                    refine va_iald hx hb hK hP 1 0 rfl rfl (show ¬ ((3 : Int32) < 0 ∨ 6 ≤ (3 : Int32).toNatClampNeg) by decide) dX12_nextOrder_120 ?_
                    refine tz_i (fz_ 2) rfl ?_
                    refine lv_istore (lv' := [(6, .int (fz_ 2)), (5, .int 4), (4, .int 3), (3, .int (fz_ 2)), (2, .int 3), (1, .int 2), (0, .ref mo)]) hx hb dX12_nextOrder_121 hl (by decide) rfl (fun ls hl => ?_)
                    refine lv_aload_n hx hb dX12_nextOrder_123 rfl (lv_at hl 6 rfl) ?_
                    refine va_get (D := (dC, dI)) (ci := 12) (v := .ref mz) (C := RX12) (T := TX12) (N := 24) hx hb hts iw_m_nextOrder_X12 hown hK hP 0 rfl rfl 13 (by decide) (hts (.fieldLink RX12 34 "ThriceCountedModel" "order" "[I") (by decide +kernel)) (fun _ h9 => h9) rfl dX12_nextOrder_124 ?_
                    refine lv_iload hx hb dX12_nextOrder_127 (lv_at hl 2 rfl) ?_
                    refine lv_aload_n hx hb dX12_nextOrder_129 rfl (lv_at hl 6 rfl) ?_
                    refine va_get (D := (dC, dI)) (ci := 12) (v := .ref mz) (C := RX12) (T := TX12) (N := 24) hx hb hts iw_m_nextOrder_X12 hown hK hP 0 rfl rfl 13 (by decide) (hts (.fieldLink RX12 34 "ThriceCountedModel" "order" "[I") (by decide +kernel)) (fun _ h9 => h9) rfl dX12_nextOrder_130 ?_
                    refine lv_iload hx hb dX12_nextOrder_133 (lv_at hl 1 rfl) ?_
                    refine va_iald hx hb hK hP 1 0 rfl rfl (show ¬ ((4 : Int32) < 0 ∨ 6 ≤ (4 : Int32).toNatClampNeg) by decide) dX12_nextOrder_135 ?_
                    refine tz_i (fz_ 4) rfl ?_
                    refine va_iast hx hb hK hP hD hS 1 0 rfl rfl (show ¬ ((3 : Int32) < 0 ∨ 6 ≤ (3 : Int32).toNatClampNeg) by decide) dX12_nextOrder_136 (fun H locs hP hD hS => ?_)
                    have hP : va_P (dC, dI) vwCl [(mo, .inr (12, [.ref nw, .ref kp, .ref ik, .ref mr, .long la_, .long lb_, .ref mw, .long lc_, .int ti_, .int cb_, .long ld_, .long le_, .ref mq, .ref mz, .ref my, .int 5, .ref mb, .int bl_, .int ta_, .int tl_, .int tk_, .int vl_, .ref mx, .ref mv])), (mz, .inl (cz_, 6, .inl (upd (upd (upd fz_ (Int32.toNatClampNeg 2) (fz_ 3)) (Int32.toNatClampNeg 3) (fz_ 2)) (Int32.toNatClampNeg 3) (fz_ 4))))] H := hP
                    have hD : va_D A [(mo, .inr (12, [.ref nw, .ref kp, .ref ik, .ref mr, .long la_, .long lb_, .ref mw, .long lc_, .int ti_, .int cb_, .long ld_, .long le_, .ref mq, .ref mz, .ref my, .int 5, .ref mb, .int bl_, .int ta_, .int tl_, .int tk_, .int vl_, .ref mx, .ref mv])), (mz, .inl (cz_, 6, .inl (upd (upd (upd fz_ (Int32.toNatClampNeg 2) (fz_ 3)) (Int32.toNatClampNeg 3) (fz_ 2)) (Int32.toNatClampNeg 3) (fz_ 4))))] := hD
                    refine lv_aload_n hx hb dX12_nextOrder_137 rfl (lv_at hl 6 rfl) ?_
                    refine va_get (D := (dC, dI)) (ci := 12) (v := .ref mz) (C := RX12) (T := TX12) (N := 24) hx hb hts iw_m_nextOrder_X12 hown hK hP 0 rfl rfl 13 (by decide) (hts (.fieldLink RX12 34 "ThriceCountedModel" "order" "[I") (by decide +kernel)) (fun _ h9 => h9) rfl dX12_nextOrder_138 ?_
                    refine lv_iload hx hb dX12_nextOrder_141 (lv_at hl 1 rfl) ?_
                    refine lv_iload hx hb dX12_nextOrder_143 (lv_at hl 0 rfl) ?_
                    refine va_iast hx hb hK hP hD hS 1 0 rfl rfl (show ¬ ((4 : Int32) < 0 ∨ 6 ≤ (4 : Int32).toNatClampNeg) by decide) dX12_nextOrder_145 (fun H locs hP hD hS => ?_)
                    have hP : va_P (dC, dI) vwCl [(mo, .inr (12, [.ref nw, .ref kp, .ref ik, .ref mr, .long la_, .long lb_, .ref mw, .long lc_, .int ti_, .int cb_, .long ld_, .long le_, .ref mq, .ref mz, .ref my, .int 5, .ref mb, .int bl_, .int ta_, .int tl_, .int tk_, .int vl_, .ref mx, .ref mv])), (mz, .inl (cz_, 6, .inl (upd (upd (upd (upd fz_ (Int32.toNatClampNeg 2) (fz_ 3)) (Int32.toNatClampNeg 3) (fz_ 2)) (Int32.toNatClampNeg 3) (fz_ 4)) (Int32.toNatClampNeg 4) (fz_ 2))))] H := hP
                    have hD : va_D A [(mo, .inr (12, [.ref nw, .ref kp, .ref ik, .ref mr, .long la_, .long lb_, .ref mw, .long lc_, .int ti_, .int cb_, .long ld_, .long le_, .ref mq, .ref mz, .ref my, .int 5, .ref mb, .int bl_, .int ta_, .int tl_, .int tk_, .int vl_, .ref mx, .ref mv])), (mz, .inl (cz_, 6, .inl (upd (upd (upd (upd fz_ (Int32.toNatClampNeg 2) (fz_ 3)) (Int32.toNatClampNeg 3) (fz_ 2)) (Int32.toNatClampNeg 3) (fz_ 4)) (Int32.toNatClampNeg 4) (fz_ 2))))] := hD
                    refine lv_iinc (v := 4) (lv' := [(4, .int 4), (6, .int (fz_ 2)), (5, .int 4), (3, .int (fz_ 2)), (2, .int 3), (1, .int 2), (0, .ref mo)]) hx hb dX12_nextOrder_146 hl (k := 2) rfl (by decide) (by decide) rfl (fun ls hl => ?_)
                    refine lv_iinc (v := 3) (lv' := [(5, .int 3), (4, .int 4), (6, .int (fz_ 2)), (3, .int (fz_ 2)), (2, .int 3), (1, .int 2), (0, .ref mo)]) hx hb dX12_nextOrder_149 hl (k := 2) rfl (by decide) (by decide) rfl (fun ls hl => ?_)
                    refine lv_goto (tgt := 107) hx hb dX12_nextOrder_152 (by decide) ?_
                    refine lv_iload hx hb dX12_nextOrder_107 (lv_at hl 1 rfl) ?_
                    refine lv_iload hx hb dX12_nextOrder_109 (lv_at hl 0 rfl) ?_
                    refine lv_icmp_ge (tgt := 155) hx hb dX12_nextOrder_111 (by decide) (fun c_206 => ?_) (fun c_206 => ?_)
                    · refine lv_iconst (v := 1) hx hb dX12_nextOrder_155 (by decide) ?_
                      have hP9 := hP.sub (ws' := [(mo, .inr (12, [.ref nw, .ref kp, .ref ik, .ref mr, .long la_, .long lb_, .ref mw, .long lc_, .int ti_, .int cb_, .long ld_, .long le_, .ref mq, .ref mz, .ref my, .int (nI 5), .ref mb, .int bl_, .int ta_, .int tl_, .int tk_, .int vl_, .ref mx, .ref mv])), (mz, .inl (cz_, 6, .inl (upd (upd (upd (upd fz_ (Int32.toNatClampNeg 2) (fz_ 3)) (Int32.toNatClampNeg 3) (fz_ 2)) (Int32.toNatClampNeg 3) (fz_ 4)) (Int32.toNatClampNeg 4) (fz_ 2))))]) [0, 1] rfl
                      have hD9 := hD.sub (ws' := [(mo, .inr (12, [.ref nw, .ref kp, .ref ik, .ref mr, .long la_, .long lb_, .ref mw, .long lc_, .int ti_, .int cb_, .long ld_, .long le_, .ref mq, .ref mz, .ref my, .int (nI 5), .ref mb, .int bl_, .int ta_, .int tl_, .int tk_, .int vl_, .ref mx, .ref mv])), (mz, .inl (cz_, 6, .inl (upd (upd (upd (upd fz_ (Int32.toNatClampNeg 2) (fz_ 3)) (Int32.toNatClampNeg 3) (fz_ 2)) (Int32.toNatClampNeg 3) (fz_ 4)) (Int32.toNatClampNeg 4) (fz_ 2))))]) [0, 1] (by decide) rfl
                      have hK9 := hK.sub (tys' := [(cz_, .int)]) [0] rfl
                      have hlt_207 : (fz_ 2).toInt < (fz_ 3).toInt := tz_ltt2 c_200 (hdi.2 2 3 (by omega) (by omega))
                      have hb_208 := hdi.1 0 (by omega)
                      have hb_209 := hdi.1 1 (by omega)
                      have hb_210 := hdi.1 2 (by omega)
                      have hb_211 := hdi.1 3 (by omega)
                      have hb_212 := hdi.1 4 (by omega)
                      have ev_213 : tz_val 5 fz_ = 7776 * (fz_ 0).toInt + 1296 * (fz_ 1).toInt + 216 * (fz_ 2).toInt + 36 * (fz_ 3).toInt + 6 * (fz_ 4).toInt + 0 := rfl
                      have eg_214 : tz_val 5 (upd (upd (upd (upd fz_ (Int32.toNatClampNeg 2) (fz_ 3)) (Int32.toNatClampNeg 3) (fz_ 2)) (Int32.toNatClampNeg 3) (fz_ 4)) (Int32.toNatClampNeg 4) (fz_ 2)) = 7776 * (fz_ 0).toInt + 1296 * (fz_ 1).toInt + 216 * (fz_ 3).toInt + 36 * (fz_ 4).toInt + 6 * (fz_ 2).toInt + 0 := rfl
                      have hp_215 : tz_Di 5 (upd (upd (upd (upd fz_ (Int32.toNatClampNeg 2) (fz_ 3)) (Int32.toNatClampNeg 3) (fz_ 2)) (Int32.toNatClampNeg 3) (fz_ 4)) (Int32.toNatClampNeg 4) (fz_ 2)) := hdi.perm (fun a => ([0, 1, 3, 4, 2] : List Nat).getD a 0) (fun a ha => by
                        rcases (show a = 0 ∨ a = 1 ∨ a = 2 ∨ a = 3 ∨ a = 4 by omega) with rfl | rfl | rfl | rfl | rfl <;> exact ⟨by decide, rfl⟩) (by decide)
                      exact W.zret (v := 1) hx hb hr (by decide) (fun t ht hW => ⟨⟨1, (), rfl, Or.inr ⟨rfl, 2, by omega, tz_nle_of c_200⟩, (upd (upd (upd (upd fz_ (Int32.toNatClampNeg 2) (fz_ 3)) (Int32.toNatClampNeg 3) (fz_ 2)) (Int32.toNatClampNeg 3) (fz_ 4)) (Int32.toNatClampNeg 4) (fz_ 2)), hp_215, by rw [ev_213, eg_214]; omega, fun _ => by rw [ev_213, eg_214]; omega, by rw [ht]; exact hP9, va_K.moved hW.alike hK9, hD9⟩, hS.F ht⟩) hS.2.2 dX12_nextOrder_156
                    · exact absurd c_206 (by decide)
                · exact absurd c_182 c_200
            · exact absurd c_183 (by decide)
          · refine lv_iinc (v := 1) (lv' := [(1, .int 1), (0, .ref mo)]) hx hb dX12_nextOrder_28 hl (k := 0) rfl (by decide) (by decide) rfl (fun ls hl => ?_)
            refine lv_goto (tgt := 7) hx hb dX12_nextOrder_31 (by decide) ?_
            refine lv_iload_n hx hb dX12_nextOrder_7 rfl (lv_at hl 0 rfl) ?_
            refine lv_if_lt (tgt := 34) hx hb dX12_nextOrder_8 (by decide) (fun c_216 => ?_) (fun c_216 => ?_)
            · exact absurd c_216 (by decide)
            · refine lv_aload_n hx hb dX12_nextOrder_11 rfl (lv_at hl 1 rfl) ?_
              refine va_get (D := (dC, dI)) (ci := 12) (v := .ref mz) (C := RX12) (T := TX12) (N := 24) hx hb hts iw_m_nextOrder_X12 hown hK hP 0 rfl rfl 13 (by decide) (hts (.fieldLink RX12 34 "ThriceCountedModel" "order" "[I") (by decide +kernel)) (fun _ h9 => h9) rfl dX12_nextOrder_12 ?_
              refine lv_iload_n hx hb dX12_nextOrder_15 rfl (lv_at hl 0 rfl) ?_
              refine va_iald hx hb hK hP 1 0 rfl rfl (show ¬ ((1 : Int32) < 0 ∨ 6 ≤ (1 : Int32).toNatClampNeg) by decide) dX12_nextOrder_16 ?_
              refine tz_i (fz_ 1) rfl ?_
              refine lv_aload_n hx hb dX12_nextOrder_17 rfl (lv_at hl 1 rfl) ?_
              refine va_get (D := (dC, dI)) (ci := 12) (v := .ref mz) (C := RX12) (T := TX12) (N := 24) hx hb hts iw_m_nextOrder_X12 hown hK hP 0 rfl rfl 13 (by decide) (hts (.fieldLink RX12 34 "ThriceCountedModel" "order" "[I") (by decide +kernel)) (fun _ h9 => h9) rfl dX12_nextOrder_18 ?_
              refine lv_iload_n hx hb dX12_nextOrder_21 rfl (lv_at hl 0 rfl) ?_
              refine lv_iconst (v := 1) hx hb dX12_nextOrder_22 (by decide) ?_
              refine lv_iadd hx hb dX12_nextOrder_23 ?_
              refine tz_i 2 (by decide) ?_
              refine va_iald hx hb hK hP 1 0 rfl rfl (show ¬ ((2 : Int32) < 0 ∨ 6 ≤ (2 : Int32).toNatClampNeg) by decide) dX12_nextOrder_24 ?_
              refine tz_i (fz_ 2) rfl ?_
              refine lv_icmp_le (tgt := 34) hx hb dX12_nextOrder_25 (by decide) (fun c_217 => ?_) (fun c_217 => ?_)
              · refine lv_iload_n hx hb dX12_nextOrder_34 rfl (lv_at hl 0 rfl) ?_
                refine lv_if_ge (tgt := 40) hx hb dX12_nextOrder_35 (by decide) (fun c_218 => ?_) (fun c_218 => ?_)
                · refine lv_aload_n hx hb dX12_nextOrder_40 rfl (lv_at hl 1 rfl) ?_
                  refine va_get (D := (dC, dI)) (ci := 12) (v := .int 5) (C := RX12) (T := TX12) (N := 24) hx hb hts iw_m_nextOrder_X12 hown hK hP 0 rfl rfl 15 (by decide) (hts (.fieldLink RX12 218 "ThriceCountedModel" "soughtMany" "I") (by decide +kernel)) (fun _ h9 => h9) rfl dX12_nextOrder_41 ?_
                  refine lv_iconst (v := 1) hx hb dX12_nextOrder_44 (by decide) ?_
                  refine lv_isub hx hb dX12_nextOrder_45 ?_
                  refine tz_i 4 (by decide) ?_
                  refine lv_istore_n (lv' := [(2, .int 4), (1, .int 1), (0, .ref mo)]) hx hb dX12_nextOrder_46 rfl hl (by decide) rfl (fun ls hl => ?_)
                  refine lv_aload_n hx hb dX12_nextOrder_47 rfl (lv_at hl 2 rfl) ?_
                  refine va_get (D := (dC, dI)) (ci := 12) (v := .ref mz) (C := RX12) (T := TX12) (N := 24) hx hb hts iw_m_nextOrder_X12 hown hK hP 0 rfl rfl 13 (by decide) (hts (.fieldLink RX12 34 "ThriceCountedModel" "order" "[I") (by decide +kernel)) (fun _ h9 => h9) rfl dX12_nextOrder_48 ?_
                  refine lv_iload_n hx hb dX12_nextOrder_51 rfl (lv_at hl 0 rfl) ?_
                  refine va_iald hx hb hK hP 1 0 rfl rfl (show ¬ ((4 : Int32) < 0 ∨ 6 ≤ (4 : Int32).toNatClampNeg) by decide) dX12_nextOrder_52 ?_
                  refine tz_i (fz_ 4) rfl ?_
                  refine lv_aload_n hx hb dX12_nextOrder_53 rfl (lv_at hl 2 rfl) ?_
                  refine va_get (D := (dC, dI)) (ci := 12) (v := .ref mz) (C := RX12) (T := TX12) (N := 24) hx hb hts iw_m_nextOrder_X12 hown hK hP 0 rfl rfl 13 (by decide) (hts (.fieldLink RX12 34 "ThriceCountedModel" "order" "[I") (by decide +kernel)) (fun _ h9 => h9) rfl dX12_nextOrder_54 ?_
                  refine lv_iload_n hx hb dX12_nextOrder_57 rfl (lv_at hl 1 rfl) ?_
                  refine va_iald hx hb hK hP 1 0 rfl rfl (show ¬ ((1 : Int32) < 0 ∨ 6 ≤ (1 : Int32).toNatClampNeg) by decide) dX12_nextOrder_58 ?_
                  refine tz_i (fz_ 1) rfl ?_
                  refine lv_icmp_ge (tgt := 68) hx hb dX12_nextOrder_59 (by decide) (fun c_219 => ?_) (fun c_219 => ?_)
                  · refine lv_aload_n hx hb dX12_nextOrder_68 rfl (lv_at hl 2 rfl) ?_
                    refine va_get (D := (dC, dI)) (ci := 12) (v := .ref mz) (C := RX12) (T := TX12) (N := 24) hx hb hts iw_m_nextOrder_X12 hown hK hP 0 rfl rfl 13 (by decide) (hts (.fieldLink RX12 34 "ThriceCountedModel" "order" "[I") (by decide +kernel)) (fun _ h9 => h9) rfl dX12_nextOrder_69 ?_
                    refine lv_iload_n hx hb dX12_nextOrder_72 rfl (lv_at hl 1 rfl) ?_
                    refine va_iald hx hb hK hP 1 0 rfl rfl (show ¬ ((1 : Int32) < 0 ∨ 6 ≤ (1 : Int32).toNatClampNeg) by decide) dX12_nextOrder_73 ?_
                    refine tz_i (fz_ 1) rfl ?_
                    refine lv_istore_n (lv' := [(3, .int (fz_ 1)), (2, .int 4), (1, .int 1), (0, .ref mo)]) hx hb dX12_nextOrder_74 rfl hl (by decide) rfl (fun ls hl => ?_)
                    refine lv_aload_n hx hb dX12_nextOrder_75 rfl (lv_at hl 3 rfl) ?_
                    refine va_get (D := (dC, dI)) (ci := 12) (v := .ref mz) (C := RX12) (T := TX12) (N := 24) hx hb hts iw_m_nextOrder_X12 hown hK hP 0 rfl rfl 13 (by decide) (hts (.fieldLink RX12 34 "ThriceCountedModel" "order" "[I") (by decide +kernel)) (fun _ h9 => h9) rfl dX12_nextOrder_76 ?_
                    refine lv_iload_n hx hb dX12_nextOrder_79 rfl (lv_at hl 2 rfl) ?_
                    refine lv_aload_n hx hb dX12_nextOrder_80 rfl (lv_at hl 3 rfl) ?_
                    refine va_get (D := (dC, dI)) (ci := 12) (v := .ref mz) (C := RX12) (T := TX12) (N := 24) hx hb hts iw_m_nextOrder_X12 hown hK hP 0 rfl rfl 13 (by decide) (hts (.fieldLink RX12 34 "ThriceCountedModel" "order" "[I") (by decide +kernel)) (fun _ h9 => h9) rfl dX12_nextOrder_81 ?_
                    refine lv_iload_n hx hb dX12_nextOrder_84 rfl (lv_at hl 1 rfl) ?_
                    refine va_iald hx hb hK hP 1 0 rfl rfl (show ¬ ((4 : Int32) < 0 ∨ 6 ≤ (4 : Int32).toNatClampNeg) by decide) dX12_nextOrder_85 ?_
                    refine tz_i (fz_ 4) rfl ?_
                    refine va_iast hx hb hK hP hD hS 1 0 rfl rfl (show ¬ ((1 : Int32) < 0 ∨ 6 ≤ (1 : Int32).toNatClampNeg) by decide) dX12_nextOrder_86 (fun H locs hP hD hS => ?_)
                    have hP : va_P (dC, dI) vwCl [(mo, .inr (12, [.ref nw, .ref kp, .ref ik, .ref mr, .long la_, .long lb_, .ref mw, .long lc_, .int ti_, .int cb_, .long ld_, .long le_, .ref mq, .ref mz, .ref my, .int 5, .ref mb, .int bl_, .int ta_, .int tl_, .int tk_, .int vl_, .ref mx, .ref mv])), (mz, .inl (cz_, 6, .inl (upd fz_ (Int32.toNatClampNeg 1) (fz_ 4))))] H := hP
                    have hD : va_D A [(mo, .inr (12, [.ref nw, .ref kp, .ref ik, .ref mr, .long la_, .long lb_, .ref mw, .long lc_, .int ti_, .int cb_, .long ld_, .long le_, .ref mq, .ref mz, .ref my, .int 5, .ref mb, .int bl_, .int ta_, .int tl_, .int tk_, .int vl_, .ref mx, .ref mv])), (mz, .inl (cz_, 6, .inl (upd fz_ (Int32.toNatClampNeg 1) (fz_ 4))))] := hD
                    refine lv_aload_n hx hb dX12_nextOrder_87 rfl (lv_at hl 3 rfl) ?_
                    refine va_get (D := (dC, dI)) (ci := 12) (v := .ref mz) (C := RX12) (T := TX12) (N := 24) hx hb hts iw_m_nextOrder_X12 hown hK hP 0 rfl rfl 13 (by decide) (hts (.fieldLink RX12 34 "ThriceCountedModel" "order" "[I") (by decide +kernel)) (fun _ h9 => h9) rfl dX12_nextOrder_88 ?_
                    refine lv_iload_n hx hb dX12_nextOrder_91 rfl (lv_at hl 1 rfl) ?_
                    refine lv_iload_n hx hb dX12_nextOrder_92 rfl (lv_at hl 0 rfl) ?_
                    refine va_iast hx hb hK hP hD hS 1 0 rfl rfl (show ¬ ((4 : Int32) < 0 ∨ 6 ≤ (4 : Int32).toNatClampNeg) by decide) dX12_nextOrder_93 (fun H locs hP hD hS => ?_)
                    have hP : va_P (dC, dI) vwCl [(mo, .inr (12, [.ref nw, .ref kp, .ref ik, .ref mr, .long la_, .long lb_, .ref mw, .long lc_, .int ti_, .int cb_, .long ld_, .long le_, .ref mq, .ref mz, .ref my, .int 5, .ref mb, .int bl_, .int ta_, .int tl_, .int tk_, .int vl_, .ref mx, .ref mv])), (mz, .inl (cz_, 6, .inl (upd (upd fz_ (Int32.toNatClampNeg 1) (fz_ 4)) (Int32.toNatClampNeg 4) (fz_ 1))))] H := hP
                    have hD : va_D A [(mo, .inr (12, [.ref nw, .ref kp, .ref ik, .ref mr, .long la_, .long lb_, .ref mw, .long lc_, .int ti_, .int cb_, .long ld_, .long le_, .ref mq, .ref mz, .ref my, .int 5, .ref mb, .int bl_, .int ta_, .int tl_, .int tk_, .int vl_, .ref mx, .ref mv])), (mz, .inl (cz_, 6, .inl (upd (upd fz_ (Int32.toNatClampNeg 1) (fz_ 4)) (Int32.toNatClampNeg 4) (fz_ 1))))] := hD
                    refine lv_iload_n hx hb dX12_nextOrder_94 rfl (lv_at hl 2 rfl) ?_
                    refine lv_iconst (v := 1) hx hb dX12_nextOrder_95 (by decide) ?_
                    refine lv_iadd hx hb dX12_nextOrder_96 ?_
                    refine tz_i 2 (by decide) ?_
                    refine lv_istore (lv' := [(4, .int 2), (3, .int (fz_ 1)), (2, .int 4), (1, .int 1), (0, .ref mo)]) hx hb dX12_nextOrder_97 hl (by decide) rfl (fun ls hl => ?_)
                    refine lv_aload_n hx hb dX12_nextOrder_99 rfl (lv_at hl 4 rfl) ?_
                    refine va_get (D := (dC, dI)) (ci := 12) (v := .int 5) (C := RX12) (T := TX12) (N := 24) hx hb hts iw_m_nextOrder_X12 hown hK hP 0 rfl rfl 15 (by decide) (hts (.fieldLink RX12 218 "ThriceCountedModel" "soughtMany" "I") (by decide +kernel)) (fun _ h9 => h9) rfl dX12_nextOrder_100 ?_
                    refine lv_iconst (v := 1) hx hb dX12_nextOrder_103 (by decide) ?_
                    refine lv_isub hx hb dX12_nextOrder_104 ?_
                    refine tz_i 4 (by decide) ?_
                    refine lv_istore (lv' := [(5, .int 4), (4, .int 2), (3, .int (fz_ 1)), (2, .int 4), (1, .int 1), (0, .ref mo)]) hx hb dX12_nextOrder_105 hl (by decide) rfl (fun ls hl => ?_)
                    refine lv_iload hx hb dX12_nextOrder_107 (lv_at hl 1 rfl) ?_
                    refine lv_iload hx hb dX12_nextOrder_109 (lv_at hl 0 rfl) ?_
                    refine lv_icmp_ge (tgt := 155) hx hb dX12_nextOrder_111 (by decide) (fun c_222 => ?_) (fun c_222 => ?_)
                    · exact absurd c_222 (by decide)
                    · refine lv_aload_n hx hb dX12_nextOrder_114 rfl (lv_at hl 5 rfl) ?_
                      refine va_get (D := (dC, dI)) (ci := 12) (v := .ref mz) (C := RX12) (T := TX12) (N := 24) hx hb hts iw_m_nextOrder_X12 hown hK hP 0 rfl rfl 13 (by decide) (hts (.fieldLink RX12 34 "ThriceCountedModel" "order" "[I") (by decide +kernel)) (fun _ h9 => h9) rfl dX12_nextOrder_115 ?_
                      refine lv_iload hx hb dX12_nextOrder_118 (lv_at hl 1 rfl) ?_
                      refine va_iald hx hb hK hP 1 0 rfl rfl (show ¬ ((2 : Int32) < 0 ∨ 6 ≤ (2 : Int32).toNatClampNeg) by decide) dX12_nextOrder_120 ?_
                      refine tz_i (fz_ 2) rfl ?_
                      refine lv_istore (lv' := [(6, .int (fz_ 2)), (5, .int 4), (4, .int 2), (3, .int (fz_ 1)), (2, .int 4), (1, .int 1), (0, .ref mo)]) hx hb dX12_nextOrder_121 hl (by decide) rfl (fun ls hl => ?_)
                      refine lv_aload_n hx hb dX12_nextOrder_123 rfl (lv_at hl 6 rfl) ?_
                      refine va_get (D := (dC, dI)) (ci := 12) (v := .ref mz) (C := RX12) (T := TX12) (N := 24) hx hb hts iw_m_nextOrder_X12 hown hK hP 0 rfl rfl 13 (by decide) (hts (.fieldLink RX12 34 "ThriceCountedModel" "order" "[I") (by decide +kernel)) (fun _ h9 => h9) rfl dX12_nextOrder_124 ?_
                      refine lv_iload hx hb dX12_nextOrder_127 (lv_at hl 2 rfl) ?_
                      refine lv_aload_n hx hb dX12_nextOrder_129 rfl (lv_at hl 6 rfl) ?_
                      refine va_get (D := (dC, dI)) (ci := 12) (v := .ref mz) (C := RX12) (T := TX12) (N := 24) hx hb hts iw_m_nextOrder_X12 hown hK hP 0 rfl rfl 13 (by decide) (hts (.fieldLink RX12 34 "ThriceCountedModel" "order" "[I") (by decide +kernel)) (fun _ h9 => h9) rfl dX12_nextOrder_130 ?_
                      refine lv_iload hx hb dX12_nextOrder_133 (lv_at hl 1 rfl) ?_
                      refine va_iald hx hb hK hP 1 0 rfl rfl (show ¬ ((4 : Int32) < 0 ∨ 6 ≤ (4 : Int32).toNatClampNeg) by decide) dX12_nextOrder_135 ?_
                      refine tz_i (fz_ 1) rfl ?_
                      refine va_iast hx hb hK hP hD hS 1 0 rfl rfl (show ¬ ((2 : Int32) < 0 ∨ 6 ≤ (2 : Int32).toNatClampNeg) by decide) dX12_nextOrder_136 (fun H locs hP hD hS => ?_)
                      have hP : va_P (dC, dI) vwCl [(mo, .inr (12, [.ref nw, .ref kp, .ref ik, .ref mr, .long la_, .long lb_, .ref mw, .long lc_, .int ti_, .int cb_, .long ld_, .long le_, .ref mq, .ref mz, .ref my, .int 5, .ref mb, .int bl_, .int ta_, .int tl_, .int tk_, .int vl_, .ref mx, .ref mv])), (mz, .inl (cz_, 6, .inl (upd (upd (upd fz_ (Int32.toNatClampNeg 1) (fz_ 4)) (Int32.toNatClampNeg 4) (fz_ 1)) (Int32.toNatClampNeg 2) (fz_ 1))))] H := hP
                      have hD : va_D A [(mo, .inr (12, [.ref nw, .ref kp, .ref ik, .ref mr, .long la_, .long lb_, .ref mw, .long lc_, .int ti_, .int cb_, .long ld_, .long le_, .ref mq, .ref mz, .ref my, .int 5, .ref mb, .int bl_, .int ta_, .int tl_, .int tk_, .int vl_, .ref mx, .ref mv])), (mz, .inl (cz_, 6, .inl (upd (upd (upd fz_ (Int32.toNatClampNeg 1) (fz_ 4)) (Int32.toNatClampNeg 4) (fz_ 1)) (Int32.toNatClampNeg 2) (fz_ 1))))] := hD
                      refine lv_aload_n hx hb dX12_nextOrder_137 rfl (lv_at hl 6 rfl) ?_
                      refine va_get (D := (dC, dI)) (ci := 12) (v := .ref mz) (C := RX12) (T := TX12) (N := 24) hx hb hts iw_m_nextOrder_X12 hown hK hP 0 rfl rfl 13 (by decide) (hts (.fieldLink RX12 34 "ThriceCountedModel" "order" "[I") (by decide +kernel)) (fun _ h9 => h9) rfl dX12_nextOrder_138 ?_
                      refine lv_iload hx hb dX12_nextOrder_141 (lv_at hl 1 rfl) ?_
                      refine lv_iload hx hb dX12_nextOrder_143 (lv_at hl 0 rfl) ?_
                      refine va_iast hx hb hK hP hD hS 1 0 rfl rfl (show ¬ ((4 : Int32) < 0 ∨ 6 ≤ (4 : Int32).toNatClampNeg) by decide) dX12_nextOrder_145 (fun H locs hP hD hS => ?_)
                      have hP : va_P (dC, dI) vwCl [(mo, .inr (12, [.ref nw, .ref kp, .ref ik, .ref mr, .long la_, .long lb_, .ref mw, .long lc_, .int ti_, .int cb_, .long ld_, .long le_, .ref mq, .ref mz, .ref my, .int 5, .ref mb, .int bl_, .int ta_, .int tl_, .int tk_, .int vl_, .ref mx, .ref mv])), (mz, .inl (cz_, 6, .inl (upd (upd (upd (upd fz_ (Int32.toNatClampNeg 1) (fz_ 4)) (Int32.toNatClampNeg 4) (fz_ 1)) (Int32.toNatClampNeg 2) (fz_ 1)) (Int32.toNatClampNeg 4) (fz_ 2))))] H := hP
                      have hD : va_D A [(mo, .inr (12, [.ref nw, .ref kp, .ref ik, .ref mr, .long la_, .long lb_, .ref mw, .long lc_, .int ti_, .int cb_, .long ld_, .long le_, .ref mq, .ref mz, .ref my, .int 5, .ref mb, .int bl_, .int ta_, .int tl_, .int tk_, .int vl_, .ref mx, .ref mv])), (mz, .inl (cz_, 6, .inl (upd (upd (upd (upd fz_ (Int32.toNatClampNeg 1) (fz_ 4)) (Int32.toNatClampNeg 4) (fz_ 1)) (Int32.toNatClampNeg 2) (fz_ 1)) (Int32.toNatClampNeg 4) (fz_ 2))))] := hD
                      refine lv_iinc (v := 3) (lv' := [(4, .int 3), (6, .int (fz_ 2)), (5, .int 4), (3, .int (fz_ 1)), (2, .int 4), (1, .int 1), (0, .ref mo)]) hx hb dX12_nextOrder_146 hl (k := 2) rfl (by decide) (by decide) rfl (fun ls hl => ?_)
                      refine lv_iinc (v := 3) (lv' := [(5, .int 3), (4, .int 3), (6, .int (fz_ 2)), (3, .int (fz_ 1)), (2, .int 4), (1, .int 1), (0, .ref mo)]) hx hb dX12_nextOrder_149 hl (k := 2) rfl (by decide) (by decide) rfl (fun ls hl => ?_)
                      refine lv_goto (tgt := 107) hx hb dX12_nextOrder_152 (by decide) ?_
                      refine lv_iload hx hb dX12_nextOrder_107 (lv_at hl 1 rfl) ?_
                      refine lv_iload hx hb dX12_nextOrder_109 (lv_at hl 0 rfl) ?_
                      refine lv_icmp_ge (tgt := 155) hx hb dX12_nextOrder_111 (by decide) (fun c_225 => ?_) (fun c_225 => ?_)
                      · refine lv_iconst (v := 1) hx hb dX12_nextOrder_155 (by decide) ?_
                        have hP9 := hP.sub (ws' := [(mo, .inr (12, [.ref nw, .ref kp, .ref ik, .ref mr, .long la_, .long lb_, .ref mw, .long lc_, .int ti_, .int cb_, .long ld_, .long le_, .ref mq, .ref mz, .ref my, .int (nI 5), .ref mb, .int bl_, .int ta_, .int tl_, .int tk_, .int vl_, .ref mx, .ref mv])), (mz, .inl (cz_, 6, .inl (upd (upd (upd (upd fz_ (Int32.toNatClampNeg 1) (fz_ 4)) (Int32.toNatClampNeg 4) (fz_ 1)) (Int32.toNatClampNeg 2) (fz_ 1)) (Int32.toNatClampNeg 4) (fz_ 2))))]) [0, 1] rfl
                        have hD9 := hD.sub (ws' := [(mo, .inr (12, [.ref nw, .ref kp, .ref ik, .ref mr, .long la_, .long lb_, .ref mw, .long lc_, .int ti_, .int cb_, .long ld_, .long le_, .ref mq, .ref mz, .ref my, .int (nI 5), .ref mb, .int bl_, .int ta_, .int tl_, .int tk_, .int vl_, .ref mx, .ref mv])), (mz, .inl (cz_, 6, .inl (upd (upd (upd (upd fz_ (Int32.toNatClampNeg 1) (fz_ 4)) (Int32.toNatClampNeg 4) (fz_ 1)) (Int32.toNatClampNeg 2) (fz_ 1)) (Int32.toNatClampNeg 4) (fz_ 2))))]) [0, 1] (by decide) rfl
                        have hK9 := hK.sub (tys' := [(cz_, .int)]) [0] rfl
                        have hlt_226 : (fz_ 1).toInt < (fz_ 4).toInt := tz_ltt2 c_219 (hdi.2 1 4 (by omega) (by omega))
                        have hb_227 := hdi.1 0 (by omega)
                        have hb_228 := hdi.1 1 (by omega)
                        have hb_229 := hdi.1 2 (by omega)
                        have hb_230 := hdi.1 3 (by omega)
                        have hb_231 := hdi.1 4 (by omega)
                        have ev_232 : tz_val 5 fz_ = 7776 * (fz_ 0).toInt + 1296 * (fz_ 1).toInt + 216 * (fz_ 2).toInt + 36 * (fz_ 3).toInt + 6 * (fz_ 4).toInt + 0 := rfl
                        have eg_233 : tz_val 5 (upd (upd (upd (upd fz_ (Int32.toNatClampNeg 1) (fz_ 4)) (Int32.toNatClampNeg 4) (fz_ 1)) (Int32.toNatClampNeg 2) (fz_ 1)) (Int32.toNatClampNeg 4) (fz_ 2)) = 7776 * (fz_ 0).toInt + 1296 * (fz_ 4).toInt + 216 * (fz_ 1).toInt + 36 * (fz_ 3).toInt + 6 * (fz_ 2).toInt + 0 := rfl
                        have hp_234 : tz_Di 5 (upd (upd (upd (upd fz_ (Int32.toNatClampNeg 1) (fz_ 4)) (Int32.toNatClampNeg 4) (fz_ 1)) (Int32.toNatClampNeg 2) (fz_ 1)) (Int32.toNatClampNeg 4) (fz_ 2)) := hdi.perm (fun a => ([0, 4, 1, 3, 2] : List Nat).getD a 0) (fun a ha => by
                          rcases (show a = 0 ∨ a = 1 ∨ a = 2 ∨ a = 3 ∨ a = 4 by omega) with rfl | rfl | rfl | rfl | rfl <;> exact ⟨by decide, rfl⟩) (by decide)
                        exact W.zret (v := 1) hx hb hr (by decide) (fun t ht hW => ⟨⟨1, (), rfl, Or.inr ⟨rfl, 1, by omega, tz_nle_of c_217⟩, (upd (upd (upd (upd fz_ (Int32.toNatClampNeg 1) (fz_ 4)) (Int32.toNatClampNeg 4) (fz_ 1)) (Int32.toNatClampNeg 2) (fz_ 1)) (Int32.toNatClampNeg 4) (fz_ 2)), hp_234, by rw [ev_232, eg_233]; omega, fun _ => by rw [ev_232, eg_233]; omega, by rw [ht]; exact hP9, va_K.moved hW.alike hK9, hD9⟩, hS.F ht⟩) hS.2.2 dX12_nextOrder_156
                      · exact absurd c_225 (by decide)
                  · refine lv_iinc (v := 3) (lv' := [(2, .int 3), (1, .int 1), (0, .ref mo)]) hx hb dX12_nextOrder_62 hl (k := 0) rfl (by decide) (by decide) rfl (fun ls hl => ?_)
                    refine lv_goto (tgt := 47) hx hb dX12_nextOrder_65 (by decide) ?_
                    refine lv_aload_n hx hb dX12_nextOrder_47 rfl (lv_at hl 2 rfl) ?_
                    refine va_get (D := (dC, dI)) (ci := 12) (v := .ref mz) (C := RX12) (T := TX12) (N := 24) hx hb hts iw_m_nextOrder_X12 hown hK hP 0 rfl rfl 13 (by decide) (hts (.fieldLink RX12 34 "ThriceCountedModel" "order" "[I") (by decide +kernel)) (fun _ h9 => h9) rfl dX12_nextOrder_48 ?_
                    refine lv_iload_n hx hb dX12_nextOrder_51 rfl (lv_at hl 0 rfl) ?_
                    refine va_iald hx hb hK hP 1 0 rfl rfl (show ¬ ((3 : Int32) < 0 ∨ 6 ≤ (3 : Int32).toNatClampNeg) by decide) dX12_nextOrder_52 ?_
                    refine tz_i (fz_ 3) rfl ?_
                    refine lv_aload_n hx hb dX12_nextOrder_53 rfl (lv_at hl 2 rfl) ?_
                    refine va_get (D := (dC, dI)) (ci := 12) (v := .ref mz) (C := RX12) (T := TX12) (N := 24) hx hb hts iw_m_nextOrder_X12 hown hK hP 0 rfl rfl 13 (by decide) (hts (.fieldLink RX12 34 "ThriceCountedModel" "order" "[I") (by decide +kernel)) (fun _ h9 => h9) rfl dX12_nextOrder_54 ?_
                    refine lv_iload_n hx hb dX12_nextOrder_57 rfl (lv_at hl 1 rfl) ?_
                    refine va_iald hx hb hK hP 1 0 rfl rfl (show ¬ ((1 : Int32) < 0 ∨ 6 ≤ (1 : Int32).toNatClampNeg) by decide) dX12_nextOrder_58 ?_
                    refine tz_i (fz_ 1) rfl ?_
                    refine lv_icmp_ge (tgt := 68) hx hb dX12_nextOrder_59 (by decide) (fun c_235 => ?_) (fun c_235 => ?_)
                    · refine lv_aload_n hx hb dX12_nextOrder_68 rfl (lv_at hl 2 rfl) ?_
                      refine va_get (D := (dC, dI)) (ci := 12) (v := .ref mz) (C := RX12) (T := TX12) (N := 24) hx hb hts iw_m_nextOrder_X12 hown hK hP 0 rfl rfl 13 (by decide) (hts (.fieldLink RX12 34 "ThriceCountedModel" "order" "[I") (by decide +kernel)) (fun _ h9 => h9) rfl dX12_nextOrder_69 ?_
                      refine lv_iload_n hx hb dX12_nextOrder_72 rfl (lv_at hl 1 rfl) ?_
                      refine va_iald hx hb hK hP 1 0 rfl rfl (show ¬ ((1 : Int32) < 0 ∨ 6 ≤ (1 : Int32).toNatClampNeg) by decide) dX12_nextOrder_73 ?_
                      refine tz_i (fz_ 1) rfl ?_
                      refine lv_istore_n (lv' := [(3, .int (fz_ 1)), (2, .int 3), (1, .int 1), (0, .ref mo)]) hx hb dX12_nextOrder_74 rfl hl (by decide) rfl (fun ls hl => ?_)
                      refine lv_aload_n hx hb dX12_nextOrder_75 rfl (lv_at hl 3 rfl) ?_
                      refine va_get (D := (dC, dI)) (ci := 12) (v := .ref mz) (C := RX12) (T := TX12) (N := 24) hx hb hts iw_m_nextOrder_X12 hown hK hP 0 rfl rfl 13 (by decide) (hts (.fieldLink RX12 34 "ThriceCountedModel" "order" "[I") (by decide +kernel)) (fun _ h9 => h9) rfl dX12_nextOrder_76 ?_
                      refine lv_iload_n hx hb dX12_nextOrder_79 rfl (lv_at hl 2 rfl) ?_
                      refine lv_aload_n hx hb dX12_nextOrder_80 rfl (lv_at hl 3 rfl) ?_
                      refine va_get (D := (dC, dI)) (ci := 12) (v := .ref mz) (C := RX12) (T := TX12) (N := 24) hx hb hts iw_m_nextOrder_X12 hown hK hP 0 rfl rfl 13 (by decide) (hts (.fieldLink RX12 34 "ThriceCountedModel" "order" "[I") (by decide +kernel)) (fun _ h9 => h9) rfl dX12_nextOrder_81 ?_
                      refine lv_iload_n hx hb dX12_nextOrder_84 rfl (lv_at hl 1 rfl) ?_
                      refine va_iald hx hb hK hP 1 0 rfl rfl (show ¬ ((3 : Int32) < 0 ∨ 6 ≤ (3 : Int32).toNatClampNeg) by decide) dX12_nextOrder_85 ?_
                      refine tz_i (fz_ 3) rfl ?_
                      refine va_iast hx hb hK hP hD hS 1 0 rfl rfl (show ¬ ((1 : Int32) < 0 ∨ 6 ≤ (1 : Int32).toNatClampNeg) by decide) dX12_nextOrder_86 (fun H locs hP hD hS => ?_)
                      have hP : va_P (dC, dI) vwCl [(mo, .inr (12, [.ref nw, .ref kp, .ref ik, .ref mr, .long la_, .long lb_, .ref mw, .long lc_, .int ti_, .int cb_, .long ld_, .long le_, .ref mq, .ref mz, .ref my, .int 5, .ref mb, .int bl_, .int ta_, .int tl_, .int tk_, .int vl_, .ref mx, .ref mv])), (mz, .inl (cz_, 6, .inl (upd fz_ (Int32.toNatClampNeg 1) (fz_ 3))))] H := hP
                      have hD : va_D A [(mo, .inr (12, [.ref nw, .ref kp, .ref ik, .ref mr, .long la_, .long lb_, .ref mw, .long lc_, .int ti_, .int cb_, .long ld_, .long le_, .ref mq, .ref mz, .ref my, .int 5, .ref mb, .int bl_, .int ta_, .int tl_, .int tk_, .int vl_, .ref mx, .ref mv])), (mz, .inl (cz_, 6, .inl (upd fz_ (Int32.toNatClampNeg 1) (fz_ 3))))] := hD
                      refine lv_aload_n hx hb dX12_nextOrder_87 rfl (lv_at hl 3 rfl) ?_
                      refine va_get (D := (dC, dI)) (ci := 12) (v := .ref mz) (C := RX12) (T := TX12) (N := 24) hx hb hts iw_m_nextOrder_X12 hown hK hP 0 rfl rfl 13 (by decide) (hts (.fieldLink RX12 34 "ThriceCountedModel" "order" "[I") (by decide +kernel)) (fun _ h9 => h9) rfl dX12_nextOrder_88 ?_
                      refine lv_iload_n hx hb dX12_nextOrder_91 rfl (lv_at hl 1 rfl) ?_
                      refine lv_iload_n hx hb dX12_nextOrder_92 rfl (lv_at hl 0 rfl) ?_
                      refine va_iast hx hb hK hP hD hS 1 0 rfl rfl (show ¬ ((3 : Int32) < 0 ∨ 6 ≤ (3 : Int32).toNatClampNeg) by decide) dX12_nextOrder_93 (fun H locs hP hD hS => ?_)
                      have hP : va_P (dC, dI) vwCl [(mo, .inr (12, [.ref nw, .ref kp, .ref ik, .ref mr, .long la_, .long lb_, .ref mw, .long lc_, .int ti_, .int cb_, .long ld_, .long le_, .ref mq, .ref mz, .ref my, .int 5, .ref mb, .int bl_, .int ta_, .int tl_, .int tk_, .int vl_, .ref mx, .ref mv])), (mz, .inl (cz_, 6, .inl (upd (upd fz_ (Int32.toNatClampNeg 1) (fz_ 3)) (Int32.toNatClampNeg 3) (fz_ 1))))] H := hP
                      have hD : va_D A [(mo, .inr (12, [.ref nw, .ref kp, .ref ik, .ref mr, .long la_, .long lb_, .ref mw, .long lc_, .int ti_, .int cb_, .long ld_, .long le_, .ref mq, .ref mz, .ref my, .int 5, .ref mb, .int bl_, .int ta_, .int tl_, .int tk_, .int vl_, .ref mx, .ref mv])), (mz, .inl (cz_, 6, .inl (upd (upd fz_ (Int32.toNatClampNeg 1) (fz_ 3)) (Int32.toNatClampNeg 3) (fz_ 1))))] := hD
                      refine lv_iload_n hx hb dX12_nextOrder_94 rfl (lv_at hl 2 rfl) ?_
                      refine lv_iconst (v := 1) hx hb dX12_nextOrder_95 (by decide) ?_
                      refine lv_iadd hx hb dX12_nextOrder_96 ?_
                      refine tz_i 2 (by decide) ?_
                      refine lv_istore (lv' := [(4, .int 2), (3, .int (fz_ 1)), (2, .int 3), (1, .int 1), (0, .ref mo)]) hx hb dX12_nextOrder_97 hl (by decide) rfl (fun ls hl => ?_)
                      refine lv_aload_n hx hb dX12_nextOrder_99 rfl (lv_at hl 4 rfl) ?_
                      refine va_get (D := (dC, dI)) (ci := 12) (v := .int 5) (C := RX12) (T := TX12) (N := 24) hx hb hts iw_m_nextOrder_X12 hown hK hP 0 rfl rfl 15 (by decide) (hts (.fieldLink RX12 218 "ThriceCountedModel" "soughtMany" "I") (by decide +kernel)) (fun _ h9 => h9) rfl dX12_nextOrder_100 ?_
                      refine lv_iconst (v := 1) hx hb dX12_nextOrder_103 (by decide) ?_
                      refine lv_isub hx hb dX12_nextOrder_104 ?_
                      refine tz_i 4 (by decide) ?_
                      refine lv_istore (lv' := [(5, .int 4), (4, .int 2), (3, .int (fz_ 1)), (2, .int 3), (1, .int 1), (0, .ref mo)]) hx hb dX12_nextOrder_105 hl (by decide) rfl (fun ls hl => ?_)
                      refine lv_iload hx hb dX12_nextOrder_107 (lv_at hl 1 rfl) ?_
                      refine lv_iload hx hb dX12_nextOrder_109 (lv_at hl 0 rfl) ?_
                      refine lv_icmp_ge (tgt := 155) hx hb dX12_nextOrder_111 (by decide) (fun c_238 => ?_) (fun c_238 => ?_)
                      · exact absurd c_238 (by decide)
                      · refine lv_aload_n hx hb dX12_nextOrder_114 rfl (lv_at hl 5 rfl) ?_
                        refine va_get (D := (dC, dI)) (ci := 12) (v := .ref mz) (C := RX12) (T := TX12) (N := 24) hx hb hts iw_m_nextOrder_X12 hown hK hP 0 rfl rfl 13 (by decide) (hts (.fieldLink RX12 34 "ThriceCountedModel" "order" "[I") (by decide +kernel)) (fun _ h9 => h9) rfl dX12_nextOrder_115 ?_
                        refine lv_iload hx hb dX12_nextOrder_118 (lv_at hl 1 rfl) ?_
                        refine va_iald hx hb hK hP 1 0 rfl rfl (show ¬ ((2 : Int32) < 0 ∨ 6 ≤ (2 : Int32).toNatClampNeg) by decide) dX12_nextOrder_120 ?_
                        refine tz_i (fz_ 2) rfl ?_
                        refine lv_istore (lv' := [(6, .int (fz_ 2)), (5, .int 4), (4, .int 2), (3, .int (fz_ 1)), (2, .int 3), (1, .int 1), (0, .ref mo)]) hx hb dX12_nextOrder_121 hl (by decide) rfl (fun ls hl => ?_)
                        refine lv_aload_n hx hb dX12_nextOrder_123 rfl (lv_at hl 6 rfl) ?_
                        refine va_get (D := (dC, dI)) (ci := 12) (v := .ref mz) (C := RX12) (T := TX12) (N := 24) hx hb hts iw_m_nextOrder_X12 hown hK hP 0 rfl rfl 13 (by decide) (hts (.fieldLink RX12 34 "ThriceCountedModel" "order" "[I") (by decide +kernel)) (fun _ h9 => h9) rfl dX12_nextOrder_124 ?_
                        refine lv_iload hx hb dX12_nextOrder_127 (lv_at hl 2 rfl) ?_
                        refine lv_aload_n hx hb dX12_nextOrder_129 rfl (lv_at hl 6 rfl) ?_
                        refine va_get (D := (dC, dI)) (ci := 12) (v := .ref mz) (C := RX12) (T := TX12) (N := 24) hx hb hts iw_m_nextOrder_X12 hown hK hP 0 rfl rfl 13 (by decide) (hts (.fieldLink RX12 34 "ThriceCountedModel" "order" "[I") (by decide +kernel)) (fun _ h9 => h9) rfl dX12_nextOrder_130 ?_
                        refine lv_iload hx hb dX12_nextOrder_133 (lv_at hl 1 rfl) ?_
                        refine va_iald hx hb hK hP 1 0 rfl rfl (show ¬ ((4 : Int32) < 0 ∨ 6 ≤ (4 : Int32).toNatClampNeg) by decide) dX12_nextOrder_135 ?_
                        refine tz_i (fz_ 4) rfl ?_
                        refine va_iast hx hb hK hP hD hS 1 0 rfl rfl (show ¬ ((2 : Int32) < 0 ∨ 6 ≤ (2 : Int32).toNatClampNeg) by decide) dX12_nextOrder_136 (fun H locs hP hD hS => ?_)
                        have hP : va_P (dC, dI) vwCl [(mo, .inr (12, [.ref nw, .ref kp, .ref ik, .ref mr, .long la_, .long lb_, .ref mw, .long lc_, .int ti_, .int cb_, .long ld_, .long le_, .ref mq, .ref mz, .ref my, .int 5, .ref mb, .int bl_, .int ta_, .int tl_, .int tk_, .int vl_, .ref mx, .ref mv])), (mz, .inl (cz_, 6, .inl (upd (upd (upd fz_ (Int32.toNatClampNeg 1) (fz_ 3)) (Int32.toNatClampNeg 3) (fz_ 1)) (Int32.toNatClampNeg 2) (fz_ 4))))] H := hP
                        have hD : va_D A [(mo, .inr (12, [.ref nw, .ref kp, .ref ik, .ref mr, .long la_, .long lb_, .ref mw, .long lc_, .int ti_, .int cb_, .long ld_, .long le_, .ref mq, .ref mz, .ref my, .int 5, .ref mb, .int bl_, .int ta_, .int tl_, .int tk_, .int vl_, .ref mx, .ref mv])), (mz, .inl (cz_, 6, .inl (upd (upd (upd fz_ (Int32.toNatClampNeg 1) (fz_ 3)) (Int32.toNatClampNeg 3) (fz_ 1)) (Int32.toNatClampNeg 2) (fz_ 4))))] := hD
                        refine lv_aload_n hx hb dX12_nextOrder_137 rfl (lv_at hl 6 rfl) ?_
                        refine va_get (D := (dC, dI)) (ci := 12) (v := .ref mz) (C := RX12) (T := TX12) (N := 24) hx hb hts iw_m_nextOrder_X12 hown hK hP 0 rfl rfl 13 (by decide) (hts (.fieldLink RX12 34 "ThriceCountedModel" "order" "[I") (by decide +kernel)) (fun _ h9 => h9) rfl dX12_nextOrder_138 ?_
                        refine lv_iload hx hb dX12_nextOrder_141 (lv_at hl 1 rfl) ?_
                        refine lv_iload hx hb dX12_nextOrder_143 (lv_at hl 0 rfl) ?_
                        refine va_iast hx hb hK hP hD hS 1 0 rfl rfl (show ¬ ((4 : Int32) < 0 ∨ 6 ≤ (4 : Int32).toNatClampNeg) by decide) dX12_nextOrder_145 (fun H locs hP hD hS => ?_)
                        have hP : va_P (dC, dI) vwCl [(mo, .inr (12, [.ref nw, .ref kp, .ref ik, .ref mr, .long la_, .long lb_, .ref mw, .long lc_, .int ti_, .int cb_, .long ld_, .long le_, .ref mq, .ref mz, .ref my, .int 5, .ref mb, .int bl_, .int ta_, .int tl_, .int tk_, .int vl_, .ref mx, .ref mv])), (mz, .inl (cz_, 6, .inl (upd (upd (upd (upd fz_ (Int32.toNatClampNeg 1) (fz_ 3)) (Int32.toNatClampNeg 3) (fz_ 1)) (Int32.toNatClampNeg 2) (fz_ 4)) (Int32.toNatClampNeg 4) (fz_ 2))))] H := hP
                        have hD : va_D A [(mo, .inr (12, [.ref nw, .ref kp, .ref ik, .ref mr, .long la_, .long lb_, .ref mw, .long lc_, .int ti_, .int cb_, .long ld_, .long le_, .ref mq, .ref mz, .ref my, .int 5, .ref mb, .int bl_, .int ta_, .int tl_, .int tk_, .int vl_, .ref mx, .ref mv])), (mz, .inl (cz_, 6, .inl (upd (upd (upd (upd fz_ (Int32.toNatClampNeg 1) (fz_ 3)) (Int32.toNatClampNeg 3) (fz_ 1)) (Int32.toNatClampNeg 2) (fz_ 4)) (Int32.toNatClampNeg 4) (fz_ 2))))] := hD
                        refine lv_iinc (v := 3) (lv' := [(4, .int 3), (6, .int (fz_ 2)), (5, .int 4), (3, .int (fz_ 1)), (2, .int 3), (1, .int 1), (0, .ref mo)]) hx hb dX12_nextOrder_146 hl (k := 2) rfl (by decide) (by decide) rfl (fun ls hl => ?_)
                        refine lv_iinc (v := 3) (lv' := [(5, .int 3), (4, .int 3), (6, .int (fz_ 2)), (3, .int (fz_ 1)), (2, .int 3), (1, .int 1), (0, .ref mo)]) hx hb dX12_nextOrder_149 hl (k := 2) rfl (by decide) (by decide) rfl (fun ls hl => ?_)
                        refine lv_goto (tgt := 107) hx hb dX12_nextOrder_152 (by decide) ?_
                        refine lv_iload hx hb dX12_nextOrder_107 (lv_at hl 1 rfl) ?_
                        refine lv_iload hx hb dX12_nextOrder_109 (lv_at hl 0 rfl) ?_
                        refine lv_icmp_ge (tgt := 155) hx hb dX12_nextOrder_111 (by decide) (fun c_241 => ?_) (fun c_241 => ?_)
                        · refine lv_iconst (v := 1) hx hb dX12_nextOrder_155 (by decide) ?_
                          have hP9 := hP.sub (ws' := [(mo, .inr (12, [.ref nw, .ref kp, .ref ik, .ref mr, .long la_, .long lb_, .ref mw, .long lc_, .int ti_, .int cb_, .long ld_, .long le_, .ref mq, .ref mz, .ref my, .int (nI 5), .ref mb, .int bl_, .int ta_, .int tl_, .int tk_, .int vl_, .ref mx, .ref mv])), (mz, .inl (cz_, 6, .inl (upd (upd (upd (upd fz_ (Int32.toNatClampNeg 1) (fz_ 3)) (Int32.toNatClampNeg 3) (fz_ 1)) (Int32.toNatClampNeg 2) (fz_ 4)) (Int32.toNatClampNeg 4) (fz_ 2))))]) [0, 1] rfl
                          have hD9 := hD.sub (ws' := [(mo, .inr (12, [.ref nw, .ref kp, .ref ik, .ref mr, .long la_, .long lb_, .ref mw, .long lc_, .int ti_, .int cb_, .long ld_, .long le_, .ref mq, .ref mz, .ref my, .int (nI 5), .ref mb, .int bl_, .int ta_, .int tl_, .int tk_, .int vl_, .ref mx, .ref mv])), (mz, .inl (cz_, 6, .inl (upd (upd (upd (upd fz_ (Int32.toNatClampNeg 1) (fz_ 3)) (Int32.toNatClampNeg 3) (fz_ 1)) (Int32.toNatClampNeg 2) (fz_ 4)) (Int32.toNatClampNeg 4) (fz_ 2))))]) [0, 1] (by decide) rfl
                          have hK9 := hK.sub (tys' := [(cz_, .int)]) [0] rfl
                          have hlt_242 : (fz_ 1).toInt < (fz_ 3).toInt := tz_ltt2 c_235 (hdi.2 1 3 (by omega) (by omega))
                          have hb_243 := hdi.1 0 (by omega)
                          have hb_244 := hdi.1 1 (by omega)
                          have hb_245 := hdi.1 2 (by omega)
                          have hb_246 := hdi.1 3 (by omega)
                          have hb_247 := hdi.1 4 (by omega)
                          have ev_248 : tz_val 5 fz_ = 7776 * (fz_ 0).toInt + 1296 * (fz_ 1).toInt + 216 * (fz_ 2).toInt + 36 * (fz_ 3).toInt + 6 * (fz_ 4).toInt + 0 := rfl
                          have eg_249 : tz_val 5 (upd (upd (upd (upd fz_ (Int32.toNatClampNeg 1) (fz_ 3)) (Int32.toNatClampNeg 3) (fz_ 1)) (Int32.toNatClampNeg 2) (fz_ 4)) (Int32.toNatClampNeg 4) (fz_ 2)) = 7776 * (fz_ 0).toInt + 1296 * (fz_ 3).toInt + 216 * (fz_ 4).toInt + 36 * (fz_ 1).toInt + 6 * (fz_ 2).toInt + 0 := rfl
                          have hp_250 : tz_Di 5 (upd (upd (upd (upd fz_ (Int32.toNatClampNeg 1) (fz_ 3)) (Int32.toNatClampNeg 3) (fz_ 1)) (Int32.toNatClampNeg 2) (fz_ 4)) (Int32.toNatClampNeg 4) (fz_ 2)) := hdi.perm (fun a => ([0, 3, 4, 1, 2] : List Nat).getD a 0) (fun a ha => by
                            rcases (show a = 0 ∨ a = 1 ∨ a = 2 ∨ a = 3 ∨ a = 4 by omega) with rfl | rfl | rfl | rfl | rfl <;> exact ⟨by decide, rfl⟩) (by decide)
                          exact W.zret (v := 1) hx hb hr (by decide) (fun t ht hW => ⟨⟨1, (), rfl, Or.inr ⟨rfl, 1, by omega, tz_nle_of c_217⟩, (upd (upd (upd (upd fz_ (Int32.toNatClampNeg 1) (fz_ 3)) (Int32.toNatClampNeg 3) (fz_ 1)) (Int32.toNatClampNeg 2) (fz_ 4)) (Int32.toNatClampNeg 4) (fz_ 2)), hp_250, by rw [ev_248, eg_249]; omega, fun _ => by rw [ev_248, eg_249]; omega, by rw [ht]; exact hP9, va_K.moved hW.alike hK9, hD9⟩, hS.F ht⟩) hS.2.2 dX12_nextOrder_156
                        · exact absurd c_241 (by decide)
                    · refine lv_iinc (v := 2) (lv' := [(2, .int 2), (1, .int 1), (0, .ref mo)]) hx hb dX12_nextOrder_62 hl (k := 0) rfl (by decide) (by decide) rfl (fun ls hl => ?_)
                      refine lv_goto (tgt := 47) hx hb dX12_nextOrder_65 (by decide) ?_
                      refine lv_aload_n hx hb dX12_nextOrder_47 rfl (lv_at hl 2 rfl) ?_
                      refine va_get (D := (dC, dI)) (ci := 12) (v := .ref mz) (C := RX12) (T := TX12) (N := 24) hx hb hts iw_m_nextOrder_X12 hown hK hP 0 rfl rfl 13 (by decide) (hts (.fieldLink RX12 34 "ThriceCountedModel" "order" "[I") (by decide +kernel)) (fun _ h9 => h9) rfl dX12_nextOrder_48 ?_
                      refine lv_iload_n hx hb dX12_nextOrder_51 rfl (lv_at hl 0 rfl) ?_
                      refine va_iald hx hb hK hP 1 0 rfl rfl (show ¬ ((2 : Int32) < 0 ∨ 6 ≤ (2 : Int32).toNatClampNeg) by decide) dX12_nextOrder_52 ?_
                      refine tz_i (fz_ 2) rfl ?_
                      refine lv_aload_n hx hb dX12_nextOrder_53 rfl (lv_at hl 2 rfl) ?_
                      refine va_get (D := (dC, dI)) (ci := 12) (v := .ref mz) (C := RX12) (T := TX12) (N := 24) hx hb hts iw_m_nextOrder_X12 hown hK hP 0 rfl rfl 13 (by decide) (hts (.fieldLink RX12 34 "ThriceCountedModel" "order" "[I") (by decide +kernel)) (fun _ h9 => h9) rfl dX12_nextOrder_54 ?_
                      refine lv_iload_n hx hb dX12_nextOrder_57 rfl (lv_at hl 1 rfl) ?_
                      refine va_iald hx hb hK hP 1 0 rfl rfl (show ¬ ((1 : Int32) < 0 ∨ 6 ≤ (1 : Int32).toNatClampNeg) by decide) dX12_nextOrder_58 ?_
                      refine tz_i (fz_ 1) rfl ?_
                      refine lv_icmp_ge (tgt := 68) hx hb dX12_nextOrder_59 (by decide) (fun c_251 => ?_) (fun c_251 => ?_)
                      · refine lv_aload_n hx hb dX12_nextOrder_68 rfl (lv_at hl 2 rfl) ?_
                        refine va_get (D := (dC, dI)) (ci := 12) (v := .ref mz) (C := RX12) (T := TX12) (N := 24) hx hb hts iw_m_nextOrder_X12 hown hK hP 0 rfl rfl 13 (by decide) (hts (.fieldLink RX12 34 "ThriceCountedModel" "order" "[I") (by decide +kernel)) (fun _ h9 => h9) rfl dX12_nextOrder_69 ?_
                        refine lv_iload_n hx hb dX12_nextOrder_72 rfl (lv_at hl 1 rfl) ?_
                        refine va_iald hx hb hK hP 1 0 rfl rfl (show ¬ ((1 : Int32) < 0 ∨ 6 ≤ (1 : Int32).toNatClampNeg) by decide) dX12_nextOrder_73 ?_
                        refine tz_i (fz_ 1) rfl ?_
                        refine lv_istore_n (lv' := [(3, .int (fz_ 1)), (2, .int 2), (1, .int 1), (0, .ref mo)]) hx hb dX12_nextOrder_74 rfl hl (by decide) rfl (fun ls hl => ?_)
                        refine lv_aload_n hx hb dX12_nextOrder_75 rfl (lv_at hl 3 rfl) ?_
                        refine va_get (D := (dC, dI)) (ci := 12) (v := .ref mz) (C := RX12) (T := TX12) (N := 24) hx hb hts iw_m_nextOrder_X12 hown hK hP 0 rfl rfl 13 (by decide) (hts (.fieldLink RX12 34 "ThriceCountedModel" "order" "[I") (by decide +kernel)) (fun _ h9 => h9) rfl dX12_nextOrder_76 ?_
                        refine lv_iload_n hx hb dX12_nextOrder_79 rfl (lv_at hl 2 rfl) ?_
                        refine lv_aload_n hx hb dX12_nextOrder_80 rfl (lv_at hl 3 rfl) ?_
                        refine va_get (D := (dC, dI)) (ci := 12) (v := .ref mz) (C := RX12) (T := TX12) (N := 24) hx hb hts iw_m_nextOrder_X12 hown hK hP 0 rfl rfl 13 (by decide) (hts (.fieldLink RX12 34 "ThriceCountedModel" "order" "[I") (by decide +kernel)) (fun _ h9 => h9) rfl dX12_nextOrder_81 ?_
                        refine lv_iload_n hx hb dX12_nextOrder_84 rfl (lv_at hl 1 rfl) ?_
                        refine va_iald hx hb hK hP 1 0 rfl rfl (show ¬ ((2 : Int32) < 0 ∨ 6 ≤ (2 : Int32).toNatClampNeg) by decide) dX12_nextOrder_85 ?_
                        refine tz_i (fz_ 2) rfl ?_
                        refine va_iast hx hb hK hP hD hS 1 0 rfl rfl (show ¬ ((1 : Int32) < 0 ∨ 6 ≤ (1 : Int32).toNatClampNeg) by decide) dX12_nextOrder_86 (fun H locs hP hD hS => ?_)
                        have hP : va_P (dC, dI) vwCl [(mo, .inr (12, [.ref nw, .ref kp, .ref ik, .ref mr, .long la_, .long lb_, .ref mw, .long lc_, .int ti_, .int cb_, .long ld_, .long le_, .ref mq, .ref mz, .ref my, .int 5, .ref mb, .int bl_, .int ta_, .int tl_, .int tk_, .int vl_, .ref mx, .ref mv])), (mz, .inl (cz_, 6, .inl (upd fz_ (Int32.toNatClampNeg 1) (fz_ 2))))] H := hP
                        have hD : va_D A [(mo, .inr (12, [.ref nw, .ref kp, .ref ik, .ref mr, .long la_, .long lb_, .ref mw, .long lc_, .int ti_, .int cb_, .long ld_, .long le_, .ref mq, .ref mz, .ref my, .int 5, .ref mb, .int bl_, .int ta_, .int tl_, .int tk_, .int vl_, .ref mx, .ref mv])), (mz, .inl (cz_, 6, .inl (upd fz_ (Int32.toNatClampNeg 1) (fz_ 2))))] := hD
                        refine lv_aload_n hx hb dX12_nextOrder_87 rfl (lv_at hl 3 rfl) ?_
                        refine va_get (D := (dC, dI)) (ci := 12) (v := .ref mz) (C := RX12) (T := TX12) (N := 24) hx hb hts iw_m_nextOrder_X12 hown hK hP 0 rfl rfl 13 (by decide) (hts (.fieldLink RX12 34 "ThriceCountedModel" "order" "[I") (by decide +kernel)) (fun _ h9 => h9) rfl dX12_nextOrder_88 ?_
                        refine lv_iload_n hx hb dX12_nextOrder_91 rfl (lv_at hl 1 rfl) ?_
                        refine lv_iload_n hx hb dX12_nextOrder_92 rfl (lv_at hl 0 rfl) ?_
                        refine va_iast hx hb hK hP hD hS 1 0 rfl rfl (show ¬ ((2 : Int32) < 0 ∨ 6 ≤ (2 : Int32).toNatClampNeg) by decide) dX12_nextOrder_93 (fun H locs hP hD hS => ?_)
                        have hP : va_P (dC, dI) vwCl [(mo, .inr (12, [.ref nw, .ref kp, .ref ik, .ref mr, .long la_, .long lb_, .ref mw, .long lc_, .int ti_, .int cb_, .long ld_, .long le_, .ref mq, .ref mz, .ref my, .int 5, .ref mb, .int bl_, .int ta_, .int tl_, .int tk_, .int vl_, .ref mx, .ref mv])), (mz, .inl (cz_, 6, .inl (upd (upd fz_ (Int32.toNatClampNeg 1) (fz_ 2)) (Int32.toNatClampNeg 2) (fz_ 1))))] H := hP
                        have hD : va_D A [(mo, .inr (12, [.ref nw, .ref kp, .ref ik, .ref mr, .long la_, .long lb_, .ref mw, .long lc_, .int ti_, .int cb_, .long ld_, .long le_, .ref mq, .ref mz, .ref my, .int 5, .ref mb, .int bl_, .int ta_, .int tl_, .int tk_, .int vl_, .ref mx, .ref mv])), (mz, .inl (cz_, 6, .inl (upd (upd fz_ (Int32.toNatClampNeg 1) (fz_ 2)) (Int32.toNatClampNeg 2) (fz_ 1))))] := hD
                        refine lv_iload_n hx hb dX12_nextOrder_94 rfl (lv_at hl 2 rfl) ?_
                        refine lv_iconst (v := 1) hx hb dX12_nextOrder_95 (by decide) ?_
                        refine lv_iadd hx hb dX12_nextOrder_96 ?_
                        refine tz_i 2 (by decide) ?_
                        refine lv_istore (lv' := [(4, .int 2), (3, .int (fz_ 1)), (2, .int 2), (1, .int 1), (0, .ref mo)]) hx hb dX12_nextOrder_97 hl (by decide) rfl (fun ls hl => ?_)
                        refine lv_aload_n hx hb dX12_nextOrder_99 rfl (lv_at hl 4 rfl) ?_
                        refine va_get (D := (dC, dI)) (ci := 12) (v := .int 5) (C := RX12) (T := TX12) (N := 24) hx hb hts iw_m_nextOrder_X12 hown hK hP 0 rfl rfl 15 (by decide) (hts (.fieldLink RX12 218 "ThriceCountedModel" "soughtMany" "I") (by decide +kernel)) (fun _ h9 => h9) rfl dX12_nextOrder_100 ?_
                        refine lv_iconst (v := 1) hx hb dX12_nextOrder_103 (by decide) ?_
                        refine lv_isub hx hb dX12_nextOrder_104 ?_
                        refine tz_i 4 (by decide) ?_
                        refine lv_istore (lv' := [(5, .int 4), (4, .int 2), (3, .int (fz_ 1)), (2, .int 2), (1, .int 1), (0, .ref mo)]) hx hb dX12_nextOrder_105 hl (by decide) rfl (fun ls hl => ?_)
                        refine lv_iload hx hb dX12_nextOrder_107 (lv_at hl 1 rfl) ?_
                        refine lv_iload hx hb dX12_nextOrder_109 (lv_at hl 0 rfl) ?_
                        refine lv_icmp_ge (tgt := 155) hx hb dX12_nextOrder_111 (by decide) (fun c_254 => ?_) (fun c_254 => ?_)
                        · exact absurd c_254 (by decide)
                        · refine lv_aload_n hx hb dX12_nextOrder_114 rfl (lv_at hl 5 rfl) ?_
                          refine va_get (D := (dC, dI)) (ci := 12) (v := .ref mz) (C := RX12) (T := TX12) (N := 24) hx hb hts iw_m_nextOrder_X12 hown hK hP 0 rfl rfl 13 (by decide) (hts (.fieldLink RX12 34 "ThriceCountedModel" "order" "[I") (by decide +kernel)) (fun _ h9 => h9) rfl dX12_nextOrder_115 ?_
                          refine lv_iload hx hb dX12_nextOrder_118 (lv_at hl 1 rfl) ?_
                          refine va_iald hx hb hK hP 1 0 rfl rfl (show ¬ ((2 : Int32) < 0 ∨ 6 ≤ (2 : Int32).toNatClampNeg) by decide) dX12_nextOrder_120 ?_
                          refine tz_i (fz_ 1) rfl ?_
                          refine lv_istore (lv' := [(6, .int (fz_ 1)), (5, .int 4), (4, .int 2), (3, .int (fz_ 1)), (2, .int 2), (1, .int 1), (0, .ref mo)]) hx hb dX12_nextOrder_121 hl (by decide) rfl (fun ls hl => ?_)
                          refine lv_aload_n hx hb dX12_nextOrder_123 rfl (lv_at hl 6 rfl) ?_
                          refine va_get (D := (dC, dI)) (ci := 12) (v := .ref mz) (C := RX12) (T := TX12) (N := 24) hx hb hts iw_m_nextOrder_X12 hown hK hP 0 rfl rfl 13 (by decide) (hts (.fieldLink RX12 34 "ThriceCountedModel" "order" "[I") (by decide +kernel)) (fun _ h9 => h9) rfl dX12_nextOrder_124 ?_
                          refine lv_iload hx hb dX12_nextOrder_127 (lv_at hl 2 rfl) ?_
                          refine lv_aload_n hx hb dX12_nextOrder_129 rfl (lv_at hl 6 rfl) ?_
                          refine va_get (D := (dC, dI)) (ci := 12) (v := .ref mz) (C := RX12) (T := TX12) (N := 24) hx hb hts iw_m_nextOrder_X12 hown hK hP 0 rfl rfl 13 (by decide) (hts (.fieldLink RX12 34 "ThriceCountedModel" "order" "[I") (by decide +kernel)) (fun _ h9 => h9) rfl dX12_nextOrder_130 ?_
                          refine lv_iload hx hb dX12_nextOrder_133 (lv_at hl 1 rfl) ?_
                          refine va_iald hx hb hK hP 1 0 rfl rfl (show ¬ ((4 : Int32) < 0 ∨ 6 ≤ (4 : Int32).toNatClampNeg) by decide) dX12_nextOrder_135 ?_
                          refine tz_i (fz_ 4) rfl ?_
                          refine va_iast hx hb hK hP hD hS 1 0 rfl rfl (show ¬ ((2 : Int32) < 0 ∨ 6 ≤ (2 : Int32).toNatClampNeg) by decide) dX12_nextOrder_136 (fun H locs hP hD hS => ?_)
                          have hP : va_P (dC, dI) vwCl [(mo, .inr (12, [.ref nw, .ref kp, .ref ik, .ref mr, .long la_, .long lb_, .ref mw, .long lc_, .int ti_, .int cb_, .long ld_, .long le_, .ref mq, .ref mz, .ref my, .int 5, .ref mb, .int bl_, .int ta_, .int tl_, .int tk_, .int vl_, .ref mx, .ref mv])), (mz, .inl (cz_, 6, .inl (upd (upd (upd fz_ (Int32.toNatClampNeg 1) (fz_ 2)) (Int32.toNatClampNeg 2) (fz_ 1)) (Int32.toNatClampNeg 2) (fz_ 4))))] H := hP
                          have hD : va_D A [(mo, .inr (12, [.ref nw, .ref kp, .ref ik, .ref mr, .long la_, .long lb_, .ref mw, .long lc_, .int ti_, .int cb_, .long ld_, .long le_, .ref mq, .ref mz, .ref my, .int 5, .ref mb, .int bl_, .int ta_, .int tl_, .int tk_, .int vl_, .ref mx, .ref mv])), (mz, .inl (cz_, 6, .inl (upd (upd (upd fz_ (Int32.toNatClampNeg 1) (fz_ 2)) (Int32.toNatClampNeg 2) (fz_ 1)) (Int32.toNatClampNeg 2) (fz_ 4))))] := hD
                          refine lv_aload_n hx hb dX12_nextOrder_137 rfl (lv_at hl 6 rfl) ?_
                          refine va_get (D := (dC, dI)) (ci := 12) (v := .ref mz) (C := RX12) (T := TX12) (N := 24) hx hb hts iw_m_nextOrder_X12 hown hK hP 0 rfl rfl 13 (by decide) (hts (.fieldLink RX12 34 "ThriceCountedModel" "order" "[I") (by decide +kernel)) (fun _ h9 => h9) rfl dX12_nextOrder_138 ?_
                          refine lv_iload hx hb dX12_nextOrder_141 (lv_at hl 1 rfl) ?_
                          refine lv_iload hx hb dX12_nextOrder_143 (lv_at hl 0 rfl) ?_
                          refine va_iast hx hb hK hP hD hS 1 0 rfl rfl (show ¬ ((4 : Int32) < 0 ∨ 6 ≤ (4 : Int32).toNatClampNeg) by decide) dX12_nextOrder_145 (fun H locs hP hD hS => ?_)
                          have hP : va_P (dC, dI) vwCl [(mo, .inr (12, [.ref nw, .ref kp, .ref ik, .ref mr, .long la_, .long lb_, .ref mw, .long lc_, .int ti_, .int cb_, .long ld_, .long le_, .ref mq, .ref mz, .ref my, .int 5, .ref mb, .int bl_, .int ta_, .int tl_, .int tk_, .int vl_, .ref mx, .ref mv])), (mz, .inl (cz_, 6, .inl (upd (upd (upd (upd fz_ (Int32.toNatClampNeg 1) (fz_ 2)) (Int32.toNatClampNeg 2) (fz_ 1)) (Int32.toNatClampNeg 2) (fz_ 4)) (Int32.toNatClampNeg 4) (fz_ 1))))] H := hP
                          have hD : va_D A [(mo, .inr (12, [.ref nw, .ref kp, .ref ik, .ref mr, .long la_, .long lb_, .ref mw, .long lc_, .int ti_, .int cb_, .long ld_, .long le_, .ref mq, .ref mz, .ref my, .int 5, .ref mb, .int bl_, .int ta_, .int tl_, .int tk_, .int vl_, .ref mx, .ref mv])), (mz, .inl (cz_, 6, .inl (upd (upd (upd (upd fz_ (Int32.toNatClampNeg 1) (fz_ 2)) (Int32.toNatClampNeg 2) (fz_ 1)) (Int32.toNatClampNeg 2) (fz_ 4)) (Int32.toNatClampNeg 4) (fz_ 1))))] := hD
                          refine lv_iinc (v := 3) (lv' := [(4, .int 3), (6, .int (fz_ 1)), (5, .int 4), (3, .int (fz_ 1)), (2, .int 2), (1, .int 1), (0, .ref mo)]) hx hb dX12_nextOrder_146 hl (k := 2) rfl (by decide) (by decide) rfl (fun ls hl => ?_)
                          refine lv_iinc (v := 3) (lv' := [(5, .int 3), (4, .int 3), (6, .int (fz_ 1)), (3, .int (fz_ 1)), (2, .int 2), (1, .int 1), (0, .ref mo)]) hx hb dX12_nextOrder_149 hl (k := 2) rfl (by decide) (by decide) rfl (fun ls hl => ?_)
                          refine lv_goto (tgt := 107) hx hb dX12_nextOrder_152 (by decide) ?_
                          refine lv_iload hx hb dX12_nextOrder_107 (lv_at hl 1 rfl) ?_
                          refine lv_iload hx hb dX12_nextOrder_109 (lv_at hl 0 rfl) ?_
                          refine lv_icmp_ge (tgt := 155) hx hb dX12_nextOrder_111 (by decide) (fun c_257 => ?_) (fun c_257 => ?_)
                          · refine lv_iconst (v := 1) hx hb dX12_nextOrder_155 (by decide) ?_
                            have hP9 := hP.sub (ws' := [(mo, .inr (12, [.ref nw, .ref kp, .ref ik, .ref mr, .long la_, .long lb_, .ref mw, .long lc_, .int ti_, .int cb_, .long ld_, .long le_, .ref mq, .ref mz, .ref my, .int (nI 5), .ref mb, .int bl_, .int ta_, .int tl_, .int tk_, .int vl_, .ref mx, .ref mv])), (mz, .inl (cz_, 6, .inl (upd (upd (upd (upd fz_ (Int32.toNatClampNeg 1) (fz_ 2)) (Int32.toNatClampNeg 2) (fz_ 1)) (Int32.toNatClampNeg 2) (fz_ 4)) (Int32.toNatClampNeg 4) (fz_ 1))))]) [0, 1] rfl
                            have hD9 := hD.sub (ws' := [(mo, .inr (12, [.ref nw, .ref kp, .ref ik, .ref mr, .long la_, .long lb_, .ref mw, .long lc_, .int ti_, .int cb_, .long ld_, .long le_, .ref mq, .ref mz, .ref my, .int (nI 5), .ref mb, .int bl_, .int ta_, .int tl_, .int tk_, .int vl_, .ref mx, .ref mv])), (mz, .inl (cz_, 6, .inl (upd (upd (upd (upd fz_ (Int32.toNatClampNeg 1) (fz_ 2)) (Int32.toNatClampNeg 2) (fz_ 1)) (Int32.toNatClampNeg 2) (fz_ 4)) (Int32.toNatClampNeg 4) (fz_ 1))))]) [0, 1] (by decide) rfl
                            have hK9 := hK.sub (tys' := [(cz_, .int)]) [0] rfl
                            have hlt_258 : (fz_ 1).toInt < (fz_ 2).toInt := tz_ltt2 c_251 (hdi.2 1 2 (by omega) (by omega))
                            have hb_259 := hdi.1 0 (by omega)
                            have hb_260 := hdi.1 1 (by omega)
                            have hb_261 := hdi.1 2 (by omega)
                            have hb_262 := hdi.1 3 (by omega)
                            have hb_263 := hdi.1 4 (by omega)
                            have ev_264 : tz_val 5 fz_ = 7776 * (fz_ 0).toInt + 1296 * (fz_ 1).toInt + 216 * (fz_ 2).toInt + 36 * (fz_ 3).toInt + 6 * (fz_ 4).toInt + 0 := rfl
                            have eg_265 : tz_val 5 (upd (upd (upd (upd fz_ (Int32.toNatClampNeg 1) (fz_ 2)) (Int32.toNatClampNeg 2) (fz_ 1)) (Int32.toNatClampNeg 2) (fz_ 4)) (Int32.toNatClampNeg 4) (fz_ 1)) = 7776 * (fz_ 0).toInt + 1296 * (fz_ 2).toInt + 216 * (fz_ 4).toInt + 36 * (fz_ 3).toInt + 6 * (fz_ 1).toInt + 0 := rfl
                            have hp_266 : tz_Di 5 (upd (upd (upd (upd fz_ (Int32.toNatClampNeg 1) (fz_ 2)) (Int32.toNatClampNeg 2) (fz_ 1)) (Int32.toNatClampNeg 2) (fz_ 4)) (Int32.toNatClampNeg 4) (fz_ 1)) := hdi.perm (fun a => ([0, 2, 4, 3, 1] : List Nat).getD a 0) (fun a ha => by
                              rcases (show a = 0 ∨ a = 1 ∨ a = 2 ∨ a = 3 ∨ a = 4 by omega) with rfl | rfl | rfl | rfl | rfl <;> exact ⟨by decide, rfl⟩) (by decide)
                            exact W.zret (v := 1) hx hb hr (by decide) (fun t ht hW => ⟨⟨1, (), rfl, Or.inr ⟨rfl, 1, by omega, tz_nle_of c_251⟩, (upd (upd (upd (upd fz_ (Int32.toNatClampNeg 1) (fz_ 2)) (Int32.toNatClampNeg 2) (fz_ 1)) (Int32.toNatClampNeg 2) (fz_ 4)) (Int32.toNatClampNeg 4) (fz_ 1)), hp_266, by rw [ev_264, eg_265]; omega, fun _ => by rw [ev_264, eg_265]; omega, by rw [ht]; exact hP9, va_K.moved hW.alike hK9, hD9⟩, hS.F ht⟩) hS.2.2 dX12_nextOrder_156
                          · exact absurd c_257 (by decide)
                      · exact absurd c_217 c_251
                · exact absurd c_218 (by decide)
              · refine lv_iinc (v := 0) (lv' := [(1, .int 0), (0, .ref mo)]) hx hb dX12_nextOrder_28 hl (k := 0) rfl (by decide) (by decide) rfl (fun ls hl => ?_)
                refine lv_goto (tgt := 7) hx hb dX12_nextOrder_31 (by decide) ?_
                refine lv_iload_n hx hb dX12_nextOrder_7 rfl (lv_at hl 0 rfl) ?_
                refine lv_if_lt (tgt := 34) hx hb dX12_nextOrder_8 (by decide) (fun c_267 => ?_) (fun c_267 => ?_)
                · exact absurd c_267 (by decide)
                · refine lv_aload_n hx hb dX12_nextOrder_11 rfl (lv_at hl 1 rfl) ?_
                  refine va_get (D := (dC, dI)) (ci := 12) (v := .ref mz) (C := RX12) (T := TX12) (N := 24) hx hb hts iw_m_nextOrder_X12 hown hK hP 0 rfl rfl 13 (by decide) (hts (.fieldLink RX12 34 "ThriceCountedModel" "order" "[I") (by decide +kernel)) (fun _ h9 => h9) rfl dX12_nextOrder_12 ?_
                  refine lv_iload_n hx hb dX12_nextOrder_15 rfl (lv_at hl 0 rfl) ?_
                  refine va_iald hx hb hK hP 1 0 rfl rfl (show ¬ ((0 : Int32) < 0 ∨ 6 ≤ (0 : Int32).toNatClampNeg) by decide) dX12_nextOrder_16 ?_
                  refine tz_i (fz_ 0) rfl ?_
                  refine lv_aload_n hx hb dX12_nextOrder_17 rfl (lv_at hl 1 rfl) ?_
                  refine va_get (D := (dC, dI)) (ci := 12) (v := .ref mz) (C := RX12) (T := TX12) (N := 24) hx hb hts iw_m_nextOrder_X12 hown hK hP 0 rfl rfl 13 (by decide) (hts (.fieldLink RX12 34 "ThriceCountedModel" "order" "[I") (by decide +kernel)) (fun _ h9 => h9) rfl dX12_nextOrder_18 ?_
                  refine lv_iload_n hx hb dX12_nextOrder_21 rfl (lv_at hl 0 rfl) ?_
                  refine lv_iconst (v := 1) hx hb dX12_nextOrder_22 (by decide) ?_
                  refine lv_iadd hx hb dX12_nextOrder_23 ?_
                  refine tz_i 1 (by decide) ?_
                  refine va_iald hx hb hK hP 1 0 rfl rfl (show ¬ ((1 : Int32) < 0 ∨ 6 ≤ (1 : Int32).toNatClampNeg) by decide) dX12_nextOrder_24 ?_
                  refine tz_i (fz_ 1) rfl ?_
                  refine lv_icmp_le (tgt := 34) hx hb dX12_nextOrder_25 (by decide) (fun c_268 => ?_) (fun c_268 => ?_)
                  · refine lv_iload_n hx hb dX12_nextOrder_34 rfl (lv_at hl 0 rfl) ?_
                    refine lv_if_ge (tgt := 40) hx hb dX12_nextOrder_35 (by decide) (fun c_269 => ?_) (fun c_269 => ?_)
                    · refine lv_aload_n hx hb dX12_nextOrder_40 rfl (lv_at hl 1 rfl) ?_
                      refine va_get (D := (dC, dI)) (ci := 12) (v := .int 5) (C := RX12) (T := TX12) (N := 24) hx hb hts iw_m_nextOrder_X12 hown hK hP 0 rfl rfl 15 (by decide) (hts (.fieldLink RX12 218 "ThriceCountedModel" "soughtMany" "I") (by decide +kernel)) (fun _ h9 => h9) rfl dX12_nextOrder_41 ?_
                      refine lv_iconst (v := 1) hx hb dX12_nextOrder_44 (by decide) ?_
                      refine lv_isub hx hb dX12_nextOrder_45 ?_
                      refine tz_i 4 (by decide) ?_
                      refine lv_istore_n (lv' := [(2, .int 4), (1, .int 0), (0, .ref mo)]) hx hb dX12_nextOrder_46 rfl hl (by decide) rfl (fun ls hl => ?_)
                      refine lv_aload_n hx hb dX12_nextOrder_47 rfl (lv_at hl 2 rfl) ?_
                      refine va_get (D := (dC, dI)) (ci := 12) (v := .ref mz) (C := RX12) (T := TX12) (N := 24) hx hb hts iw_m_nextOrder_X12 hown hK hP 0 rfl rfl 13 (by decide) (hts (.fieldLink RX12 34 "ThriceCountedModel" "order" "[I") (by decide +kernel)) (fun _ h9 => h9) rfl dX12_nextOrder_48 ?_
                      refine lv_iload_n hx hb dX12_nextOrder_51 rfl (lv_at hl 0 rfl) ?_
                      refine va_iald hx hb hK hP 1 0 rfl rfl (show ¬ ((4 : Int32) < 0 ∨ 6 ≤ (4 : Int32).toNatClampNeg) by decide) dX12_nextOrder_52 ?_
                      refine tz_i (fz_ 4) rfl ?_
                      refine lv_aload_n hx hb dX12_nextOrder_53 rfl (lv_at hl 2 rfl) ?_
                      refine va_get (D := (dC, dI)) (ci := 12) (v := .ref mz) (C := RX12) (T := TX12) (N := 24) hx hb hts iw_m_nextOrder_X12 hown hK hP 0 rfl rfl 13 (by decide) (hts (.fieldLink RX12 34 "ThriceCountedModel" "order" "[I") (by decide +kernel)) (fun _ h9 => h9) rfl dX12_nextOrder_54 ?_
                      refine lv_iload_n hx hb dX12_nextOrder_57 rfl (lv_at hl 1 rfl) ?_
                      refine va_iald hx hb hK hP 1 0 rfl rfl (show ¬ ((0 : Int32) < 0 ∨ 6 ≤ (0 : Int32).toNatClampNeg) by decide) dX12_nextOrder_58 ?_
                      refine tz_i (fz_ 0) rfl ?_
                      refine lv_icmp_ge (tgt := 68) hx hb dX12_nextOrder_59 (by decide) (fun c_270 => ?_) (fun c_270 => ?_)
                      · refine lv_aload_n hx hb dX12_nextOrder_68 rfl (lv_at hl 2 rfl) ?_
                        refine va_get (D := (dC, dI)) (ci := 12) (v := .ref mz) (C := RX12) (T := TX12) (N := 24) hx hb hts iw_m_nextOrder_X12 hown hK hP 0 rfl rfl 13 (by decide) (hts (.fieldLink RX12 34 "ThriceCountedModel" "order" "[I") (by decide +kernel)) (fun _ h9 => h9) rfl dX12_nextOrder_69 ?_
                        refine lv_iload_n hx hb dX12_nextOrder_72 rfl (lv_at hl 1 rfl) ?_
                        refine va_iald hx hb hK hP 1 0 rfl rfl (show ¬ ((0 : Int32) < 0 ∨ 6 ≤ (0 : Int32).toNatClampNeg) by decide) dX12_nextOrder_73 ?_
                        refine tz_i (fz_ 0) rfl ?_
                        refine lv_istore_n (lv' := [(3, .int (fz_ 0)), (2, .int 4), (1, .int 0), (0, .ref mo)]) hx hb dX12_nextOrder_74 rfl hl (by decide) rfl (fun ls hl => ?_)
                        refine lv_aload_n hx hb dX12_nextOrder_75 rfl (lv_at hl 3 rfl) ?_
                        refine va_get (D := (dC, dI)) (ci := 12) (v := .ref mz) (C := RX12) (T := TX12) (N := 24) hx hb hts iw_m_nextOrder_X12 hown hK hP 0 rfl rfl 13 (by decide) (hts (.fieldLink RX12 34 "ThriceCountedModel" "order" "[I") (by decide +kernel)) (fun _ h9 => h9) rfl dX12_nextOrder_76 ?_
                        refine lv_iload_n hx hb dX12_nextOrder_79 rfl (lv_at hl 2 rfl) ?_
                        refine lv_aload_n hx hb dX12_nextOrder_80 rfl (lv_at hl 3 rfl) ?_
                        refine va_get (D := (dC, dI)) (ci := 12) (v := .ref mz) (C := RX12) (T := TX12) (N := 24) hx hb hts iw_m_nextOrder_X12 hown hK hP 0 rfl rfl 13 (by decide) (hts (.fieldLink RX12 34 "ThriceCountedModel" "order" "[I") (by decide +kernel)) (fun _ h9 => h9) rfl dX12_nextOrder_81 ?_
                        refine lv_iload_n hx hb dX12_nextOrder_84 rfl (lv_at hl 1 rfl) ?_
                        refine va_iald hx hb hK hP 1 0 rfl rfl (show ¬ ((4 : Int32) < 0 ∨ 6 ≤ (4 : Int32).toNatClampNeg) by decide) dX12_nextOrder_85 ?_
                        refine tz_i (fz_ 4) rfl ?_
                        refine va_iast hx hb hK hP hD hS 1 0 rfl rfl (show ¬ ((0 : Int32) < 0 ∨ 6 ≤ (0 : Int32).toNatClampNeg) by decide) dX12_nextOrder_86 (fun H locs hP hD hS => ?_)
                        have hP : va_P (dC, dI) vwCl [(mo, .inr (12, [.ref nw, .ref kp, .ref ik, .ref mr, .long la_, .long lb_, .ref mw, .long lc_, .int ti_, .int cb_, .long ld_, .long le_, .ref mq, .ref mz, .ref my, .int 5, .ref mb, .int bl_, .int ta_, .int tl_, .int tk_, .int vl_, .ref mx, .ref mv])), (mz, .inl (cz_, 6, .inl (upd fz_ (Int32.toNatClampNeg 0) (fz_ 4))))] H := hP
                        have hD : va_D A [(mo, .inr (12, [.ref nw, .ref kp, .ref ik, .ref mr, .long la_, .long lb_, .ref mw, .long lc_, .int ti_, .int cb_, .long ld_, .long le_, .ref mq, .ref mz, .ref my, .int 5, .ref mb, .int bl_, .int ta_, .int tl_, .int tk_, .int vl_, .ref mx, .ref mv])), (mz, .inl (cz_, 6, .inl (upd fz_ (Int32.toNatClampNeg 0) (fz_ 4))))] := hD
                        refine lv_aload_n hx hb dX12_nextOrder_87 rfl (lv_at hl 3 rfl) ?_
                        refine va_get (D := (dC, dI)) (ci := 12) (v := .ref mz) (C := RX12) (T := TX12) (N := 24) hx hb hts iw_m_nextOrder_X12 hown hK hP 0 rfl rfl 13 (by decide) (hts (.fieldLink RX12 34 "ThriceCountedModel" "order" "[I") (by decide +kernel)) (fun _ h9 => h9) rfl dX12_nextOrder_88 ?_
                        refine lv_iload_n hx hb dX12_nextOrder_91 rfl (lv_at hl 1 rfl) ?_
                        refine lv_iload_n hx hb dX12_nextOrder_92 rfl (lv_at hl 0 rfl) ?_
                        refine va_iast hx hb hK hP hD hS 1 0 rfl rfl (show ¬ ((4 : Int32) < 0 ∨ 6 ≤ (4 : Int32).toNatClampNeg) by decide) dX12_nextOrder_93 (fun H locs hP hD hS => ?_)
                        have hP : va_P (dC, dI) vwCl [(mo, .inr (12, [.ref nw, .ref kp, .ref ik, .ref mr, .long la_, .long lb_, .ref mw, .long lc_, .int ti_, .int cb_, .long ld_, .long le_, .ref mq, .ref mz, .ref my, .int 5, .ref mb, .int bl_, .int ta_, .int tl_, .int tk_, .int vl_, .ref mx, .ref mv])), (mz, .inl (cz_, 6, .inl (upd (upd fz_ (Int32.toNatClampNeg 0) (fz_ 4)) (Int32.toNatClampNeg 4) (fz_ 0))))] H := hP
                        have hD : va_D A [(mo, .inr (12, [.ref nw, .ref kp, .ref ik, .ref mr, .long la_, .long lb_, .ref mw, .long lc_, .int ti_, .int cb_, .long ld_, .long le_, .ref mq, .ref mz, .ref my, .int 5, .ref mb, .int bl_, .int ta_, .int tl_, .int tk_, .int vl_, .ref mx, .ref mv])), (mz, .inl (cz_, 6, .inl (upd (upd fz_ (Int32.toNatClampNeg 0) (fz_ 4)) (Int32.toNatClampNeg 4) (fz_ 0))))] := hD
                        refine lv_iload_n hx hb dX12_nextOrder_94 rfl (lv_at hl 2 rfl) ?_
                        refine lv_iconst (v := 1) hx hb dX12_nextOrder_95 (by decide) ?_
                        refine lv_iadd hx hb dX12_nextOrder_96 ?_
                        refine tz_i 1 (by decide) ?_
                        refine lv_istore (lv' := [(4, .int 1), (3, .int (fz_ 0)), (2, .int 4), (1, .int 0), (0, .ref mo)]) hx hb dX12_nextOrder_97 hl (by decide) rfl (fun ls hl => ?_)
                        refine lv_aload_n hx hb dX12_nextOrder_99 rfl (lv_at hl 4 rfl) ?_
                        refine va_get (D := (dC, dI)) (ci := 12) (v := .int 5) (C := RX12) (T := TX12) (N := 24) hx hb hts iw_m_nextOrder_X12 hown hK hP 0 rfl rfl 15 (by decide) (hts (.fieldLink RX12 218 "ThriceCountedModel" "soughtMany" "I") (by decide +kernel)) (fun _ h9 => h9) rfl dX12_nextOrder_100 ?_
                        refine lv_iconst (v := 1) hx hb dX12_nextOrder_103 (by decide) ?_
                        refine lv_isub hx hb dX12_nextOrder_104 ?_
                        refine tz_i 4 (by decide) ?_
                        refine lv_istore (lv' := [(5, .int 4), (4, .int 1), (3, .int (fz_ 0)), (2, .int 4), (1, .int 0), (0, .ref mo)]) hx hb dX12_nextOrder_105 hl (by decide) rfl (fun ls hl => ?_)
                        refine lv_iload hx hb dX12_nextOrder_107 (lv_at hl 1 rfl) ?_
                        refine lv_iload hx hb dX12_nextOrder_109 (lv_at hl 0 rfl) ?_
                        refine lv_icmp_ge (tgt := 155) hx hb dX12_nextOrder_111 (by decide) (fun c_273 => ?_) (fun c_273 => ?_)
                        · exact absurd c_273 (by decide)
                        · refine lv_aload_n hx hb dX12_nextOrder_114 rfl (lv_at hl 5 rfl) ?_
                          refine va_get (D := (dC, dI)) (ci := 12) (v := .ref mz) (C := RX12) (T := TX12) (N := 24) hx hb hts iw_m_nextOrder_X12 hown hK hP 0 rfl rfl 13 (by decide) (hts (.fieldLink RX12 34 "ThriceCountedModel" "order" "[I") (by decide +kernel)) (fun _ h9 => h9) rfl dX12_nextOrder_115 ?_
                          refine lv_iload hx hb dX12_nextOrder_118 (lv_at hl 1 rfl) ?_
                          refine va_iald hx hb hK hP 1 0 rfl rfl (show ¬ ((1 : Int32) < 0 ∨ 6 ≤ (1 : Int32).toNatClampNeg) by decide) dX12_nextOrder_120 ?_
                          refine tz_i (fz_ 1) rfl ?_
                          refine lv_istore (lv' := [(6, .int (fz_ 1)), (5, .int 4), (4, .int 1), (3, .int (fz_ 0)), (2, .int 4), (1, .int 0), (0, .ref mo)]) hx hb dX12_nextOrder_121 hl (by decide) rfl (fun ls hl => ?_)
                          refine lv_aload_n hx hb dX12_nextOrder_123 rfl (lv_at hl 6 rfl) ?_
                          refine va_get (D := (dC, dI)) (ci := 12) (v := .ref mz) (C := RX12) (T := TX12) (N := 24) hx hb hts iw_m_nextOrder_X12 hown hK hP 0 rfl rfl 13 (by decide) (hts (.fieldLink RX12 34 "ThriceCountedModel" "order" "[I") (by decide +kernel)) (fun _ h9 => h9) rfl dX12_nextOrder_124 ?_
                          refine lv_iload hx hb dX12_nextOrder_127 (lv_at hl 2 rfl) ?_
                          refine lv_aload_n hx hb dX12_nextOrder_129 rfl (lv_at hl 6 rfl) ?_
                          refine va_get (D := (dC, dI)) (ci := 12) (v := .ref mz) (C := RX12) (T := TX12) (N := 24) hx hb hts iw_m_nextOrder_X12 hown hK hP 0 rfl rfl 13 (by decide) (hts (.fieldLink RX12 34 "ThriceCountedModel" "order" "[I") (by decide +kernel)) (fun _ h9 => h9) rfl dX12_nextOrder_130 ?_
                          refine lv_iload hx hb dX12_nextOrder_133 (lv_at hl 1 rfl) ?_
                          refine va_iald hx hb hK hP 1 0 rfl rfl (show ¬ ((4 : Int32) < 0 ∨ 6 ≤ (4 : Int32).toNatClampNeg) by decide) dX12_nextOrder_135 ?_
                          refine tz_i (fz_ 0) rfl ?_
                          refine va_iast hx hb hK hP hD hS 1 0 rfl rfl (show ¬ ((1 : Int32) < 0 ∨ 6 ≤ (1 : Int32).toNatClampNeg) by decide) dX12_nextOrder_136 (fun H locs hP hD hS => ?_)
                          have hP : va_P (dC, dI) vwCl [(mo, .inr (12, [.ref nw, .ref kp, .ref ik, .ref mr, .long la_, .long lb_, .ref mw, .long lc_, .int ti_, .int cb_, .long ld_, .long le_, .ref mq, .ref mz, .ref my, .int 5, .ref mb, .int bl_, .int ta_, .int tl_, .int tk_, .int vl_, .ref mx, .ref mv])), (mz, .inl (cz_, 6, .inl (upd (upd (upd fz_ (Int32.toNatClampNeg 0) (fz_ 4)) (Int32.toNatClampNeg 4) (fz_ 0)) (Int32.toNatClampNeg 1) (fz_ 0))))] H := hP
                          have hD : va_D A [(mo, .inr (12, [.ref nw, .ref kp, .ref ik, .ref mr, .long la_, .long lb_, .ref mw, .long lc_, .int ti_, .int cb_, .long ld_, .long le_, .ref mq, .ref mz, .ref my, .int 5, .ref mb, .int bl_, .int ta_, .int tl_, .int tk_, .int vl_, .ref mx, .ref mv])), (mz, .inl (cz_, 6, .inl (upd (upd (upd fz_ (Int32.toNatClampNeg 0) (fz_ 4)) (Int32.toNatClampNeg 4) (fz_ 0)) (Int32.toNatClampNeg 1) (fz_ 0))))] := hD
                          refine lv_aload_n hx hb dX12_nextOrder_137 rfl (lv_at hl 6 rfl) ?_
                          refine va_get (D := (dC, dI)) (ci := 12) (v := .ref mz) (C := RX12) (T := TX12) (N := 24) hx hb hts iw_m_nextOrder_X12 hown hK hP 0 rfl rfl 13 (by decide) (hts (.fieldLink RX12 34 "ThriceCountedModel" "order" "[I") (by decide +kernel)) (fun _ h9 => h9) rfl dX12_nextOrder_138 ?_
                          refine lv_iload hx hb dX12_nextOrder_141 (lv_at hl 1 rfl) ?_
                          refine lv_iload hx hb dX12_nextOrder_143 (lv_at hl 0 rfl) ?_
                          refine va_iast hx hb hK hP hD hS 1 0 rfl rfl (show ¬ ((4 : Int32) < 0 ∨ 6 ≤ (4 : Int32).toNatClampNeg) by decide) dX12_nextOrder_145 (fun H locs hP hD hS => ?_)
                          have hP : va_P (dC, dI) vwCl [(mo, .inr (12, [.ref nw, .ref kp, .ref ik, .ref mr, .long la_, .long lb_, .ref mw, .long lc_, .int ti_, .int cb_, .long ld_, .long le_, .ref mq, .ref mz, .ref my, .int 5, .ref mb, .int bl_, .int ta_, .int tl_, .int tk_, .int vl_, .ref mx, .ref mv])), (mz, .inl (cz_, 6, .inl (upd (upd (upd (upd fz_ (Int32.toNatClampNeg 0) (fz_ 4)) (Int32.toNatClampNeg 4) (fz_ 0)) (Int32.toNatClampNeg 1) (fz_ 0)) (Int32.toNatClampNeg 4) (fz_ 1))))] H := hP
                          have hD : va_D A [(mo, .inr (12, [.ref nw, .ref kp, .ref ik, .ref mr, .long la_, .long lb_, .ref mw, .long lc_, .int ti_, .int cb_, .long ld_, .long le_, .ref mq, .ref mz, .ref my, .int 5, .ref mb, .int bl_, .int ta_, .int tl_, .int tk_, .int vl_, .ref mx, .ref mv])), (mz, .inl (cz_, 6, .inl (upd (upd (upd (upd fz_ (Int32.toNatClampNeg 0) (fz_ 4)) (Int32.toNatClampNeg 4) (fz_ 0)) (Int32.toNatClampNeg 1) (fz_ 0)) (Int32.toNatClampNeg 4) (fz_ 1))))] := hD
                          refine lv_iinc (v := 2) (lv' := [(4, .int 2), (6, .int (fz_ 1)), (5, .int 4), (3, .int (fz_ 0)), (2, .int 4), (1, .int 0), (0, .ref mo)]) hx hb dX12_nextOrder_146 hl (k := 2) rfl (by decide) (by decide) rfl (fun ls hl => ?_)
                          refine lv_iinc (v := 3) (lv' := [(5, .int 3), (4, .int 2), (6, .int (fz_ 1)), (3, .int (fz_ 0)), (2, .int 4), (1, .int 0), (0, .ref mo)]) hx hb dX12_nextOrder_149 hl (k := 2) rfl (by decide) (by decide) rfl (fun ls hl => ?_)
                          refine lv_goto (tgt := 107) hx hb dX12_nextOrder_152 (by decide) ?_
                          refine lv_iload hx hb dX12_nextOrder_107 (lv_at hl 1 rfl) ?_
                          refine lv_iload hx hb dX12_nextOrder_109 (lv_at hl 0 rfl) ?_
                          refine lv_icmp_ge (tgt := 155) hx hb dX12_nextOrder_111 (by decide) (fun c_276 => ?_) (fun c_276 => ?_)
                          · exact absurd c_276 (by decide)
                          · refine lv_aload_n hx hb dX12_nextOrder_114 rfl (lv_at hl 6 rfl) ?_
                            refine va_get (D := (dC, dI)) (ci := 12) (v := .ref mz) (C := RX12) (T := TX12) (N := 24) hx hb hts iw_m_nextOrder_X12 hown hK hP 0 rfl rfl 13 (by decide) (hts (.fieldLink RX12 34 "ThriceCountedModel" "order" "[I") (by decide +kernel)) (fun _ h9 => h9) rfl dX12_nextOrder_115 ?_
                            refine lv_iload hx hb dX12_nextOrder_118 (lv_at hl 1 rfl) ?_
                            refine va_iald hx hb hK hP 1 0 rfl rfl (show ¬ ((2 : Int32) < 0 ∨ 6 ≤ (2 : Int32).toNatClampNeg) by decide) dX12_nextOrder_120 ?_
                            refine tz_i (fz_ 2) rfl ?_
                            refine lv_istore (lv' := [(6, .int (fz_ 2)), (5, .int 3), (4, .int 2), (3, .int (fz_ 0)), (2, .int 4), (1, .int 0), (0, .ref mo)]) hx hb dX12_nextOrder_121 hl (by decide) rfl (fun ls hl => ?_)
                            refine lv_aload_n hx hb dX12_nextOrder_123 rfl (lv_at hl 6 rfl) ?_
                            refine va_get (D := (dC, dI)) (ci := 12) (v := .ref mz) (C := RX12) (T := TX12) (N := 24) hx hb hts iw_m_nextOrder_X12 hown hK hP 0 rfl rfl 13 (by decide) (hts (.fieldLink RX12 34 "ThriceCountedModel" "order" "[I") (by decide +kernel)) (fun _ h9 => h9) rfl dX12_nextOrder_124 ?_
                            refine lv_iload hx hb dX12_nextOrder_127 (lv_at hl 2 rfl) ?_
                            refine lv_aload_n hx hb dX12_nextOrder_129 rfl (lv_at hl 6 rfl) ?_
                            refine va_get (D := (dC, dI)) (ci := 12) (v := .ref mz) (C := RX12) (T := TX12) (N := 24) hx hb hts iw_m_nextOrder_X12 hown hK hP 0 rfl rfl 13 (by decide) (hts (.fieldLink RX12 34 "ThriceCountedModel" "order" "[I") (by decide +kernel)) (fun _ h9 => h9) rfl dX12_nextOrder_130 ?_
                            refine lv_iload hx hb dX12_nextOrder_133 (lv_at hl 1 rfl) ?_
                            refine va_iald hx hb hK hP 1 0 rfl rfl (show ¬ ((3 : Int32) < 0 ∨ 6 ≤ (3 : Int32).toNatClampNeg) by decide) dX12_nextOrder_135 ?_
                            refine tz_i (fz_ 3) rfl ?_
                            refine va_iast hx hb hK hP hD hS 1 0 rfl rfl (show ¬ ((2 : Int32) < 0 ∨ 6 ≤ (2 : Int32).toNatClampNeg) by decide) dX12_nextOrder_136 (fun H locs hP hD hS => ?_)
                            have hP : va_P (dC, dI) vwCl [(mo, .inr (12, [.ref nw, .ref kp, .ref ik, .ref mr, .long la_, .long lb_, .ref mw, .long lc_, .int ti_, .int cb_, .long ld_, .long le_, .ref mq, .ref mz, .ref my, .int 5, .ref mb, .int bl_, .int ta_, .int tl_, .int tk_, .int vl_, .ref mx, .ref mv])), (mz, .inl (cz_, 6, .inl (upd (upd (upd (upd (upd fz_ (Int32.toNatClampNeg 0) (fz_ 4)) (Int32.toNatClampNeg 4) (fz_ 0)) (Int32.toNatClampNeg 1) (fz_ 0)) (Int32.toNatClampNeg 4) (fz_ 1)) (Int32.toNatClampNeg 2) (fz_ 3))))] H := hP
                            have hD : va_D A [(mo, .inr (12, [.ref nw, .ref kp, .ref ik, .ref mr, .long la_, .long lb_, .ref mw, .long lc_, .int ti_, .int cb_, .long ld_, .long le_, .ref mq, .ref mz, .ref my, .int 5, .ref mb, .int bl_, .int ta_, .int tl_, .int tk_, .int vl_, .ref mx, .ref mv])), (mz, .inl (cz_, 6, .inl (upd (upd (upd (upd (upd fz_ (Int32.toNatClampNeg 0) (fz_ 4)) (Int32.toNatClampNeg 4) (fz_ 0)) (Int32.toNatClampNeg 1) (fz_ 0)) (Int32.toNatClampNeg 4) (fz_ 1)) (Int32.toNatClampNeg 2) (fz_ 3))))] := hD
                            refine lv_aload_n hx hb dX12_nextOrder_137 rfl (lv_at hl 6 rfl) ?_
                            refine va_get (D := (dC, dI)) (ci := 12) (v := .ref mz) (C := RX12) (T := TX12) (N := 24) hx hb hts iw_m_nextOrder_X12 hown hK hP 0 rfl rfl 13 (by decide) (hts (.fieldLink RX12 34 "ThriceCountedModel" "order" "[I") (by decide +kernel)) (fun _ h9 => h9) rfl dX12_nextOrder_138 ?_
                            refine lv_iload hx hb dX12_nextOrder_141 (lv_at hl 1 rfl) ?_
                            refine lv_iload hx hb dX12_nextOrder_143 (lv_at hl 0 rfl) ?_
                            refine va_iast hx hb hK hP hD hS 1 0 rfl rfl (show ¬ ((3 : Int32) < 0 ∨ 6 ≤ (3 : Int32).toNatClampNeg) by decide) dX12_nextOrder_145 (fun H locs hP hD hS => ?_)
                            have hP : va_P (dC, dI) vwCl [(mo, .inr (12, [.ref nw, .ref kp, .ref ik, .ref mr, .long la_, .long lb_, .ref mw, .long lc_, .int ti_, .int cb_, .long ld_, .long le_, .ref mq, .ref mz, .ref my, .int 5, .ref mb, .int bl_, .int ta_, .int tl_, .int tk_, .int vl_, .ref mx, .ref mv])), (mz, .inl (cz_, 6, .inl (upd (upd (upd (upd (upd (upd fz_ (Int32.toNatClampNeg 0) (fz_ 4)) (Int32.toNatClampNeg 4) (fz_ 0)) (Int32.toNatClampNeg 1) (fz_ 0)) (Int32.toNatClampNeg 4) (fz_ 1)) (Int32.toNatClampNeg 2) (fz_ 3)) (Int32.toNatClampNeg 3) (fz_ 2))))] H := hP
                            have hD : va_D A [(mo, .inr (12, [.ref nw, .ref kp, .ref ik, .ref mr, .long la_, .long lb_, .ref mw, .long lc_, .int ti_, .int cb_, .long ld_, .long le_, .ref mq, .ref mz, .ref my, .int 5, .ref mb, .int bl_, .int ta_, .int tl_, .int tk_, .int vl_, .ref mx, .ref mv])), (mz, .inl (cz_, 6, .inl (upd (upd (upd (upd (upd (upd fz_ (Int32.toNatClampNeg 0) (fz_ 4)) (Int32.toNatClampNeg 4) (fz_ 0)) (Int32.toNatClampNeg 1) (fz_ 0)) (Int32.toNatClampNeg 4) (fz_ 1)) (Int32.toNatClampNeg 2) (fz_ 3)) (Int32.toNatClampNeg 3) (fz_ 2))))] := hD
                            refine lv_iinc (v := 3) (lv' := [(4, .int 3), (6, .int (fz_ 2)), (5, .int 3), (3, .int (fz_ 0)), (2, .int 4), (1, .int 0), (0, .ref mo)]) hx hb dX12_nextOrder_146 hl (k := 2) rfl (by decide) (by decide) rfl (fun ls hl => ?_)
                            refine lv_iinc (v := 2) (lv' := [(5, .int 2), (4, .int 3), (6, .int (fz_ 2)), (3, .int (fz_ 0)), (2, .int 4), (1, .int 0), (0, .ref mo)]) hx hb dX12_nextOrder_149 hl (k := 2) rfl (by decide) (by decide) rfl (fun ls hl => ?_)
                            refine lv_goto (tgt := 107) hx hb dX12_nextOrder_152 (by decide) ?_
                            refine lv_iload hx hb dX12_nextOrder_107 (lv_at hl 1 rfl) ?_
                            refine lv_iload hx hb dX12_nextOrder_109 (lv_at hl 0 rfl) ?_
                            refine lv_icmp_ge (tgt := 155) hx hb dX12_nextOrder_111 (by decide) (fun c_279 => ?_) (fun c_279 => ?_)
                            · refine lv_iconst (v := 1) hx hb dX12_nextOrder_155 (by decide) ?_
                              have hP9 := hP.sub (ws' := [(mo, .inr (12, [.ref nw, .ref kp, .ref ik, .ref mr, .long la_, .long lb_, .ref mw, .long lc_, .int ti_, .int cb_, .long ld_, .long le_, .ref mq, .ref mz, .ref my, .int (nI 5), .ref mb, .int bl_, .int ta_, .int tl_, .int tk_, .int vl_, .ref mx, .ref mv])), (mz, .inl (cz_, 6, .inl (upd (upd (upd (upd (upd (upd fz_ (Int32.toNatClampNeg 0) (fz_ 4)) (Int32.toNatClampNeg 4) (fz_ 0)) (Int32.toNatClampNeg 1) (fz_ 0)) (Int32.toNatClampNeg 4) (fz_ 1)) (Int32.toNatClampNeg 2) (fz_ 3)) (Int32.toNatClampNeg 3) (fz_ 2))))]) [0, 1] rfl
                              have hD9 := hD.sub (ws' := [(mo, .inr (12, [.ref nw, .ref kp, .ref ik, .ref mr, .long la_, .long lb_, .ref mw, .long lc_, .int ti_, .int cb_, .long ld_, .long le_, .ref mq, .ref mz, .ref my, .int (nI 5), .ref mb, .int bl_, .int ta_, .int tl_, .int tk_, .int vl_, .ref mx, .ref mv])), (mz, .inl (cz_, 6, .inl (upd (upd (upd (upd (upd (upd fz_ (Int32.toNatClampNeg 0) (fz_ 4)) (Int32.toNatClampNeg 4) (fz_ 0)) (Int32.toNatClampNeg 1) (fz_ 0)) (Int32.toNatClampNeg 4) (fz_ 1)) (Int32.toNatClampNeg 2) (fz_ 3)) (Int32.toNatClampNeg 3) (fz_ 2))))]) [0, 1] (by decide) rfl
                              have hK9 := hK.sub (tys' := [(cz_, .int)]) [0] rfl
                              have hlt_280 : (fz_ 0).toInt < (fz_ 4).toInt := tz_ltt2 c_270 (hdi.2 0 4 (by omega) (by omega))
                              have hb_281 := hdi.1 0 (by omega)
                              have hb_282 := hdi.1 1 (by omega)
                              have hb_283 := hdi.1 2 (by omega)
                              have hb_284 := hdi.1 3 (by omega)
                              have hb_285 := hdi.1 4 (by omega)
                              have ev_286 : tz_val 5 fz_ = 7776 * (fz_ 0).toInt + 1296 * (fz_ 1).toInt + 216 * (fz_ 2).toInt + 36 * (fz_ 3).toInt + 6 * (fz_ 4).toInt + 0 := rfl
                              have eg_287 : tz_val 5 (upd (upd (upd (upd (upd (upd fz_ (Int32.toNatClampNeg 0) (fz_ 4)) (Int32.toNatClampNeg 4) (fz_ 0)) (Int32.toNatClampNeg 1) (fz_ 0)) (Int32.toNatClampNeg 4) (fz_ 1)) (Int32.toNatClampNeg 2) (fz_ 3)) (Int32.toNatClampNeg 3) (fz_ 2)) = 7776 * (fz_ 4).toInt + 1296 * (fz_ 0).toInt + 216 * (fz_ 3).toInt + 36 * (fz_ 2).toInt + 6 * (fz_ 1).toInt + 0 := rfl
                              have hp_288 : tz_Di 5 (upd (upd (upd (upd (upd (upd fz_ (Int32.toNatClampNeg 0) (fz_ 4)) (Int32.toNatClampNeg 4) (fz_ 0)) (Int32.toNatClampNeg 1) (fz_ 0)) (Int32.toNatClampNeg 4) (fz_ 1)) (Int32.toNatClampNeg 2) (fz_ 3)) (Int32.toNatClampNeg 3) (fz_ 2)) := hdi.perm (fun a => ([4, 0, 3, 2, 1] : List Nat).getD a 0) (fun a ha => by
                                rcases (show a = 0 ∨ a = 1 ∨ a = 2 ∨ a = 3 ∨ a = 4 by omega) with rfl | rfl | rfl | rfl | rfl <;> exact ⟨by decide, rfl⟩) (by decide)
                              exact W.zret (v := 1) hx hb hr (by decide) (fun t ht hW => ⟨⟨1, (), rfl, Or.inr ⟨rfl, 0, by omega, tz_nle_of c_268⟩, (upd (upd (upd (upd (upd (upd fz_ (Int32.toNatClampNeg 0) (fz_ 4)) (Int32.toNatClampNeg 4) (fz_ 0)) (Int32.toNatClampNeg 1) (fz_ 0)) (Int32.toNatClampNeg 4) (fz_ 1)) (Int32.toNatClampNeg 2) (fz_ 3)) (Int32.toNatClampNeg 3) (fz_ 2)), hp_288, by rw [ev_286, eg_287]; omega, fun _ => by rw [ev_286, eg_287]; omega, by rw [ht]; exact hP9, va_K.moved hW.alike hK9, hD9⟩, hS.F ht⟩) hS.2.2 dX12_nextOrder_156
                            · exact absurd c_279 (by decide)
                      · refine lv_iinc (v := 3) (lv' := [(2, .int 3), (1, .int 0), (0, .ref mo)]) hx hb dX12_nextOrder_62 hl (k := 0) rfl (by decide) (by decide) rfl (fun ls hl => ?_)
                        refine lv_goto (tgt := 47) hx hb dX12_nextOrder_65 (by decide) ?_
                        refine lv_aload_n hx hb dX12_nextOrder_47 rfl (lv_at hl 2 rfl) ?_
                        refine va_get (D := (dC, dI)) (ci := 12) (v := .ref mz) (C := RX12) (T := TX12) (N := 24) hx hb hts iw_m_nextOrder_X12 hown hK hP 0 rfl rfl 13 (by decide) (hts (.fieldLink RX12 34 "ThriceCountedModel" "order" "[I") (by decide +kernel)) (fun _ h9 => h9) rfl dX12_nextOrder_48 ?_
                        refine lv_iload_n hx hb dX12_nextOrder_51 rfl (lv_at hl 0 rfl) ?_
                        refine va_iald hx hb hK hP 1 0 rfl rfl (show ¬ ((3 : Int32) < 0 ∨ 6 ≤ (3 : Int32).toNatClampNeg) by decide) dX12_nextOrder_52 ?_
                        refine tz_i (fz_ 3) rfl ?_
                        refine lv_aload_n hx hb dX12_nextOrder_53 rfl (lv_at hl 2 rfl) ?_
                        refine va_get (D := (dC, dI)) (ci := 12) (v := .ref mz) (C := RX12) (T := TX12) (N := 24) hx hb hts iw_m_nextOrder_X12 hown hK hP 0 rfl rfl 13 (by decide) (hts (.fieldLink RX12 34 "ThriceCountedModel" "order" "[I") (by decide +kernel)) (fun _ h9 => h9) rfl dX12_nextOrder_54 ?_
                        refine lv_iload_n hx hb dX12_nextOrder_57 rfl (lv_at hl 1 rfl) ?_
                        refine va_iald hx hb hK hP 1 0 rfl rfl (show ¬ ((0 : Int32) < 0 ∨ 6 ≤ (0 : Int32).toNatClampNeg) by decide) dX12_nextOrder_58 ?_
                        refine tz_i (fz_ 0) rfl ?_
                        refine lv_icmp_ge (tgt := 68) hx hb dX12_nextOrder_59 (by decide) (fun c_289 => ?_) (fun c_289 => ?_)
                        · refine lv_aload_n hx hb dX12_nextOrder_68 rfl (lv_at hl 2 rfl) ?_
                          refine va_get (D := (dC, dI)) (ci := 12) (v := .ref mz) (C := RX12) (T := TX12) (N := 24) hx hb hts iw_m_nextOrder_X12 hown hK hP 0 rfl rfl 13 (by decide) (hts (.fieldLink RX12 34 "ThriceCountedModel" "order" "[I") (by decide +kernel)) (fun _ h9 => h9) rfl dX12_nextOrder_69 ?_
                          refine lv_iload_n hx hb dX12_nextOrder_72 rfl (lv_at hl 1 rfl) ?_
                          refine va_iald hx hb hK hP 1 0 rfl rfl (show ¬ ((0 : Int32) < 0 ∨ 6 ≤ (0 : Int32).toNatClampNeg) by decide) dX12_nextOrder_73 ?_
                          refine tz_i (fz_ 0) rfl ?_
                          refine lv_istore_n (lv' := [(3, .int (fz_ 0)), (2, .int 3), (1, .int 0), (0, .ref mo)]) hx hb dX12_nextOrder_74 rfl hl (by decide) rfl (fun ls hl => ?_)
                          refine lv_aload_n hx hb dX12_nextOrder_75 rfl (lv_at hl 3 rfl) ?_
                          refine va_get (D := (dC, dI)) (ci := 12) (v := .ref mz) (C := RX12) (T := TX12) (N := 24) hx hb hts iw_m_nextOrder_X12 hown hK hP 0 rfl rfl 13 (by decide) (hts (.fieldLink RX12 34 "ThriceCountedModel" "order" "[I") (by decide +kernel)) (fun _ h9 => h9) rfl dX12_nextOrder_76 ?_
                          refine lv_iload_n hx hb dX12_nextOrder_79 rfl (lv_at hl 2 rfl) ?_
                          refine lv_aload_n hx hb dX12_nextOrder_80 rfl (lv_at hl 3 rfl) ?_
                          refine va_get (D := (dC, dI)) (ci := 12) (v := .ref mz) (C := RX12) (T := TX12) (N := 24) hx hb hts iw_m_nextOrder_X12 hown hK hP 0 rfl rfl 13 (by decide) (hts (.fieldLink RX12 34 "ThriceCountedModel" "order" "[I") (by decide +kernel)) (fun _ h9 => h9) rfl dX12_nextOrder_81 ?_
                          refine lv_iload_n hx hb dX12_nextOrder_84 rfl (lv_at hl 1 rfl) ?_
                          refine va_iald hx hb hK hP 1 0 rfl rfl (show ¬ ((3 : Int32) < 0 ∨ 6 ≤ (3 : Int32).toNatClampNeg) by decide) dX12_nextOrder_85 ?_
                          refine tz_i (fz_ 3) rfl ?_
                          refine va_iast hx hb hK hP hD hS 1 0 rfl rfl (show ¬ ((0 : Int32) < 0 ∨ 6 ≤ (0 : Int32).toNatClampNeg) by decide) dX12_nextOrder_86 (fun H locs hP hD hS => ?_)
                          have hP : va_P (dC, dI) vwCl [(mo, .inr (12, [.ref nw, .ref kp, .ref ik, .ref mr, .long la_, .long lb_, .ref mw, .long lc_, .int ti_, .int cb_, .long ld_, .long le_, .ref mq, .ref mz, .ref my, .int 5, .ref mb, .int bl_, .int ta_, .int tl_, .int tk_, .int vl_, .ref mx, .ref mv])), (mz, .inl (cz_, 6, .inl (upd fz_ (Int32.toNatClampNeg 0) (fz_ 3))))] H := hP
                          have hD : va_D A [(mo, .inr (12, [.ref nw, .ref kp, .ref ik, .ref mr, .long la_, .long lb_, .ref mw, .long lc_, .int ti_, .int cb_, .long ld_, .long le_, .ref mq, .ref mz, .ref my, .int 5, .ref mb, .int bl_, .int ta_, .int tl_, .int tk_, .int vl_, .ref mx, .ref mv])), (mz, .inl (cz_, 6, .inl (upd fz_ (Int32.toNatClampNeg 0) (fz_ 3))))] := hD
                          refine lv_aload_n hx hb dX12_nextOrder_87 rfl (lv_at hl 3 rfl) ?_
                          refine va_get (D := (dC, dI)) (ci := 12) (v := .ref mz) (C := RX12) (T := TX12) (N := 24) hx hb hts iw_m_nextOrder_X12 hown hK hP 0 rfl rfl 13 (by decide) (hts (.fieldLink RX12 34 "ThriceCountedModel" "order" "[I") (by decide +kernel)) (fun _ h9 => h9) rfl dX12_nextOrder_88 ?_
                          refine lv_iload_n hx hb dX12_nextOrder_91 rfl (lv_at hl 1 rfl) ?_
                          refine lv_iload_n hx hb dX12_nextOrder_92 rfl (lv_at hl 0 rfl) ?_
                          refine va_iast hx hb hK hP hD hS 1 0 rfl rfl (show ¬ ((3 : Int32) < 0 ∨ 6 ≤ (3 : Int32).toNatClampNeg) by decide) dX12_nextOrder_93 (fun H locs hP hD hS => ?_)
                          have hP : va_P (dC, dI) vwCl [(mo, .inr (12, [.ref nw, .ref kp, .ref ik, .ref mr, .long la_, .long lb_, .ref mw, .long lc_, .int ti_, .int cb_, .long ld_, .long le_, .ref mq, .ref mz, .ref my, .int 5, .ref mb, .int bl_, .int ta_, .int tl_, .int tk_, .int vl_, .ref mx, .ref mv])), (mz, .inl (cz_, 6, .inl (upd (upd fz_ (Int32.toNatClampNeg 0) (fz_ 3)) (Int32.toNatClampNeg 3) (fz_ 0))))] H := hP
                          have hD : va_D A [(mo, .inr (12, [.ref nw, .ref kp, .ref ik, .ref mr, .long la_, .long lb_, .ref mw, .long lc_, .int ti_, .int cb_, .long ld_, .long le_, .ref mq, .ref mz, .ref my, .int 5, .ref mb, .int bl_, .int ta_, .int tl_, .int tk_, .int vl_, .ref mx, .ref mv])), (mz, .inl (cz_, 6, .inl (upd (upd fz_ (Int32.toNatClampNeg 0) (fz_ 3)) (Int32.toNatClampNeg 3) (fz_ 0))))] := hD
                          refine lv_iload_n hx hb dX12_nextOrder_94 rfl (lv_at hl 2 rfl) ?_
                          refine lv_iconst (v := 1) hx hb dX12_nextOrder_95 (by decide) ?_
                          refine lv_iadd hx hb dX12_nextOrder_96 ?_
                          refine tz_i 1 (by decide) ?_
                          refine lv_istore (lv' := [(4, .int 1), (3, .int (fz_ 0)), (2, .int 3), (1, .int 0), (0, .ref mo)]) hx hb dX12_nextOrder_97 hl (by decide) rfl (fun ls hl => ?_)
                          refine lv_aload_n hx hb dX12_nextOrder_99 rfl (lv_at hl 4 rfl) ?_
                          refine va_get (D := (dC, dI)) (ci := 12) (v := .int 5) (C := RX12) (T := TX12) (N := 24) hx hb hts iw_m_nextOrder_X12 hown hK hP 0 rfl rfl 15 (by decide) (hts (.fieldLink RX12 218 "ThriceCountedModel" "soughtMany" "I") (by decide +kernel)) (fun _ h9 => h9) rfl dX12_nextOrder_100 ?_
                          refine lv_iconst (v := 1) hx hb dX12_nextOrder_103 (by decide) ?_
                          refine lv_isub hx hb dX12_nextOrder_104 ?_
                          refine tz_i 4 (by decide) ?_
                          refine lv_istore (lv' := [(5, .int 4), (4, .int 1), (3, .int (fz_ 0)), (2, .int 3), (1, .int 0), (0, .ref mo)]) hx hb dX12_nextOrder_105 hl (by decide) rfl (fun ls hl => ?_)
                          refine lv_iload hx hb dX12_nextOrder_107 (lv_at hl 1 rfl) ?_
                          refine lv_iload hx hb dX12_nextOrder_109 (lv_at hl 0 rfl) ?_
                          refine lv_icmp_ge (tgt := 155) hx hb dX12_nextOrder_111 (by decide) (fun c_292 => ?_) (fun c_292 => ?_)
                          · exact absurd c_292 (by decide)
                          · refine lv_aload_n hx hb dX12_nextOrder_114 rfl (lv_at hl 5 rfl) ?_
                            refine va_get (D := (dC, dI)) (ci := 12) (v := .ref mz) (C := RX12) (T := TX12) (N := 24) hx hb hts iw_m_nextOrder_X12 hown hK hP 0 rfl rfl 13 (by decide) (hts (.fieldLink RX12 34 "ThriceCountedModel" "order" "[I") (by decide +kernel)) (fun _ h9 => h9) rfl dX12_nextOrder_115 ?_
                            refine lv_iload hx hb dX12_nextOrder_118 (lv_at hl 1 rfl) ?_
                            refine va_iald hx hb hK hP 1 0 rfl rfl (show ¬ ((1 : Int32) < 0 ∨ 6 ≤ (1 : Int32).toNatClampNeg) by decide) dX12_nextOrder_120 ?_
                            refine tz_i (fz_ 1) rfl ?_
                            refine lv_istore (lv' := [(6, .int (fz_ 1)), (5, .int 4), (4, .int 1), (3, .int (fz_ 0)), (2, .int 3), (1, .int 0), (0, .ref mo)]) hx hb dX12_nextOrder_121 hl (by decide) rfl (fun ls hl => ?_)
                            refine lv_aload_n hx hb dX12_nextOrder_123 rfl (lv_at hl 6 rfl) ?_
                            refine va_get (D := (dC, dI)) (ci := 12) (v := .ref mz) (C := RX12) (T := TX12) (N := 24) hx hb hts iw_m_nextOrder_X12 hown hK hP 0 rfl rfl 13 (by decide) (hts (.fieldLink RX12 34 "ThriceCountedModel" "order" "[I") (by decide +kernel)) (fun _ h9 => h9) rfl dX12_nextOrder_124 ?_
                            refine lv_iload hx hb dX12_nextOrder_127 (lv_at hl 2 rfl) ?_
                            refine lv_aload_n hx hb dX12_nextOrder_129 rfl (lv_at hl 6 rfl) ?_
                            refine va_get (D := (dC, dI)) (ci := 12) (v := .ref mz) (C := RX12) (T := TX12) (N := 24) hx hb hts iw_m_nextOrder_X12 hown hK hP 0 rfl rfl 13 (by decide) (hts (.fieldLink RX12 34 "ThriceCountedModel" "order" "[I") (by decide +kernel)) (fun _ h9 => h9) rfl dX12_nextOrder_130 ?_
                            refine lv_iload hx hb dX12_nextOrder_133 (lv_at hl 1 rfl) ?_
                            refine va_iald hx hb hK hP 1 0 rfl rfl (show ¬ ((4 : Int32) < 0 ∨ 6 ≤ (4 : Int32).toNatClampNeg) by decide) dX12_nextOrder_135 ?_
                            refine tz_i (fz_ 4) rfl ?_
                            refine va_iast hx hb hK hP hD hS 1 0 rfl rfl (show ¬ ((1 : Int32) < 0 ∨ 6 ≤ (1 : Int32).toNatClampNeg) by decide) dX12_nextOrder_136 (fun H locs hP hD hS => ?_)
                            have hP : va_P (dC, dI) vwCl [(mo, .inr (12, [.ref nw, .ref kp, .ref ik, .ref mr, .long la_, .long lb_, .ref mw, .long lc_, .int ti_, .int cb_, .long ld_, .long le_, .ref mq, .ref mz, .ref my, .int 5, .ref mb, .int bl_, .int ta_, .int tl_, .int tk_, .int vl_, .ref mx, .ref mv])), (mz, .inl (cz_, 6, .inl (upd (upd (upd fz_ (Int32.toNatClampNeg 0) (fz_ 3)) (Int32.toNatClampNeg 3) (fz_ 0)) (Int32.toNatClampNeg 1) (fz_ 4))))] H := hP
                            have hD : va_D A [(mo, .inr (12, [.ref nw, .ref kp, .ref ik, .ref mr, .long la_, .long lb_, .ref mw, .long lc_, .int ti_, .int cb_, .long ld_, .long le_, .ref mq, .ref mz, .ref my, .int 5, .ref mb, .int bl_, .int ta_, .int tl_, .int tk_, .int vl_, .ref mx, .ref mv])), (mz, .inl (cz_, 6, .inl (upd (upd (upd fz_ (Int32.toNatClampNeg 0) (fz_ 3)) (Int32.toNatClampNeg 3) (fz_ 0)) (Int32.toNatClampNeg 1) (fz_ 4))))] := hD
                            refine lv_aload_n hx hb dX12_nextOrder_137 rfl (lv_at hl 6 rfl) ?_
                            refine va_get (D := (dC, dI)) (ci := 12) (v := .ref mz) (C := RX12) (T := TX12) (N := 24) hx hb hts iw_m_nextOrder_X12 hown hK hP 0 rfl rfl 13 (by decide) (hts (.fieldLink RX12 34 "ThriceCountedModel" "order" "[I") (by decide +kernel)) (fun _ h9 => h9) rfl dX12_nextOrder_138 ?_
                            refine lv_iload hx hb dX12_nextOrder_141 (lv_at hl 1 rfl) ?_
                            refine lv_iload hx hb dX12_nextOrder_143 (lv_at hl 0 rfl) ?_
                            refine va_iast hx hb hK hP hD hS 1 0 rfl rfl (show ¬ ((4 : Int32) < 0 ∨ 6 ≤ (4 : Int32).toNatClampNeg) by decide) dX12_nextOrder_145 (fun H locs hP hD hS => ?_)
                            have hP : va_P (dC, dI) vwCl [(mo, .inr (12, [.ref nw, .ref kp, .ref ik, .ref mr, .long la_, .long lb_, .ref mw, .long lc_, .int ti_, .int cb_, .long ld_, .long le_, .ref mq, .ref mz, .ref my, .int 5, .ref mb, .int bl_, .int ta_, .int tl_, .int tk_, .int vl_, .ref mx, .ref mv])), (mz, .inl (cz_, 6, .inl (upd (upd (upd (upd fz_ (Int32.toNatClampNeg 0) (fz_ 3)) (Int32.toNatClampNeg 3) (fz_ 0)) (Int32.toNatClampNeg 1) (fz_ 4)) (Int32.toNatClampNeg 4) (fz_ 1))))] H := hP
                            have hD : va_D A [(mo, .inr (12, [.ref nw, .ref kp, .ref ik, .ref mr, .long la_, .long lb_, .ref mw, .long lc_, .int ti_, .int cb_, .long ld_, .long le_, .ref mq, .ref mz, .ref my, .int 5, .ref mb, .int bl_, .int ta_, .int tl_, .int tk_, .int vl_, .ref mx, .ref mv])), (mz, .inl (cz_, 6, .inl (upd (upd (upd (upd fz_ (Int32.toNatClampNeg 0) (fz_ 3)) (Int32.toNatClampNeg 3) (fz_ 0)) (Int32.toNatClampNeg 1) (fz_ 4)) (Int32.toNatClampNeg 4) (fz_ 1))))] := hD
                            refine lv_iinc (v := 2) (lv' := [(4, .int 2), (6, .int (fz_ 1)), (5, .int 4), (3, .int (fz_ 0)), (2, .int 3), (1, .int 0), (0, .ref mo)]) hx hb dX12_nextOrder_146 hl (k := 2) rfl (by decide) (by decide) rfl (fun ls hl => ?_)
                            refine lv_iinc (v := 3) (lv' := [(5, .int 3), (4, .int 2), (6, .int (fz_ 1)), (3, .int (fz_ 0)), (2, .int 3), (1, .int 0), (0, .ref mo)]) hx hb dX12_nextOrder_149 hl (k := 2) rfl (by decide) (by decide) rfl (fun ls hl => ?_)
                            refine lv_goto (tgt := 107) hx hb dX12_nextOrder_152 (by decide) ?_
                            refine lv_iload hx hb dX12_nextOrder_107 (lv_at hl 1 rfl) ?_
                            refine lv_iload hx hb dX12_nextOrder_109 (lv_at hl 0 rfl) ?_
                            refine lv_icmp_ge (tgt := 155) hx hb dX12_nextOrder_111 (by decide) (fun c_295 => ?_) (fun c_295 => ?_)
                            · exact absurd c_295 (by decide)
                            · refine lv_aload_n hx hb dX12_nextOrder_114 rfl (lv_at hl 6 rfl) ?_
                              refine va_get (D := (dC, dI)) (ci := 12) (v := .ref mz) (C := RX12) (T := TX12) (N := 24) hx hb hts iw_m_nextOrder_X12 hown hK hP 0 rfl rfl 13 (by decide) (hts (.fieldLink RX12 34 "ThriceCountedModel" "order" "[I") (by decide +kernel)) (fun _ h9 => h9) rfl dX12_nextOrder_115 ?_
                              refine lv_iload hx hb dX12_nextOrder_118 (lv_at hl 1 rfl) ?_
                              refine va_iald hx hb hK hP 1 0 rfl rfl (show ¬ ((2 : Int32) < 0 ∨ 6 ≤ (2 : Int32).toNatClampNeg) by decide) dX12_nextOrder_120 ?_
                              refine tz_i (fz_ 2) rfl ?_
                              refine lv_istore (lv' := [(6, .int (fz_ 2)), (5, .int 3), (4, .int 2), (3, .int (fz_ 0)), (2, .int 3), (1, .int 0), (0, .ref mo)]) hx hb dX12_nextOrder_121 hl (by decide) rfl (fun ls hl => ?_)
                              refine lv_aload_n hx hb dX12_nextOrder_123 rfl (lv_at hl 6 rfl) ?_
                              refine va_get (D := (dC, dI)) (ci := 12) (v := .ref mz) (C := RX12) (T := TX12) (N := 24) hx hb hts iw_m_nextOrder_X12 hown hK hP 0 rfl rfl 13 (by decide) (hts (.fieldLink RX12 34 "ThriceCountedModel" "order" "[I") (by decide +kernel)) (fun _ h9 => h9) rfl dX12_nextOrder_124 ?_
                              refine lv_iload hx hb dX12_nextOrder_127 (lv_at hl 2 rfl) ?_
                              refine lv_aload_n hx hb dX12_nextOrder_129 rfl (lv_at hl 6 rfl) ?_
                              refine va_get (D := (dC, dI)) (ci := 12) (v := .ref mz) (C := RX12) (T := TX12) (N := 24) hx hb hts iw_m_nextOrder_X12 hown hK hP 0 rfl rfl 13 (by decide) (hts (.fieldLink RX12 34 "ThriceCountedModel" "order" "[I") (by decide +kernel)) (fun _ h9 => h9) rfl dX12_nextOrder_130 ?_
                              refine lv_iload hx hb dX12_nextOrder_133 (lv_at hl 1 rfl) ?_
                              refine va_iald hx hb hK hP 1 0 rfl rfl (show ¬ ((3 : Int32) < 0 ∨ 6 ≤ (3 : Int32).toNatClampNeg) by decide) dX12_nextOrder_135 ?_
                              refine tz_i (fz_ 0) rfl ?_
                              refine va_iast hx hb hK hP hD hS 1 0 rfl rfl (show ¬ ((2 : Int32) < 0 ∨ 6 ≤ (2 : Int32).toNatClampNeg) by decide) dX12_nextOrder_136 (fun H locs hP hD hS => ?_)
                              have hP : va_P (dC, dI) vwCl [(mo, .inr (12, [.ref nw, .ref kp, .ref ik, .ref mr, .long la_, .long lb_, .ref mw, .long lc_, .int ti_, .int cb_, .long ld_, .long le_, .ref mq, .ref mz, .ref my, .int 5, .ref mb, .int bl_, .int ta_, .int tl_, .int tk_, .int vl_, .ref mx, .ref mv])), (mz, .inl (cz_, 6, .inl (upd (upd (upd (upd (upd fz_ (Int32.toNatClampNeg 0) (fz_ 3)) (Int32.toNatClampNeg 3) (fz_ 0)) (Int32.toNatClampNeg 1) (fz_ 4)) (Int32.toNatClampNeg 4) (fz_ 1)) (Int32.toNatClampNeg 2) (fz_ 0))))] H := hP
                              have hD : va_D A [(mo, .inr (12, [.ref nw, .ref kp, .ref ik, .ref mr, .long la_, .long lb_, .ref mw, .long lc_, .int ti_, .int cb_, .long ld_, .long le_, .ref mq, .ref mz, .ref my, .int 5, .ref mb, .int bl_, .int ta_, .int tl_, .int tk_, .int vl_, .ref mx, .ref mv])), (mz, .inl (cz_, 6, .inl (upd (upd (upd (upd (upd fz_ (Int32.toNatClampNeg 0) (fz_ 3)) (Int32.toNatClampNeg 3) (fz_ 0)) (Int32.toNatClampNeg 1) (fz_ 4)) (Int32.toNatClampNeg 4) (fz_ 1)) (Int32.toNatClampNeg 2) (fz_ 0))))] := hD
                              refine lv_aload_n hx hb dX12_nextOrder_137 rfl (lv_at hl 6 rfl) ?_
                              refine va_get (D := (dC, dI)) (ci := 12) (v := .ref mz) (C := RX12) (T := TX12) (N := 24) hx hb hts iw_m_nextOrder_X12 hown hK hP 0 rfl rfl 13 (by decide) (hts (.fieldLink RX12 34 "ThriceCountedModel" "order" "[I") (by decide +kernel)) (fun _ h9 => h9) rfl dX12_nextOrder_138 ?_
                              refine lv_iload hx hb dX12_nextOrder_141 (lv_at hl 1 rfl) ?_
                              refine lv_iload hx hb dX12_nextOrder_143 (lv_at hl 0 rfl) ?_
                              refine va_iast hx hb hK hP hD hS 1 0 rfl rfl (show ¬ ((3 : Int32) < 0 ∨ 6 ≤ (3 : Int32).toNatClampNeg) by decide) dX12_nextOrder_145 (fun H locs hP hD hS => ?_)
                              have hP : va_P (dC, dI) vwCl [(mo, .inr (12, [.ref nw, .ref kp, .ref ik, .ref mr, .long la_, .long lb_, .ref mw, .long lc_, .int ti_, .int cb_, .long ld_, .long le_, .ref mq, .ref mz, .ref my, .int 5, .ref mb, .int bl_, .int ta_, .int tl_, .int tk_, .int vl_, .ref mx, .ref mv])), (mz, .inl (cz_, 6, .inl (upd (upd (upd (upd (upd (upd fz_ (Int32.toNatClampNeg 0) (fz_ 3)) (Int32.toNatClampNeg 3) (fz_ 0)) (Int32.toNatClampNeg 1) (fz_ 4)) (Int32.toNatClampNeg 4) (fz_ 1)) (Int32.toNatClampNeg 2) (fz_ 0)) (Int32.toNatClampNeg 3) (fz_ 2))))] H := hP
                              have hD : va_D A [(mo, .inr (12, [.ref nw, .ref kp, .ref ik, .ref mr, .long la_, .long lb_, .ref mw, .long lc_, .int ti_, .int cb_, .long ld_, .long le_, .ref mq, .ref mz, .ref my, .int 5, .ref mb, .int bl_, .int ta_, .int tl_, .int tk_, .int vl_, .ref mx, .ref mv])), (mz, .inl (cz_, 6, .inl (upd (upd (upd (upd (upd (upd fz_ (Int32.toNatClampNeg 0) (fz_ 3)) (Int32.toNatClampNeg 3) (fz_ 0)) (Int32.toNatClampNeg 1) (fz_ 4)) (Int32.toNatClampNeg 4) (fz_ 1)) (Int32.toNatClampNeg 2) (fz_ 0)) (Int32.toNatClampNeg 3) (fz_ 2))))] := hD
                              refine lv_iinc (v := 3) (lv' := [(4, .int 3), (6, .int (fz_ 2)), (5, .int 3), (3, .int (fz_ 0)), (2, .int 3), (1, .int 0), (0, .ref mo)]) hx hb dX12_nextOrder_146 hl (k := 2) rfl (by decide) (by decide) rfl (fun ls hl => ?_)
                              refine lv_iinc (v := 2) (lv' := [(5, .int 2), (4, .int 3), (6, .int (fz_ 2)), (3, .int (fz_ 0)), (2, .int 3), (1, .int 0), (0, .ref mo)]) hx hb dX12_nextOrder_149 hl (k := 2) rfl (by decide) (by decide) rfl (fun ls hl => ?_)
                              refine lv_goto (tgt := 107) hx hb dX12_nextOrder_152 (by decide) ?_
                              refine lv_iload hx hb dX12_nextOrder_107 (lv_at hl 1 rfl) ?_
                              refine lv_iload hx hb dX12_nextOrder_109 (lv_at hl 0 rfl) ?_
                              refine lv_icmp_ge (tgt := 155) hx hb dX12_nextOrder_111 (by decide) (fun c_298 => ?_) (fun c_298 => ?_)
                              · refine lv_iconst (v := 1) hx hb dX12_nextOrder_155 (by decide) ?_
                                have hP9 := hP.sub (ws' := [(mo, .inr (12, [.ref nw, .ref kp, .ref ik, .ref mr, .long la_, .long lb_, .ref mw, .long lc_, .int ti_, .int cb_, .long ld_, .long le_, .ref mq, .ref mz, .ref my, .int (nI 5), .ref mb, .int bl_, .int ta_, .int tl_, .int tk_, .int vl_, .ref mx, .ref mv])), (mz, .inl (cz_, 6, .inl (upd (upd (upd (upd (upd (upd fz_ (Int32.toNatClampNeg 0) (fz_ 3)) (Int32.toNatClampNeg 3) (fz_ 0)) (Int32.toNatClampNeg 1) (fz_ 4)) (Int32.toNatClampNeg 4) (fz_ 1)) (Int32.toNatClampNeg 2) (fz_ 0)) (Int32.toNatClampNeg 3) (fz_ 2))))]) [0, 1] rfl
                                have hD9 := hD.sub (ws' := [(mo, .inr (12, [.ref nw, .ref kp, .ref ik, .ref mr, .long la_, .long lb_, .ref mw, .long lc_, .int ti_, .int cb_, .long ld_, .long le_, .ref mq, .ref mz, .ref my, .int (nI 5), .ref mb, .int bl_, .int ta_, .int tl_, .int tk_, .int vl_, .ref mx, .ref mv])), (mz, .inl (cz_, 6, .inl (upd (upd (upd (upd (upd (upd fz_ (Int32.toNatClampNeg 0) (fz_ 3)) (Int32.toNatClampNeg 3) (fz_ 0)) (Int32.toNatClampNeg 1) (fz_ 4)) (Int32.toNatClampNeg 4) (fz_ 1)) (Int32.toNatClampNeg 2) (fz_ 0)) (Int32.toNatClampNeg 3) (fz_ 2))))]) [0, 1] (by decide) rfl
                                have hK9 := hK.sub (tys' := [(cz_, .int)]) [0] rfl
                                have hlt_299 : (fz_ 0).toInt < (fz_ 3).toInt := tz_ltt2 c_289 (hdi.2 0 3 (by omega) (by omega))
                                have hb_300 := hdi.1 0 (by omega)
                                have hb_301 := hdi.1 1 (by omega)
                                have hb_302 := hdi.1 2 (by omega)
                                have hb_303 := hdi.1 3 (by omega)
                                have hb_304 := hdi.1 4 (by omega)
                                have ev_305 : tz_val 5 fz_ = 7776 * (fz_ 0).toInt + 1296 * (fz_ 1).toInt + 216 * (fz_ 2).toInt + 36 * (fz_ 3).toInt + 6 * (fz_ 4).toInt + 0 := rfl
                                have eg_306 : tz_val 5 (upd (upd (upd (upd (upd (upd fz_ (Int32.toNatClampNeg 0) (fz_ 3)) (Int32.toNatClampNeg 3) (fz_ 0)) (Int32.toNatClampNeg 1) (fz_ 4)) (Int32.toNatClampNeg 4) (fz_ 1)) (Int32.toNatClampNeg 2) (fz_ 0)) (Int32.toNatClampNeg 3) (fz_ 2)) = 7776 * (fz_ 3).toInt + 1296 * (fz_ 4).toInt + 216 * (fz_ 0).toInt + 36 * (fz_ 2).toInt + 6 * (fz_ 1).toInt + 0 := rfl
                                have hp_307 : tz_Di 5 (upd (upd (upd (upd (upd (upd fz_ (Int32.toNatClampNeg 0) (fz_ 3)) (Int32.toNatClampNeg 3) (fz_ 0)) (Int32.toNatClampNeg 1) (fz_ 4)) (Int32.toNatClampNeg 4) (fz_ 1)) (Int32.toNatClampNeg 2) (fz_ 0)) (Int32.toNatClampNeg 3) (fz_ 2)) := hdi.perm (fun a => ([3, 4, 0, 2, 1] : List Nat).getD a 0) (fun a ha => by
                                  rcases (show a = 0 ∨ a = 1 ∨ a = 2 ∨ a = 3 ∨ a = 4 by omega) with rfl | rfl | rfl | rfl | rfl <;> exact ⟨by decide, rfl⟩) (by decide)
                                exact W.zret (v := 1) hx hb hr (by decide) (fun t ht hW => ⟨⟨1, (), rfl, Or.inr ⟨rfl, 0, by omega, tz_nle_of c_268⟩, (upd (upd (upd (upd (upd (upd fz_ (Int32.toNatClampNeg 0) (fz_ 3)) (Int32.toNatClampNeg 3) (fz_ 0)) (Int32.toNatClampNeg 1) (fz_ 4)) (Int32.toNatClampNeg 4) (fz_ 1)) (Int32.toNatClampNeg 2) (fz_ 0)) (Int32.toNatClampNeg 3) (fz_ 2)), hp_307, by rw [ev_305, eg_306]; omega, fun _ => by rw [ev_305, eg_306]; omega, by rw [ht]; exact hP9, va_K.moved hW.alike hK9, hD9⟩, hS.F ht⟩) hS.2.2 dX12_nextOrder_156
                              · exact absurd c_298 (by decide)
                        · refine lv_iinc (v := 2) (lv' := [(2, .int 2), (1, .int 0), (0, .ref mo)]) hx hb dX12_nextOrder_62 hl (k := 0) rfl (by decide) (by decide) rfl (fun ls hl => ?_)
                          refine lv_goto (tgt := 47) hx hb dX12_nextOrder_65 (by decide) ?_
                          refine lv_aload_n hx hb dX12_nextOrder_47 rfl (lv_at hl 2 rfl) ?_
                          refine va_get (D := (dC, dI)) (ci := 12) (v := .ref mz) (C := RX12) (T := TX12) (N := 24) hx hb hts iw_m_nextOrder_X12 hown hK hP 0 rfl rfl 13 (by decide) (hts (.fieldLink RX12 34 "ThriceCountedModel" "order" "[I") (by decide +kernel)) (fun _ h9 => h9) rfl dX12_nextOrder_48 ?_
                          refine lv_iload_n hx hb dX12_nextOrder_51 rfl (lv_at hl 0 rfl) ?_
                          refine va_iald hx hb hK hP 1 0 rfl rfl (show ¬ ((2 : Int32) < 0 ∨ 6 ≤ (2 : Int32).toNatClampNeg) by decide) dX12_nextOrder_52 ?_
                          refine tz_i (fz_ 2) rfl ?_
                          refine lv_aload_n hx hb dX12_nextOrder_53 rfl (lv_at hl 2 rfl) ?_
                          refine va_get (D := (dC, dI)) (ci := 12) (v := .ref mz) (C := RX12) (T := TX12) (N := 24) hx hb hts iw_m_nextOrder_X12 hown hK hP 0 rfl rfl 13 (by decide) (hts (.fieldLink RX12 34 "ThriceCountedModel" "order" "[I") (by decide +kernel)) (fun _ h9 => h9) rfl dX12_nextOrder_54 ?_
                          refine lv_iload_n hx hb dX12_nextOrder_57 rfl (lv_at hl 1 rfl) ?_
                          refine va_iald hx hb hK hP 1 0 rfl rfl (show ¬ ((0 : Int32) < 0 ∨ 6 ≤ (0 : Int32).toNatClampNeg) by decide) dX12_nextOrder_58 ?_
                          refine tz_i (fz_ 0) rfl ?_
                          refine lv_icmp_ge (tgt := 68) hx hb dX12_nextOrder_59 (by decide) (fun c_308 => ?_) (fun c_308 => ?_)
                          · refine lv_aload_n hx hb dX12_nextOrder_68 rfl (lv_at hl 2 rfl) ?_
                            refine va_get (D := (dC, dI)) (ci := 12) (v := .ref mz) (C := RX12) (T := TX12) (N := 24) hx hb hts iw_m_nextOrder_X12 hown hK hP 0 rfl rfl 13 (by decide) (hts (.fieldLink RX12 34 "ThriceCountedModel" "order" "[I") (by decide +kernel)) (fun _ h9 => h9) rfl dX12_nextOrder_69 ?_
                            refine lv_iload_n hx hb dX12_nextOrder_72 rfl (lv_at hl 1 rfl) ?_
                            refine va_iald hx hb hK hP 1 0 rfl rfl (show ¬ ((0 : Int32) < 0 ∨ 6 ≤ (0 : Int32).toNatClampNeg) by decide) dX12_nextOrder_73 ?_
                            refine tz_i (fz_ 0) rfl ?_
                            refine lv_istore_n (lv' := [(3, .int (fz_ 0)), (2, .int 2), (1, .int 0), (0, .ref mo)]) hx hb dX12_nextOrder_74 rfl hl (by decide) rfl (fun ls hl => ?_)
                            refine lv_aload_n hx hb dX12_nextOrder_75 rfl (lv_at hl 3 rfl) ?_
                            refine va_get (D := (dC, dI)) (ci := 12) (v := .ref mz) (C := RX12) (T := TX12) (N := 24) hx hb hts iw_m_nextOrder_X12 hown hK hP 0 rfl rfl 13 (by decide) (hts (.fieldLink RX12 34 "ThriceCountedModel" "order" "[I") (by decide +kernel)) (fun _ h9 => h9) rfl dX12_nextOrder_76 ?_
                            refine lv_iload_n hx hb dX12_nextOrder_79 rfl (lv_at hl 2 rfl) ?_
                            refine lv_aload_n hx hb dX12_nextOrder_80 rfl (lv_at hl 3 rfl) ?_
                            refine va_get (D := (dC, dI)) (ci := 12) (v := .ref mz) (C := RX12) (T := TX12) (N := 24) hx hb hts iw_m_nextOrder_X12 hown hK hP 0 rfl rfl 13 (by decide) (hts (.fieldLink RX12 34 "ThriceCountedModel" "order" "[I") (by decide +kernel)) (fun _ h9 => h9) rfl dX12_nextOrder_81 ?_
                            refine lv_iload_n hx hb dX12_nextOrder_84 rfl (lv_at hl 1 rfl) ?_
                            refine va_iald hx hb hK hP 1 0 rfl rfl (show ¬ ((2 : Int32) < 0 ∨ 6 ≤ (2 : Int32).toNatClampNeg) by decide) dX12_nextOrder_85 ?_
                            refine tz_i (fz_ 2) rfl ?_
                            refine va_iast hx hb hK hP hD hS 1 0 rfl rfl (show ¬ ((0 : Int32) < 0 ∨ 6 ≤ (0 : Int32).toNatClampNeg) by decide) dX12_nextOrder_86 (fun H locs hP hD hS => ?_)
                            have hP : va_P (dC, dI) vwCl [(mo, .inr (12, [.ref nw, .ref kp, .ref ik, .ref mr, .long la_, .long lb_, .ref mw, .long lc_, .int ti_, .int cb_, .long ld_, .long le_, .ref mq, .ref mz, .ref my, .int 5, .ref mb, .int bl_, .int ta_, .int tl_, .int tk_, .int vl_, .ref mx, .ref mv])), (mz, .inl (cz_, 6, .inl (upd fz_ (Int32.toNatClampNeg 0) (fz_ 2))))] H := hP
                            have hD : va_D A [(mo, .inr (12, [.ref nw, .ref kp, .ref ik, .ref mr, .long la_, .long lb_, .ref mw, .long lc_, .int ti_, .int cb_, .long ld_, .long le_, .ref mq, .ref mz, .ref my, .int 5, .ref mb, .int bl_, .int ta_, .int tl_, .int tk_, .int vl_, .ref mx, .ref mv])), (mz, .inl (cz_, 6, .inl (upd fz_ (Int32.toNatClampNeg 0) (fz_ 2))))] := hD
                            refine lv_aload_n hx hb dX12_nextOrder_87 rfl (lv_at hl 3 rfl) ?_
                            refine va_get (D := (dC, dI)) (ci := 12) (v := .ref mz) (C := RX12) (T := TX12) (N := 24) hx hb hts iw_m_nextOrder_X12 hown hK hP 0 rfl rfl 13 (by decide) (hts (.fieldLink RX12 34 "ThriceCountedModel" "order" "[I") (by decide +kernel)) (fun _ h9 => h9) rfl dX12_nextOrder_88 ?_
                            refine lv_iload_n hx hb dX12_nextOrder_91 rfl (lv_at hl 1 rfl) ?_
                            refine lv_iload_n hx hb dX12_nextOrder_92 rfl (lv_at hl 0 rfl) ?_
                            refine va_iast hx hb hK hP hD hS 1 0 rfl rfl (show ¬ ((2 : Int32) < 0 ∨ 6 ≤ (2 : Int32).toNatClampNeg) by decide) dX12_nextOrder_93 (fun H locs hP hD hS => ?_)
                            have hP : va_P (dC, dI) vwCl [(mo, .inr (12, [.ref nw, .ref kp, .ref ik, .ref mr, .long la_, .long lb_, .ref mw, .long lc_, .int ti_, .int cb_, .long ld_, .long le_, .ref mq, .ref mz, .ref my, .int 5, .ref mb, .int bl_, .int ta_, .int tl_, .int tk_, .int vl_, .ref mx, .ref mv])), (mz, .inl (cz_, 6, .inl (upd (upd fz_ (Int32.toNatClampNeg 0) (fz_ 2)) (Int32.toNatClampNeg 2) (fz_ 0))))] H := hP
                            have hD : va_D A [(mo, .inr (12, [.ref nw, .ref kp, .ref ik, .ref mr, .long la_, .long lb_, .ref mw, .long lc_, .int ti_, .int cb_, .long ld_, .long le_, .ref mq, .ref mz, .ref my, .int 5, .ref mb, .int bl_, .int ta_, .int tl_, .int tk_, .int vl_, .ref mx, .ref mv])), (mz, .inl (cz_, 6, .inl (upd (upd fz_ (Int32.toNatClampNeg 0) (fz_ 2)) (Int32.toNatClampNeg 2) (fz_ 0))))] := hD
                            refine lv_iload_n hx hb dX12_nextOrder_94 rfl (lv_at hl 2 rfl) ?_
                            refine lv_iconst (v := 1) hx hb dX12_nextOrder_95 (by decide) ?_
                            refine lv_iadd hx hb dX12_nextOrder_96 ?_
                            refine tz_i 1 (by decide) ?_
                            refine lv_istore (lv' := [(4, .int 1), (3, .int (fz_ 0)), (2, .int 2), (1, .int 0), (0, .ref mo)]) hx hb dX12_nextOrder_97 hl (by decide) rfl (fun ls hl => ?_)
                            refine lv_aload_n hx hb dX12_nextOrder_99 rfl (lv_at hl 4 rfl) ?_
                            refine va_get (D := (dC, dI)) (ci := 12) (v := .int 5) (C := RX12) (T := TX12) (N := 24) hx hb hts iw_m_nextOrder_X12 hown hK hP 0 rfl rfl 15 (by decide) (hts (.fieldLink RX12 218 "ThriceCountedModel" "soughtMany" "I") (by decide +kernel)) (fun _ h9 => h9) rfl dX12_nextOrder_100 ?_
                            refine lv_iconst (v := 1) hx hb dX12_nextOrder_103 (by decide) ?_
                            refine lv_isub hx hb dX12_nextOrder_104 ?_
                            refine tz_i 4 (by decide) ?_
                            refine lv_istore (lv' := [(5, .int 4), (4, .int 1), (3, .int (fz_ 0)), (2, .int 2), (1, .int 0), (0, .ref mo)]) hx hb dX12_nextOrder_105 hl (by decide) rfl (fun ls hl => ?_)
                            refine lv_iload hx hb dX12_nextOrder_107 (lv_at hl 1 rfl) ?_
                            refine lv_iload hx hb dX12_nextOrder_109 (lv_at hl 0 rfl) ?_
                            refine lv_icmp_ge (tgt := 155) hx hb dX12_nextOrder_111 (by decide) (fun c_311 => ?_) (fun c_311 => ?_)
                            · exact absurd c_311 (by decide)
                            · refine lv_aload_n hx hb dX12_nextOrder_114 rfl (lv_at hl 5 rfl) ?_
                              refine va_get (D := (dC, dI)) (ci := 12) (v := .ref mz) (C := RX12) (T := TX12) (N := 24) hx hb hts iw_m_nextOrder_X12 hown hK hP 0 rfl rfl 13 (by decide) (hts (.fieldLink RX12 34 "ThriceCountedModel" "order" "[I") (by decide +kernel)) (fun _ h9 => h9) rfl dX12_nextOrder_115 ?_
                              refine lv_iload hx hb dX12_nextOrder_118 (lv_at hl 1 rfl) ?_
                              refine va_iald hx hb hK hP 1 0 rfl rfl (show ¬ ((1 : Int32) < 0 ∨ 6 ≤ (1 : Int32).toNatClampNeg) by decide) dX12_nextOrder_120 ?_
                              refine tz_i (fz_ 1) rfl ?_
                              refine lv_istore (lv' := [(6, .int (fz_ 1)), (5, .int 4), (4, .int 1), (3, .int (fz_ 0)), (2, .int 2), (1, .int 0), (0, .ref mo)]) hx hb dX12_nextOrder_121 hl (by decide) rfl (fun ls hl => ?_)
                              refine lv_aload_n hx hb dX12_nextOrder_123 rfl (lv_at hl 6 rfl) ?_
                              refine va_get (D := (dC, dI)) (ci := 12) (v := .ref mz) (C := RX12) (T := TX12) (N := 24) hx hb hts iw_m_nextOrder_X12 hown hK hP 0 rfl rfl 13 (by decide) (hts (.fieldLink RX12 34 "ThriceCountedModel" "order" "[I") (by decide +kernel)) (fun _ h9 => h9) rfl dX12_nextOrder_124 ?_
                              refine lv_iload hx hb dX12_nextOrder_127 (lv_at hl 2 rfl) ?_
                              refine lv_aload_n hx hb dX12_nextOrder_129 rfl (lv_at hl 6 rfl) ?_
                              refine va_get (D := (dC, dI)) (ci := 12) (v := .ref mz) (C := RX12) (T := TX12) (N := 24) hx hb hts iw_m_nextOrder_X12 hown hK hP 0 rfl rfl 13 (by decide) (hts (.fieldLink RX12 34 "ThriceCountedModel" "order" "[I") (by decide +kernel)) (fun _ h9 => h9) rfl dX12_nextOrder_130 ?_
                              refine lv_iload hx hb dX12_nextOrder_133 (lv_at hl 1 rfl) ?_
                              refine va_iald hx hb hK hP 1 0 rfl rfl (show ¬ ((4 : Int32) < 0 ∨ 6 ≤ (4 : Int32).toNatClampNeg) by decide) dX12_nextOrder_135 ?_
                              refine tz_i (fz_ 4) rfl ?_
                              refine va_iast hx hb hK hP hD hS 1 0 rfl rfl (show ¬ ((1 : Int32) < 0 ∨ 6 ≤ (1 : Int32).toNatClampNeg) by decide) dX12_nextOrder_136 (fun H locs hP hD hS => ?_)
                              have hP : va_P (dC, dI) vwCl [(mo, .inr (12, [.ref nw, .ref kp, .ref ik, .ref mr, .long la_, .long lb_, .ref mw, .long lc_, .int ti_, .int cb_, .long ld_, .long le_, .ref mq, .ref mz, .ref my, .int 5, .ref mb, .int bl_, .int ta_, .int tl_, .int tk_, .int vl_, .ref mx, .ref mv])), (mz, .inl (cz_, 6, .inl (upd (upd (upd fz_ (Int32.toNatClampNeg 0) (fz_ 2)) (Int32.toNatClampNeg 2) (fz_ 0)) (Int32.toNatClampNeg 1) (fz_ 4))))] H := hP
                              have hD : va_D A [(mo, .inr (12, [.ref nw, .ref kp, .ref ik, .ref mr, .long la_, .long lb_, .ref mw, .long lc_, .int ti_, .int cb_, .long ld_, .long le_, .ref mq, .ref mz, .ref my, .int 5, .ref mb, .int bl_, .int ta_, .int tl_, .int tk_, .int vl_, .ref mx, .ref mv])), (mz, .inl (cz_, 6, .inl (upd (upd (upd fz_ (Int32.toNatClampNeg 0) (fz_ 2)) (Int32.toNatClampNeg 2) (fz_ 0)) (Int32.toNatClampNeg 1) (fz_ 4))))] := hD
                              refine lv_aload_n hx hb dX12_nextOrder_137 rfl (lv_at hl 6 rfl) ?_
                              refine va_get (D := (dC, dI)) (ci := 12) (v := .ref mz) (C := RX12) (T := TX12) (N := 24) hx hb hts iw_m_nextOrder_X12 hown hK hP 0 rfl rfl 13 (by decide) (hts (.fieldLink RX12 34 "ThriceCountedModel" "order" "[I") (by decide +kernel)) (fun _ h9 => h9) rfl dX12_nextOrder_138 ?_
                              refine lv_iload hx hb dX12_nextOrder_141 (lv_at hl 1 rfl) ?_
                              refine lv_iload hx hb dX12_nextOrder_143 (lv_at hl 0 rfl) ?_
                              refine va_iast hx hb hK hP hD hS 1 0 rfl rfl (show ¬ ((4 : Int32) < 0 ∨ 6 ≤ (4 : Int32).toNatClampNeg) by decide) dX12_nextOrder_145 (fun H locs hP hD hS => ?_)
                              have hP : va_P (dC, dI) vwCl [(mo, .inr (12, [.ref nw, .ref kp, .ref ik, .ref mr, .long la_, .long lb_, .ref mw, .long lc_, .int ti_, .int cb_, .long ld_, .long le_, .ref mq, .ref mz, .ref my, .int 5, .ref mb, .int bl_, .int ta_, .int tl_, .int tk_, .int vl_, .ref mx, .ref mv])), (mz, .inl (cz_, 6, .inl (upd (upd (upd (upd fz_ (Int32.toNatClampNeg 0) (fz_ 2)) (Int32.toNatClampNeg 2) (fz_ 0)) (Int32.toNatClampNeg 1) (fz_ 4)) (Int32.toNatClampNeg 4) (fz_ 1))))] H := hP
                              have hD : va_D A [(mo, .inr (12, [.ref nw, .ref kp, .ref ik, .ref mr, .long la_, .long lb_, .ref mw, .long lc_, .int ti_, .int cb_, .long ld_, .long le_, .ref mq, .ref mz, .ref my, .int 5, .ref mb, .int bl_, .int ta_, .int tl_, .int tk_, .int vl_, .ref mx, .ref mv])), (mz, .inl (cz_, 6, .inl (upd (upd (upd (upd fz_ (Int32.toNatClampNeg 0) (fz_ 2)) (Int32.toNatClampNeg 2) (fz_ 0)) (Int32.toNatClampNeg 1) (fz_ 4)) (Int32.toNatClampNeg 4) (fz_ 1))))] := hD
                              refine lv_iinc (v := 2) (lv' := [(4, .int 2), (6, .int (fz_ 1)), (5, .int 4), (3, .int (fz_ 0)), (2, .int 2), (1, .int 0), (0, .ref mo)]) hx hb dX12_nextOrder_146 hl (k := 2) rfl (by decide) (by decide) rfl (fun ls hl => ?_)
                              refine lv_iinc (v := 3) (lv' := [(5, .int 3), (4, .int 2), (6, .int (fz_ 1)), (3, .int (fz_ 0)), (2, .int 2), (1, .int 0), (0, .ref mo)]) hx hb dX12_nextOrder_149 hl (k := 2) rfl (by decide) (by decide) rfl (fun ls hl => ?_)
                              refine lv_goto (tgt := 107) hx hb dX12_nextOrder_152 (by decide) ?_
                              refine lv_iload hx hb dX12_nextOrder_107 (lv_at hl 1 rfl) ?_
                              refine lv_iload hx hb dX12_nextOrder_109 (lv_at hl 0 rfl) ?_
                              refine lv_icmp_ge (tgt := 155) hx hb dX12_nextOrder_111 (by decide) (fun c_314 => ?_) (fun c_314 => ?_)
                              · exact absurd c_314 (by decide)
                              · refine lv_aload_n hx hb dX12_nextOrder_114 rfl (lv_at hl 6 rfl) ?_
                                refine va_get (D := (dC, dI)) (ci := 12) (v := .ref mz) (C := RX12) (T := TX12) (N := 24) hx hb hts iw_m_nextOrder_X12 hown hK hP 0 rfl rfl 13 (by decide) (hts (.fieldLink RX12 34 "ThriceCountedModel" "order" "[I") (by decide +kernel)) (fun _ h9 => h9) rfl dX12_nextOrder_115 ?_
                                refine lv_iload hx hb dX12_nextOrder_118 (lv_at hl 1 rfl) ?_
                                refine va_iald hx hb hK hP 1 0 rfl rfl (show ¬ ((2 : Int32) < 0 ∨ 6 ≤ (2 : Int32).toNatClampNeg) by decide) dX12_nextOrder_120 ?_
                                refine tz_i (fz_ 0) rfl ?_
                                refine lv_istore (lv' := [(6, .int (fz_ 0)), (5, .int 3), (4, .int 2), (3, .int (fz_ 0)), (2, .int 2), (1, .int 0), (0, .ref mo)]) hx hb dX12_nextOrder_121 hl (by decide) rfl (fun ls hl => ?_)
                                refine lv_aload_n hx hb dX12_nextOrder_123 rfl (lv_at hl 6 rfl) ?_
                                refine va_get (D := (dC, dI)) (ci := 12) (v := .ref mz) (C := RX12) (T := TX12) (N := 24) hx hb hts iw_m_nextOrder_X12 hown hK hP 0 rfl rfl 13 (by decide) (hts (.fieldLink RX12 34 "ThriceCountedModel" "order" "[I") (by decide +kernel)) (fun _ h9 => h9) rfl dX12_nextOrder_124 ?_
                                refine lv_iload hx hb dX12_nextOrder_127 (lv_at hl 2 rfl) ?_
                                refine lv_aload_n hx hb dX12_nextOrder_129 rfl (lv_at hl 6 rfl) ?_
                                refine va_get (D := (dC, dI)) (ci := 12) (v := .ref mz) (C := RX12) (T := TX12) (N := 24) hx hb hts iw_m_nextOrder_X12 hown hK hP 0 rfl rfl 13 (by decide) (hts (.fieldLink RX12 34 "ThriceCountedModel" "order" "[I") (by decide +kernel)) (fun _ h9 => h9) rfl dX12_nextOrder_130 ?_
                                refine lv_iload hx hb dX12_nextOrder_133 (lv_at hl 1 rfl) ?_
                                refine va_iald hx hb hK hP 1 0 rfl rfl (show ¬ ((3 : Int32) < 0 ∨ 6 ≤ (3 : Int32).toNatClampNeg) by decide) dX12_nextOrder_135 ?_
                                refine tz_i (fz_ 3) rfl ?_
                                refine va_iast hx hb hK hP hD hS 1 0 rfl rfl (show ¬ ((2 : Int32) < 0 ∨ 6 ≤ (2 : Int32).toNatClampNeg) by decide) dX12_nextOrder_136 (fun H locs hP hD hS => ?_)
                                have hP : va_P (dC, dI) vwCl [(mo, .inr (12, [.ref nw, .ref kp, .ref ik, .ref mr, .long la_, .long lb_, .ref mw, .long lc_, .int ti_, .int cb_, .long ld_, .long le_, .ref mq, .ref mz, .ref my, .int 5, .ref mb, .int bl_, .int ta_, .int tl_, .int tk_, .int vl_, .ref mx, .ref mv])), (mz, .inl (cz_, 6, .inl (upd (upd (upd (upd (upd fz_ (Int32.toNatClampNeg 0) (fz_ 2)) (Int32.toNatClampNeg 2) (fz_ 0)) (Int32.toNatClampNeg 1) (fz_ 4)) (Int32.toNatClampNeg 4) (fz_ 1)) (Int32.toNatClampNeg 2) (fz_ 3))))] H := hP
                                have hD : va_D A [(mo, .inr (12, [.ref nw, .ref kp, .ref ik, .ref mr, .long la_, .long lb_, .ref mw, .long lc_, .int ti_, .int cb_, .long ld_, .long le_, .ref mq, .ref mz, .ref my, .int 5, .ref mb, .int bl_, .int ta_, .int tl_, .int tk_, .int vl_, .ref mx, .ref mv])), (mz, .inl (cz_, 6, .inl (upd (upd (upd (upd (upd fz_ (Int32.toNatClampNeg 0) (fz_ 2)) (Int32.toNatClampNeg 2) (fz_ 0)) (Int32.toNatClampNeg 1) (fz_ 4)) (Int32.toNatClampNeg 4) (fz_ 1)) (Int32.toNatClampNeg 2) (fz_ 3))))] := hD
                                refine lv_aload_n hx hb dX12_nextOrder_137 rfl (lv_at hl 6 rfl) ?_
                                refine va_get (D := (dC, dI)) (ci := 12) (v := .ref mz) (C := RX12) (T := TX12) (N := 24) hx hb hts iw_m_nextOrder_X12 hown hK hP 0 rfl rfl 13 (by decide) (hts (.fieldLink RX12 34 "ThriceCountedModel" "order" "[I") (by decide +kernel)) (fun _ h9 => h9) rfl dX12_nextOrder_138 ?_
                                refine lv_iload hx hb dX12_nextOrder_141 (lv_at hl 1 rfl) ?_
                                refine lv_iload hx hb dX12_nextOrder_143 (lv_at hl 0 rfl) ?_
                                refine va_iast hx hb hK hP hD hS 1 0 rfl rfl (show ¬ ((3 : Int32) < 0 ∨ 6 ≤ (3 : Int32).toNatClampNeg) by decide) dX12_nextOrder_145 (fun H locs hP hD hS => ?_)
                                have hP : va_P (dC, dI) vwCl [(mo, .inr (12, [.ref nw, .ref kp, .ref ik, .ref mr, .long la_, .long lb_, .ref mw, .long lc_, .int ti_, .int cb_, .long ld_, .long le_, .ref mq, .ref mz, .ref my, .int 5, .ref mb, .int bl_, .int ta_, .int tl_, .int tk_, .int vl_, .ref mx, .ref mv])), (mz, .inl (cz_, 6, .inl (upd (upd (upd (upd (upd (upd fz_ (Int32.toNatClampNeg 0) (fz_ 2)) (Int32.toNatClampNeg 2) (fz_ 0)) (Int32.toNatClampNeg 1) (fz_ 4)) (Int32.toNatClampNeg 4) (fz_ 1)) (Int32.toNatClampNeg 2) (fz_ 3)) (Int32.toNatClampNeg 3) (fz_ 0))))] H := hP
                                have hD : va_D A [(mo, .inr (12, [.ref nw, .ref kp, .ref ik, .ref mr, .long la_, .long lb_, .ref mw, .long lc_, .int ti_, .int cb_, .long ld_, .long le_, .ref mq, .ref mz, .ref my, .int 5, .ref mb, .int bl_, .int ta_, .int tl_, .int tk_, .int vl_, .ref mx, .ref mv])), (mz, .inl (cz_, 6, .inl (upd (upd (upd (upd (upd (upd fz_ (Int32.toNatClampNeg 0) (fz_ 2)) (Int32.toNatClampNeg 2) (fz_ 0)) (Int32.toNatClampNeg 1) (fz_ 4)) (Int32.toNatClampNeg 4) (fz_ 1)) (Int32.toNatClampNeg 2) (fz_ 3)) (Int32.toNatClampNeg 3) (fz_ 0))))] := hD
                                refine lv_iinc (v := 3) (lv' := [(4, .int 3), (6, .int (fz_ 0)), (5, .int 3), (3, .int (fz_ 0)), (2, .int 2), (1, .int 0), (0, .ref mo)]) hx hb dX12_nextOrder_146 hl (k := 2) rfl (by decide) (by decide) rfl (fun ls hl => ?_)
                                refine lv_iinc (v := 2) (lv' := [(5, .int 2), (4, .int 3), (6, .int (fz_ 0)), (3, .int (fz_ 0)), (2, .int 2), (1, .int 0), (0, .ref mo)]) hx hb dX12_nextOrder_149 hl (k := 2) rfl (by decide) (by decide) rfl (fun ls hl => ?_)
                                refine lv_goto (tgt := 107) hx hb dX12_nextOrder_152 (by decide) ?_
                                refine lv_iload hx hb dX12_nextOrder_107 (lv_at hl 1 rfl) ?_
                                refine lv_iload hx hb dX12_nextOrder_109 (lv_at hl 0 rfl) ?_
                                refine lv_icmp_ge (tgt := 155) hx hb dX12_nextOrder_111 (by decide) (fun c_317 => ?_) (fun c_317 => ?_)
                                · refine lv_iconst (v := 1) hx hb dX12_nextOrder_155 (by decide) ?_
                                  have hP9 := hP.sub (ws' := [(mo, .inr (12, [.ref nw, .ref kp, .ref ik, .ref mr, .long la_, .long lb_, .ref mw, .long lc_, .int ti_, .int cb_, .long ld_, .long le_, .ref mq, .ref mz, .ref my, .int (nI 5), .ref mb, .int bl_, .int ta_, .int tl_, .int tk_, .int vl_, .ref mx, .ref mv])), (mz, .inl (cz_, 6, .inl (upd (upd (upd (upd (upd (upd fz_ (Int32.toNatClampNeg 0) (fz_ 2)) (Int32.toNatClampNeg 2) (fz_ 0)) (Int32.toNatClampNeg 1) (fz_ 4)) (Int32.toNatClampNeg 4) (fz_ 1)) (Int32.toNatClampNeg 2) (fz_ 3)) (Int32.toNatClampNeg 3) (fz_ 0))))]) [0, 1] rfl
                                  have hD9 := hD.sub (ws' := [(mo, .inr (12, [.ref nw, .ref kp, .ref ik, .ref mr, .long la_, .long lb_, .ref mw, .long lc_, .int ti_, .int cb_, .long ld_, .long le_, .ref mq, .ref mz, .ref my, .int (nI 5), .ref mb, .int bl_, .int ta_, .int tl_, .int tk_, .int vl_, .ref mx, .ref mv])), (mz, .inl (cz_, 6, .inl (upd (upd (upd (upd (upd (upd fz_ (Int32.toNatClampNeg 0) (fz_ 2)) (Int32.toNatClampNeg 2) (fz_ 0)) (Int32.toNatClampNeg 1) (fz_ 4)) (Int32.toNatClampNeg 4) (fz_ 1)) (Int32.toNatClampNeg 2) (fz_ 3)) (Int32.toNatClampNeg 3) (fz_ 0))))]) [0, 1] (by decide) rfl
                                  have hK9 := hK.sub (tys' := [(cz_, .int)]) [0] rfl
                                  have hlt_318 : (fz_ 0).toInt < (fz_ 2).toInt := tz_ltt2 c_308 (hdi.2 0 2 (by omega) (by omega))
                                  have hb_319 := hdi.1 0 (by omega)
                                  have hb_320 := hdi.1 1 (by omega)
                                  have hb_321 := hdi.1 2 (by omega)
                                  have hb_322 := hdi.1 3 (by omega)
                                  have hb_323 := hdi.1 4 (by omega)
                                  have ev_324 : tz_val 5 fz_ = 7776 * (fz_ 0).toInt + 1296 * (fz_ 1).toInt + 216 * (fz_ 2).toInt + 36 * (fz_ 3).toInt + 6 * (fz_ 4).toInt + 0 := rfl
                                  have eg_325 : tz_val 5 (upd (upd (upd (upd (upd (upd fz_ (Int32.toNatClampNeg 0) (fz_ 2)) (Int32.toNatClampNeg 2) (fz_ 0)) (Int32.toNatClampNeg 1) (fz_ 4)) (Int32.toNatClampNeg 4) (fz_ 1)) (Int32.toNatClampNeg 2) (fz_ 3)) (Int32.toNatClampNeg 3) (fz_ 0)) = 7776 * (fz_ 2).toInt + 1296 * (fz_ 4).toInt + 216 * (fz_ 3).toInt + 36 * (fz_ 0).toInt + 6 * (fz_ 1).toInt + 0 := rfl
                                  have hp_326 : tz_Di 5 (upd (upd (upd (upd (upd (upd fz_ (Int32.toNatClampNeg 0) (fz_ 2)) (Int32.toNatClampNeg 2) (fz_ 0)) (Int32.toNatClampNeg 1) (fz_ 4)) (Int32.toNatClampNeg 4) (fz_ 1)) (Int32.toNatClampNeg 2) (fz_ 3)) (Int32.toNatClampNeg 3) (fz_ 0)) := hdi.perm (fun a => ([2, 4, 3, 0, 1] : List Nat).getD a 0) (fun a ha => by
                                    rcases (show a = 0 ∨ a = 1 ∨ a = 2 ∨ a = 3 ∨ a = 4 by omega) with rfl | rfl | rfl | rfl | rfl <;> exact ⟨by decide, rfl⟩) (by decide)
                                  exact W.zret (v := 1) hx hb hr (by decide) (fun t ht hW => ⟨⟨1, (), rfl, Or.inr ⟨rfl, 0, by omega, tz_nle_of c_268⟩, (upd (upd (upd (upd (upd (upd fz_ (Int32.toNatClampNeg 0) (fz_ 2)) (Int32.toNatClampNeg 2) (fz_ 0)) (Int32.toNatClampNeg 1) (fz_ 4)) (Int32.toNatClampNeg 4) (fz_ 1)) (Int32.toNatClampNeg 2) (fz_ 3)) (Int32.toNatClampNeg 3) (fz_ 0)), hp_326, by rw [ev_324, eg_325]; omega, fun _ => by rw [ev_324, eg_325]; omega, by rw [ht]; exact hP9, va_K.moved hW.alike hK9, hD9⟩, hS.F ht⟩) hS.2.2 dX12_nextOrder_156
                                · exact absurd c_317 (by decide)
                          · refine lv_iinc (v := 1) (lv' := [(2, .int 1), (1, .int 0), (0, .ref mo)]) hx hb dX12_nextOrder_62 hl (k := 0) rfl (by decide) (by decide) rfl (fun ls hl => ?_)
                            refine lv_goto (tgt := 47) hx hb dX12_nextOrder_65 (by decide) ?_
                            refine lv_aload_n hx hb dX12_nextOrder_47 rfl (lv_at hl 2 rfl) ?_
                            refine va_get (D := (dC, dI)) (ci := 12) (v := .ref mz) (C := RX12) (T := TX12) (N := 24) hx hb hts iw_m_nextOrder_X12 hown hK hP 0 rfl rfl 13 (by decide) (hts (.fieldLink RX12 34 "ThriceCountedModel" "order" "[I") (by decide +kernel)) (fun _ h9 => h9) rfl dX12_nextOrder_48 ?_
                            refine lv_iload_n hx hb dX12_nextOrder_51 rfl (lv_at hl 0 rfl) ?_
                            refine va_iald hx hb hK hP 1 0 rfl rfl (show ¬ ((1 : Int32) < 0 ∨ 6 ≤ (1 : Int32).toNatClampNeg) by decide) dX12_nextOrder_52 ?_
                            refine tz_i (fz_ 1) rfl ?_
                            refine lv_aload_n hx hb dX12_nextOrder_53 rfl (lv_at hl 2 rfl) ?_
                            refine va_get (D := (dC, dI)) (ci := 12) (v := .ref mz) (C := RX12) (T := TX12) (N := 24) hx hb hts iw_m_nextOrder_X12 hown hK hP 0 rfl rfl 13 (by decide) (hts (.fieldLink RX12 34 "ThriceCountedModel" "order" "[I") (by decide +kernel)) (fun _ h9 => h9) rfl dX12_nextOrder_54 ?_
                            refine lv_iload_n hx hb dX12_nextOrder_57 rfl (lv_at hl 1 rfl) ?_
                            refine va_iald hx hb hK hP 1 0 rfl rfl (show ¬ ((0 : Int32) < 0 ∨ 6 ≤ (0 : Int32).toNatClampNeg) by decide) dX12_nextOrder_58 ?_
                            refine tz_i (fz_ 0) rfl ?_
                            refine lv_icmp_ge (tgt := 68) hx hb dX12_nextOrder_59 (by decide) (fun c_327 => ?_) (fun c_327 => ?_)
                            · refine lv_aload_n hx hb dX12_nextOrder_68 rfl (lv_at hl 2 rfl) ?_
                              refine va_get (D := (dC, dI)) (ci := 12) (v := .ref mz) (C := RX12) (T := TX12) (N := 24) hx hb hts iw_m_nextOrder_X12 hown hK hP 0 rfl rfl 13 (by decide) (hts (.fieldLink RX12 34 "ThriceCountedModel" "order" "[I") (by decide +kernel)) (fun _ h9 => h9) rfl dX12_nextOrder_69 ?_
                              refine lv_iload_n hx hb dX12_nextOrder_72 rfl (lv_at hl 1 rfl) ?_
                              refine va_iald hx hb hK hP 1 0 rfl rfl (show ¬ ((0 : Int32) < 0 ∨ 6 ≤ (0 : Int32).toNatClampNeg) by decide) dX12_nextOrder_73 ?_
                              refine tz_i (fz_ 0) rfl ?_
                              refine lv_istore_n (lv' := [(3, .int (fz_ 0)), (2, .int 1), (1, .int 0), (0, .ref mo)]) hx hb dX12_nextOrder_74 rfl hl (by decide) rfl (fun ls hl => ?_)
                              refine lv_aload_n hx hb dX12_nextOrder_75 rfl (lv_at hl 3 rfl) ?_
                              refine va_get (D := (dC, dI)) (ci := 12) (v := .ref mz) (C := RX12) (T := TX12) (N := 24) hx hb hts iw_m_nextOrder_X12 hown hK hP 0 rfl rfl 13 (by decide) (hts (.fieldLink RX12 34 "ThriceCountedModel" "order" "[I") (by decide +kernel)) (fun _ h9 => h9) rfl dX12_nextOrder_76 ?_
                              refine lv_iload_n hx hb dX12_nextOrder_79 rfl (lv_at hl 2 rfl) ?_
                              refine lv_aload_n hx hb dX12_nextOrder_80 rfl (lv_at hl 3 rfl) ?_
                              refine va_get (D := (dC, dI)) (ci := 12) (v := .ref mz) (C := RX12) (T := TX12) (N := 24) hx hb hts iw_m_nextOrder_X12 hown hK hP 0 rfl rfl 13 (by decide) (hts (.fieldLink RX12 34 "ThriceCountedModel" "order" "[I") (by decide +kernel)) (fun _ h9 => h9) rfl dX12_nextOrder_81 ?_
                              refine lv_iload_n hx hb dX12_nextOrder_84 rfl (lv_at hl 1 rfl) ?_
                              refine va_iald hx hb hK hP 1 0 rfl rfl (show ¬ ((1 : Int32) < 0 ∨ 6 ≤ (1 : Int32).toNatClampNeg) by decide) dX12_nextOrder_85 ?_
                              refine tz_i (fz_ 1) rfl ?_
                              refine va_iast hx hb hK hP hD hS 1 0 rfl rfl (show ¬ ((0 : Int32) < 0 ∨ 6 ≤ (0 : Int32).toNatClampNeg) by decide) dX12_nextOrder_86 (fun H locs hP hD hS => ?_)
                              have hP : va_P (dC, dI) vwCl [(mo, .inr (12, [.ref nw, .ref kp, .ref ik, .ref mr, .long la_, .long lb_, .ref mw, .long lc_, .int ti_, .int cb_, .long ld_, .long le_, .ref mq, .ref mz, .ref my, .int 5, .ref mb, .int bl_, .int ta_, .int tl_, .int tk_, .int vl_, .ref mx, .ref mv])), (mz, .inl (cz_, 6, .inl (upd fz_ (Int32.toNatClampNeg 0) (fz_ 1))))] H := hP
                              have hD : va_D A [(mo, .inr (12, [.ref nw, .ref kp, .ref ik, .ref mr, .long la_, .long lb_, .ref mw, .long lc_, .int ti_, .int cb_, .long ld_, .long le_, .ref mq, .ref mz, .ref my, .int 5, .ref mb, .int bl_, .int ta_, .int tl_, .int tk_, .int vl_, .ref mx, .ref mv])), (mz, .inl (cz_, 6, .inl (upd fz_ (Int32.toNatClampNeg 0) (fz_ 1))))] := hD
                              refine lv_aload_n hx hb dX12_nextOrder_87 rfl (lv_at hl 3 rfl) ?_
                              refine va_get (D := (dC, dI)) (ci := 12) (v := .ref mz) (C := RX12) (T := TX12) (N := 24) hx hb hts iw_m_nextOrder_X12 hown hK hP 0 rfl rfl 13 (by decide) (hts (.fieldLink RX12 34 "ThriceCountedModel" "order" "[I") (by decide +kernel)) (fun _ h9 => h9) rfl dX12_nextOrder_88 ?_
                              refine lv_iload_n hx hb dX12_nextOrder_91 rfl (lv_at hl 1 rfl) ?_
                              refine lv_iload_n hx hb dX12_nextOrder_92 rfl (lv_at hl 0 rfl) ?_
                              refine va_iast hx hb hK hP hD hS 1 0 rfl rfl (show ¬ ((1 : Int32) < 0 ∨ 6 ≤ (1 : Int32).toNatClampNeg) by decide) dX12_nextOrder_93 (fun H locs hP hD hS => ?_)
                              have hP : va_P (dC, dI) vwCl [(mo, .inr (12, [.ref nw, .ref kp, .ref ik, .ref mr, .long la_, .long lb_, .ref mw, .long lc_, .int ti_, .int cb_, .long ld_, .long le_, .ref mq, .ref mz, .ref my, .int 5, .ref mb, .int bl_, .int ta_, .int tl_, .int tk_, .int vl_, .ref mx, .ref mv])), (mz, .inl (cz_, 6, .inl (upd (upd fz_ (Int32.toNatClampNeg 0) (fz_ 1)) (Int32.toNatClampNeg 1) (fz_ 0))))] H := hP
                              have hD : va_D A [(mo, .inr (12, [.ref nw, .ref kp, .ref ik, .ref mr, .long la_, .long lb_, .ref mw, .long lc_, .int ti_, .int cb_, .long ld_, .long le_, .ref mq, .ref mz, .ref my, .int 5, .ref mb, .int bl_, .int ta_, .int tl_, .int tk_, .int vl_, .ref mx, .ref mv])), (mz, .inl (cz_, 6, .inl (upd (upd fz_ (Int32.toNatClampNeg 0) (fz_ 1)) (Int32.toNatClampNeg 1) (fz_ 0))))] := hD
                              refine lv_iload_n hx hb dX12_nextOrder_94 rfl (lv_at hl 2 rfl) ?_
                              refine lv_iconst (v := 1) hx hb dX12_nextOrder_95 (by decide) ?_
                              refine lv_iadd hx hb dX12_nextOrder_96 ?_
                              refine tz_i 1 (by decide) ?_
                              refine lv_istore (lv' := [(4, .int 1), (3, .int (fz_ 0)), (2, .int 1), (1, .int 0), (0, .ref mo)]) hx hb dX12_nextOrder_97 hl (by decide) rfl (fun ls hl => ?_)
                              refine lv_aload_n hx hb dX12_nextOrder_99 rfl (lv_at hl 4 rfl) ?_
                              refine va_get (D := (dC, dI)) (ci := 12) (v := .int 5) (C := RX12) (T := TX12) (N := 24) hx hb hts iw_m_nextOrder_X12 hown hK hP 0 rfl rfl 15 (by decide) (hts (.fieldLink RX12 218 "ThriceCountedModel" "soughtMany" "I") (by decide +kernel)) (fun _ h9 => h9) rfl dX12_nextOrder_100 ?_
                              refine lv_iconst (v := 1) hx hb dX12_nextOrder_103 (by decide) ?_
                              refine lv_isub hx hb dX12_nextOrder_104 ?_
                              refine tz_i 4 (by decide) ?_
                              refine lv_istore (lv' := [(5, .int 4), (4, .int 1), (3, .int (fz_ 0)), (2, .int 1), (1, .int 0), (0, .ref mo)]) hx hb dX12_nextOrder_105 hl (by decide) rfl (fun ls hl => ?_)
                              refine lv_iload hx hb dX12_nextOrder_107 (lv_at hl 1 rfl) ?_
                              refine lv_iload hx hb dX12_nextOrder_109 (lv_at hl 0 rfl) ?_
                              refine lv_icmp_ge (tgt := 155) hx hb dX12_nextOrder_111 (by decide) (fun c_330 => ?_) (fun c_330 => ?_)
                              · exact absurd c_330 (by decide)
                              · refine lv_aload_n hx hb dX12_nextOrder_114 rfl (lv_at hl 5 rfl) ?_
                                refine va_get (D := (dC, dI)) (ci := 12) (v := .ref mz) (C := RX12) (T := TX12) (N := 24) hx hb hts iw_m_nextOrder_X12 hown hK hP 0 rfl rfl 13 (by decide) (hts (.fieldLink RX12 34 "ThriceCountedModel" "order" "[I") (by decide +kernel)) (fun _ h9 => h9) rfl dX12_nextOrder_115 ?_
                                refine lv_iload hx hb dX12_nextOrder_118 (lv_at hl 1 rfl) ?_
                                refine va_iald hx hb hK hP 1 0 rfl rfl (show ¬ ((1 : Int32) < 0 ∨ 6 ≤ (1 : Int32).toNatClampNeg) by decide) dX12_nextOrder_120 ?_
                                refine tz_i (fz_ 0) rfl ?_
                                refine lv_istore (lv' := [(6, .int (fz_ 0)), (5, .int 4), (4, .int 1), (3, .int (fz_ 0)), (2, .int 1), (1, .int 0), (0, .ref mo)]) hx hb dX12_nextOrder_121 hl (by decide) rfl (fun ls hl => ?_)
                                refine lv_aload_n hx hb dX12_nextOrder_123 rfl (lv_at hl 6 rfl) ?_
                                refine va_get (D := (dC, dI)) (ci := 12) (v := .ref mz) (C := RX12) (T := TX12) (N := 24) hx hb hts iw_m_nextOrder_X12 hown hK hP 0 rfl rfl 13 (by decide) (hts (.fieldLink RX12 34 "ThriceCountedModel" "order" "[I") (by decide +kernel)) (fun _ h9 => h9) rfl dX12_nextOrder_124 ?_
                                refine lv_iload hx hb dX12_nextOrder_127 (lv_at hl 2 rfl) ?_
                                refine lv_aload_n hx hb dX12_nextOrder_129 rfl (lv_at hl 6 rfl) ?_
                                refine va_get (D := (dC, dI)) (ci := 12) (v := .ref mz) (C := RX12) (T := TX12) (N := 24) hx hb hts iw_m_nextOrder_X12 hown hK hP 0 rfl rfl 13 (by decide) (hts (.fieldLink RX12 34 "ThriceCountedModel" "order" "[I") (by decide +kernel)) (fun _ h9 => h9) rfl dX12_nextOrder_130 ?_
                                refine lv_iload hx hb dX12_nextOrder_133 (lv_at hl 1 rfl) ?_
                                refine va_iald hx hb hK hP 1 0 rfl rfl (show ¬ ((4 : Int32) < 0 ∨ 6 ≤ (4 : Int32).toNatClampNeg) by decide) dX12_nextOrder_135 ?_
                                refine tz_i (fz_ 4) rfl ?_
                                refine va_iast hx hb hK hP hD hS 1 0 rfl rfl (show ¬ ((1 : Int32) < 0 ∨ 6 ≤ (1 : Int32).toNatClampNeg) by decide) dX12_nextOrder_136 (fun H locs hP hD hS => ?_)
                                have hP : va_P (dC, dI) vwCl [(mo, .inr (12, [.ref nw, .ref kp, .ref ik, .ref mr, .long la_, .long lb_, .ref mw, .long lc_, .int ti_, .int cb_, .long ld_, .long le_, .ref mq, .ref mz, .ref my, .int 5, .ref mb, .int bl_, .int ta_, .int tl_, .int tk_, .int vl_, .ref mx, .ref mv])), (mz, .inl (cz_, 6, .inl (upd (upd (upd fz_ (Int32.toNatClampNeg 0) (fz_ 1)) (Int32.toNatClampNeg 1) (fz_ 0)) (Int32.toNatClampNeg 1) (fz_ 4))))] H := hP
                                have hD : va_D A [(mo, .inr (12, [.ref nw, .ref kp, .ref ik, .ref mr, .long la_, .long lb_, .ref mw, .long lc_, .int ti_, .int cb_, .long ld_, .long le_, .ref mq, .ref mz, .ref my, .int 5, .ref mb, .int bl_, .int ta_, .int tl_, .int tk_, .int vl_, .ref mx, .ref mv])), (mz, .inl (cz_, 6, .inl (upd (upd (upd fz_ (Int32.toNatClampNeg 0) (fz_ 1)) (Int32.toNatClampNeg 1) (fz_ 0)) (Int32.toNatClampNeg 1) (fz_ 4))))] := hD
                                refine lv_aload_n hx hb dX12_nextOrder_137 rfl (lv_at hl 6 rfl) ?_
                                refine va_get (D := (dC, dI)) (ci := 12) (v := .ref mz) (C := RX12) (T := TX12) (N := 24) hx hb hts iw_m_nextOrder_X12 hown hK hP 0 rfl rfl 13 (by decide) (hts (.fieldLink RX12 34 "ThriceCountedModel" "order" "[I") (by decide +kernel)) (fun _ h9 => h9) rfl dX12_nextOrder_138 ?_
                                refine lv_iload hx hb dX12_nextOrder_141 (lv_at hl 1 rfl) ?_
                                refine lv_iload hx hb dX12_nextOrder_143 (lv_at hl 0 rfl) ?_
                                refine va_iast hx hb hK hP hD hS 1 0 rfl rfl (show ¬ ((4 : Int32) < 0 ∨ 6 ≤ (4 : Int32).toNatClampNeg) by decide) dX12_nextOrder_145 (fun H locs hP hD hS => ?_)
                                have hP : va_P (dC, dI) vwCl [(mo, .inr (12, [.ref nw, .ref kp, .ref ik, .ref mr, .long la_, .long lb_, .ref mw, .long lc_, .int ti_, .int cb_, .long ld_, .long le_, .ref mq, .ref mz, .ref my, .int 5, .ref mb, .int bl_, .int ta_, .int tl_, .int tk_, .int vl_, .ref mx, .ref mv])), (mz, .inl (cz_, 6, .inl (upd (upd (upd (upd fz_ (Int32.toNatClampNeg 0) (fz_ 1)) (Int32.toNatClampNeg 1) (fz_ 0)) (Int32.toNatClampNeg 1) (fz_ 4)) (Int32.toNatClampNeg 4) (fz_ 0))))] H := hP
                                have hD : va_D A [(mo, .inr (12, [.ref nw, .ref kp, .ref ik, .ref mr, .long la_, .long lb_, .ref mw, .long lc_, .int ti_, .int cb_, .long ld_, .long le_, .ref mq, .ref mz, .ref my, .int 5, .ref mb, .int bl_, .int ta_, .int tl_, .int tk_, .int vl_, .ref mx, .ref mv])), (mz, .inl (cz_, 6, .inl (upd (upd (upd (upd fz_ (Int32.toNatClampNeg 0) (fz_ 1)) (Int32.toNatClampNeg 1) (fz_ 0)) (Int32.toNatClampNeg 1) (fz_ 4)) (Int32.toNatClampNeg 4) (fz_ 0))))] := hD
                                refine lv_iinc (v := 2) (lv' := [(4, .int 2), (6, .int (fz_ 0)), (5, .int 4), (3, .int (fz_ 0)), (2, .int 1), (1, .int 0), (0, .ref mo)]) hx hb dX12_nextOrder_146 hl (k := 2) rfl (by decide) (by decide) rfl (fun ls hl => ?_)
                                refine lv_iinc (v := 3) (lv' := [(5, .int 3), (4, .int 2), (6, .int (fz_ 0)), (3, .int (fz_ 0)), (2, .int 1), (1, .int 0), (0, .ref mo)]) hx hb dX12_nextOrder_149 hl (k := 2) rfl (by decide) (by decide) rfl (fun ls hl => ?_)
                                refine lv_goto (tgt := 107) hx hb dX12_nextOrder_152 (by decide) ?_
                                refine lv_iload hx hb dX12_nextOrder_107 (lv_at hl 1 rfl) ?_
                                refine lv_iload hx hb dX12_nextOrder_109 (lv_at hl 0 rfl) ?_
                                refine lv_icmp_ge (tgt := 155) hx hb dX12_nextOrder_111 (by decide) (fun c_333 => ?_) (fun c_333 => ?_)
                                · exact absurd c_333 (by decide)
                                · refine lv_aload_n hx hb dX12_nextOrder_114 rfl (lv_at hl 6 rfl) ?_
                                  refine va_get (D := (dC, dI)) (ci := 12) (v := .ref mz) (C := RX12) (T := TX12) (N := 24) hx hb hts iw_m_nextOrder_X12 hown hK hP 0 rfl rfl 13 (by decide) (hts (.fieldLink RX12 34 "ThriceCountedModel" "order" "[I") (by decide +kernel)) (fun _ h9 => h9) rfl dX12_nextOrder_115 ?_
                                  refine lv_iload hx hb dX12_nextOrder_118 (lv_at hl 1 rfl) ?_
                                  refine va_iald hx hb hK hP 1 0 rfl rfl (show ¬ ((2 : Int32) < 0 ∨ 6 ≤ (2 : Int32).toNatClampNeg) by decide) dX12_nextOrder_120 ?_
                                  refine tz_i (fz_ 2) rfl ?_
                                  refine lv_istore (lv' := [(6, .int (fz_ 2)), (5, .int 3), (4, .int 2), (3, .int (fz_ 0)), (2, .int 1), (1, .int 0), (0, .ref mo)]) hx hb dX12_nextOrder_121 hl (by decide) rfl (fun ls hl => ?_)
                                  refine lv_aload_n hx hb dX12_nextOrder_123 rfl (lv_at hl 6 rfl) ?_
                                  refine va_get (D := (dC, dI)) (ci := 12) (v := .ref mz) (C := RX12) (T := TX12) (N := 24) hx hb hts iw_m_nextOrder_X12 hown hK hP 0 rfl rfl 13 (by decide) (hts (.fieldLink RX12 34 "ThriceCountedModel" "order" "[I") (by decide +kernel)) (fun _ h9 => h9) rfl dX12_nextOrder_124 ?_
                                  refine lv_iload hx hb dX12_nextOrder_127 (lv_at hl 2 rfl) ?_
                                  refine lv_aload_n hx hb dX12_nextOrder_129 rfl (lv_at hl 6 rfl) ?_
                                  refine va_get (D := (dC, dI)) (ci := 12) (v := .ref mz) (C := RX12) (T := TX12) (N := 24) hx hb hts iw_m_nextOrder_X12 hown hK hP 0 rfl rfl 13 (by decide) (hts (.fieldLink RX12 34 "ThriceCountedModel" "order" "[I") (by decide +kernel)) (fun _ h9 => h9) rfl dX12_nextOrder_130 ?_
                                  refine lv_iload hx hb dX12_nextOrder_133 (lv_at hl 1 rfl) ?_
                                  refine va_iald hx hb hK hP 1 0 rfl rfl (show ¬ ((3 : Int32) < 0 ∨ 6 ≤ (3 : Int32).toNatClampNeg) by decide) dX12_nextOrder_135 ?_
                                  refine tz_i (fz_ 3) rfl ?_
                                  refine va_iast hx hb hK hP hD hS 1 0 rfl rfl (show ¬ ((2 : Int32) < 0 ∨ 6 ≤ (2 : Int32).toNatClampNeg) by decide) dX12_nextOrder_136 (fun H locs hP hD hS => ?_)
                                  have hP : va_P (dC, dI) vwCl [(mo, .inr (12, [.ref nw, .ref kp, .ref ik, .ref mr, .long la_, .long lb_, .ref mw, .long lc_, .int ti_, .int cb_, .long ld_, .long le_, .ref mq, .ref mz, .ref my, .int 5, .ref mb, .int bl_, .int ta_, .int tl_, .int tk_, .int vl_, .ref mx, .ref mv])), (mz, .inl (cz_, 6, .inl (upd (upd (upd (upd (upd fz_ (Int32.toNatClampNeg 0) (fz_ 1)) (Int32.toNatClampNeg 1) (fz_ 0)) (Int32.toNatClampNeg 1) (fz_ 4)) (Int32.toNatClampNeg 4) (fz_ 0)) (Int32.toNatClampNeg 2) (fz_ 3))))] H := hP
                                  have hD : va_D A [(mo, .inr (12, [.ref nw, .ref kp, .ref ik, .ref mr, .long la_, .long lb_, .ref mw, .long lc_, .int ti_, .int cb_, .long ld_, .long le_, .ref mq, .ref mz, .ref my, .int 5, .ref mb, .int bl_, .int ta_, .int tl_, .int tk_, .int vl_, .ref mx, .ref mv])), (mz, .inl (cz_, 6, .inl (upd (upd (upd (upd (upd fz_ (Int32.toNatClampNeg 0) (fz_ 1)) (Int32.toNatClampNeg 1) (fz_ 0)) (Int32.toNatClampNeg 1) (fz_ 4)) (Int32.toNatClampNeg 4) (fz_ 0)) (Int32.toNatClampNeg 2) (fz_ 3))))] := hD
                                  refine lv_aload_n hx hb dX12_nextOrder_137 rfl (lv_at hl 6 rfl) ?_
                                  refine va_get (D := (dC, dI)) (ci := 12) (v := .ref mz) (C := RX12) (T := TX12) (N := 24) hx hb hts iw_m_nextOrder_X12 hown hK hP 0 rfl rfl 13 (by decide) (hts (.fieldLink RX12 34 "ThriceCountedModel" "order" "[I") (by decide +kernel)) (fun _ h9 => h9) rfl dX12_nextOrder_138 ?_
                                  refine lv_iload hx hb dX12_nextOrder_141 (lv_at hl 1 rfl) ?_
                                  refine lv_iload hx hb dX12_nextOrder_143 (lv_at hl 0 rfl) ?_
                                  refine va_iast hx hb hK hP hD hS 1 0 rfl rfl (show ¬ ((3 : Int32) < 0 ∨ 6 ≤ (3 : Int32).toNatClampNeg) by decide) dX12_nextOrder_145 (fun H locs hP hD hS => ?_)
                                  have hP : va_P (dC, dI) vwCl [(mo, .inr (12, [.ref nw, .ref kp, .ref ik, .ref mr, .long la_, .long lb_, .ref mw, .long lc_, .int ti_, .int cb_, .long ld_, .long le_, .ref mq, .ref mz, .ref my, .int 5, .ref mb, .int bl_, .int ta_, .int tl_, .int tk_, .int vl_, .ref mx, .ref mv])), (mz, .inl (cz_, 6, .inl (upd (upd (upd (upd (upd (upd fz_ (Int32.toNatClampNeg 0) (fz_ 1)) (Int32.toNatClampNeg 1) (fz_ 0)) (Int32.toNatClampNeg 1) (fz_ 4)) (Int32.toNatClampNeg 4) (fz_ 0)) (Int32.toNatClampNeg 2) (fz_ 3)) (Int32.toNatClampNeg 3) (fz_ 2))))] H := hP
                                  have hD : va_D A [(mo, .inr (12, [.ref nw, .ref kp, .ref ik, .ref mr, .long la_, .long lb_, .ref mw, .long lc_, .int ti_, .int cb_, .long ld_, .long le_, .ref mq, .ref mz, .ref my, .int 5, .ref mb, .int bl_, .int ta_, .int tl_, .int tk_, .int vl_, .ref mx, .ref mv])), (mz, .inl (cz_, 6, .inl (upd (upd (upd (upd (upd (upd fz_ (Int32.toNatClampNeg 0) (fz_ 1)) (Int32.toNatClampNeg 1) (fz_ 0)) (Int32.toNatClampNeg 1) (fz_ 4)) (Int32.toNatClampNeg 4) (fz_ 0)) (Int32.toNatClampNeg 2) (fz_ 3)) (Int32.toNatClampNeg 3) (fz_ 2))))] := hD
                                  refine lv_iinc (v := 3) (lv' := [(4, .int 3), (6, .int (fz_ 2)), (5, .int 3), (3, .int (fz_ 0)), (2, .int 1), (1, .int 0), (0, .ref mo)]) hx hb dX12_nextOrder_146 hl (k := 2) rfl (by decide) (by decide) rfl (fun ls hl => ?_)
                                  refine lv_iinc (v := 2) (lv' := [(5, .int 2), (4, .int 3), (6, .int (fz_ 2)), (3, .int (fz_ 0)), (2, .int 1), (1, .int 0), (0, .ref mo)]) hx hb dX12_nextOrder_149 hl (k := 2) rfl (by decide) (by decide) rfl (fun ls hl => ?_)
                                  refine lv_goto (tgt := 107) hx hb dX12_nextOrder_152 (by decide) ?_
                                  refine lv_iload hx hb dX12_nextOrder_107 (lv_at hl 1 rfl) ?_
                                  refine lv_iload hx hb dX12_nextOrder_109 (lv_at hl 0 rfl) ?_
                                  refine lv_icmp_ge (tgt := 155) hx hb dX12_nextOrder_111 (by decide) (fun c_336 => ?_) (fun c_336 => ?_)
                                  · refine lv_iconst (v := 1) hx hb dX12_nextOrder_155 (by decide) ?_
                                    have hP9 := hP.sub (ws' := [(mo, .inr (12, [.ref nw, .ref kp, .ref ik, .ref mr, .long la_, .long lb_, .ref mw, .long lc_, .int ti_, .int cb_, .long ld_, .long le_, .ref mq, .ref mz, .ref my, .int (nI 5), .ref mb, .int bl_, .int ta_, .int tl_, .int tk_, .int vl_, .ref mx, .ref mv])), (mz, .inl (cz_, 6, .inl (upd (upd (upd (upd (upd (upd fz_ (Int32.toNatClampNeg 0) (fz_ 1)) (Int32.toNatClampNeg 1) (fz_ 0)) (Int32.toNatClampNeg 1) (fz_ 4)) (Int32.toNatClampNeg 4) (fz_ 0)) (Int32.toNatClampNeg 2) (fz_ 3)) (Int32.toNatClampNeg 3) (fz_ 2))))]) [0, 1] rfl
                                    have hD9 := hD.sub (ws' := [(mo, .inr (12, [.ref nw, .ref kp, .ref ik, .ref mr, .long la_, .long lb_, .ref mw, .long lc_, .int ti_, .int cb_, .long ld_, .long le_, .ref mq, .ref mz, .ref my, .int (nI 5), .ref mb, .int bl_, .int ta_, .int tl_, .int tk_, .int vl_, .ref mx, .ref mv])), (mz, .inl (cz_, 6, .inl (upd (upd (upd (upd (upd (upd fz_ (Int32.toNatClampNeg 0) (fz_ 1)) (Int32.toNatClampNeg 1) (fz_ 0)) (Int32.toNatClampNeg 1) (fz_ 4)) (Int32.toNatClampNeg 4) (fz_ 0)) (Int32.toNatClampNeg 2) (fz_ 3)) (Int32.toNatClampNeg 3) (fz_ 2))))]) [0, 1] (by decide) rfl
                                    have hK9 := hK.sub (tys' := [(cz_, .int)]) [0] rfl
                                    have hlt_337 : (fz_ 0).toInt < (fz_ 1).toInt := tz_ltt2 c_327 (hdi.2 0 1 (by omega) (by omega))
                                    have hb_338 := hdi.1 0 (by omega)
                                    have hb_339 := hdi.1 1 (by omega)
                                    have hb_340 := hdi.1 2 (by omega)
                                    have hb_341 := hdi.1 3 (by omega)
                                    have hb_342 := hdi.1 4 (by omega)
                                    have ev_343 : tz_val 5 fz_ = 7776 * (fz_ 0).toInt + 1296 * (fz_ 1).toInt + 216 * (fz_ 2).toInt + 36 * (fz_ 3).toInt + 6 * (fz_ 4).toInt + 0 := rfl
                                    have eg_344 : tz_val 5 (upd (upd (upd (upd (upd (upd fz_ (Int32.toNatClampNeg 0) (fz_ 1)) (Int32.toNatClampNeg 1) (fz_ 0)) (Int32.toNatClampNeg 1) (fz_ 4)) (Int32.toNatClampNeg 4) (fz_ 0)) (Int32.toNatClampNeg 2) (fz_ 3)) (Int32.toNatClampNeg 3) (fz_ 2)) = 7776 * (fz_ 1).toInt + 1296 * (fz_ 4).toInt + 216 * (fz_ 3).toInt + 36 * (fz_ 2).toInt + 6 * (fz_ 0).toInt + 0 := rfl
                                    have hp_345 : tz_Di 5 (upd (upd (upd (upd (upd (upd fz_ (Int32.toNatClampNeg 0) (fz_ 1)) (Int32.toNatClampNeg 1) (fz_ 0)) (Int32.toNatClampNeg 1) (fz_ 4)) (Int32.toNatClampNeg 4) (fz_ 0)) (Int32.toNatClampNeg 2) (fz_ 3)) (Int32.toNatClampNeg 3) (fz_ 2)) := hdi.perm (fun a => ([1, 4, 3, 2, 0] : List Nat).getD a 0) (fun a ha => by
                                      rcases (show a = 0 ∨ a = 1 ∨ a = 2 ∨ a = 3 ∨ a = 4 by omega) with rfl | rfl | rfl | rfl | rfl <;> exact ⟨by decide, rfl⟩) (by decide)
                                    exact W.zret (v := 1) hx hb hr (by decide) (fun t ht hW => ⟨⟨1, (), rfl, Or.inr ⟨rfl, 0, by omega, tz_nle_of c_327⟩, (upd (upd (upd (upd (upd (upd fz_ (Int32.toNatClampNeg 0) (fz_ 1)) (Int32.toNatClampNeg 1) (fz_ 0)) (Int32.toNatClampNeg 1) (fz_ 4)) (Int32.toNatClampNeg 4) (fz_ 0)) (Int32.toNatClampNeg 2) (fz_ 3)) (Int32.toNatClampNeg 3) (fz_ 2)), hp_345, by rw [ev_343, eg_344]; omega, fun _ => by rw [ev_343, eg_344]; omega, by rw [ht]; exact hP9, va_K.moved hW.alike hK9, hD9⟩, hS.F ht⟩) hS.2.2 dX12_nextOrder_156
                                  · exact absurd c_336 (by decide)
                            · exact absurd c_268 c_327
                    · exact absurd c_269 (by decide)
                  · refine lv_iinc (v := (-1)) (lv' := [(1, .int (-1)), (0, .ref mo)]) hx hb dX12_nextOrder_28 hl (k := 0) rfl (by decide) (by decide) rfl (fun ls hl => ?_)
                    refine lv_goto (tgt := 7) hx hb dX12_nextOrder_31 (by decide) ?_
                    refine lv_iload_n hx hb dX12_nextOrder_7 rfl (lv_at hl 0 rfl) ?_
                    refine lv_if_lt (tgt := 34) hx hb dX12_nextOrder_8 (by decide) (fun c_346 => ?_) (fun c_346 => ?_)
                    · refine lv_iload_n hx hb dX12_nextOrder_34 rfl (lv_at hl 0 rfl) ?_
                      refine lv_if_ge (tgt := 40) hx hb dX12_nextOrder_35 (by decide) (fun c_347 => ?_) (fun c_347 => ?_)
                      · exact absurd c_347 (by decide)
                      · refine lv_iconst (v := 0) hx hb dX12_nextOrder_38 (by decide) ?_
                        have hP9 := hP.sub (ws' := [(mo, .inr (12, [.ref nw, .ref kp, .ref ik, .ref mr, .long la_, .long lb_, .ref mw, .long lc_, .int ti_, .int cb_, .long ld_, .long le_, .ref mq, .ref mz, .ref my, .int (nI 5), .ref mb, .int bl_, .int ta_, .int tl_, .int tk_, .int vl_, .ref mx, .ref mv])), (mz, .inl (cz_, 6, .inl fz_))]) [0, 1] rfl
                        have hD9 := hD.sub (ws' := [(mo, .inr (12, [.ref nw, .ref kp, .ref ik, .ref mr, .long la_, .long lb_, .ref mw, .long lc_, .int ti_, .int cb_, .long ld_, .long le_, .ref mq, .ref mz, .ref my, .int (nI 5), .ref mb, .int bl_, .int ta_, .int tl_, .int tk_, .int vl_, .ref mx, .ref mv])), (mz, .inl (cz_, 6, .inl fz_))]) [0, 1] (by decide) rfl
                        have hK9 := hK.sub (tys' := [(cz_, .int)]) [0] rfl
                        exact W.zret (v := 0) hx hb hr (by decide) (fun t ht hW => ⟨⟨0, (), rfl, Or.inl rfl, fz_, hdi, Int.le_refl _, fun ⟨k, hk, hle⟩ => by
                            rcases (show k = 0 ∨ k = 1 ∨ k = 2 ∨ k = 3 by omega) with rfl | rfl | rfl | rfl
                            · exact (hle (tz_gt_of c_268)).elim
                            · exact (hle (tz_gt_of c_217)).elim
                            · exact (hle (tz_gt_of c_182)).elim
                            · exact (hle (tz_gt_of c_166)).elim, by rw [ht]; exact hP9, va_K.moved hW.alike hK9, hD9⟩, hS.F ht⟩) hS.2.2 dX12_nextOrder_39
                    · exact absurd c_346 (by decide)
  · have hP : va_P (dC, dI) vwCl [(mo, .inr (12, [.ref nw, .ref kp, .ref ik, .ref mr, .long la_, .long lb_, .ref mw, .long lc_, .int ti_, .int cb_, .long ld_, .long le_, .ref mq, .ref mz, .ref my, .int 6, .ref mb, .int bl_, .int ta_, .int tl_, .int tk_, .int vl_, .ref mx, .ref mv])), (mz, .inl (cz_, 6, .inl fz_))] s.heap := hP
    have hD : va_D A [(mo, .inr (12, [.ref nw, .ref kp, .ref ik, .ref mr, .long la_, .long lb_, .ref mw, .long lc_, .int ti_, .int cb_, .long ld_, .long le_, .ref mq, .ref mz, .ref my, .int 6, .ref mb, .int bl_, .int ta_, .int tl_, .int tk_, .int vl_, .ref mx, .ref mv])), (mz, .inl (cz_, 6, .inl fz_))] := hD
    refine lv_aload_n hx hb dX12_nextOrder_0 rfl (lv_at hl 0 rfl) ?_
    refine va_get (D := (dC, dI)) (ci := 12) (v := .int 6) (C := RX12) (T := TX12) (N := 24) hx hb hts iw_m_nextOrder_X12 hown hK hP 0 rfl rfl 15 (by decide) (hts (.fieldLink RX12 218 "ThriceCountedModel" "soughtMany" "I") (by decide +kernel)) (fun _ h9 => h9) rfl dX12_nextOrder_1 ?_
    refine lv_iconst (v := 2) hx hb dX12_nextOrder_4 (by decide) ?_
    refine lv_isub hx hb dX12_nextOrder_5 ?_
    refine tz_i 4 (by decide) ?_
    refine lv_istore_n (lv' := [(1, .int 4), (0, .ref mo)]) hx hb dX12_nextOrder_6 rfl hl (by decide) rfl (fun ls hl => ?_)
    refine lv_iload_n hx hb dX12_nextOrder_7 rfl (lv_at hl 0 rfl) ?_
    refine lv_if_lt (tgt := 34) hx hb dX12_nextOrder_8 (by decide) (fun c_348 => ?_) (fun c_348 => ?_)
    · exact absurd c_348 (by decide)
    · refine lv_aload_n hx hb dX12_nextOrder_11 rfl (lv_at hl 1 rfl) ?_
      refine va_get (D := (dC, dI)) (ci := 12) (v := .ref mz) (C := RX12) (T := TX12) (N := 24) hx hb hts iw_m_nextOrder_X12 hown hK hP 0 rfl rfl 13 (by decide) (hts (.fieldLink RX12 34 "ThriceCountedModel" "order" "[I") (by decide +kernel)) (fun _ h9 => h9) rfl dX12_nextOrder_12 ?_
      refine lv_iload_n hx hb dX12_nextOrder_15 rfl (lv_at hl 0 rfl) ?_
      refine va_iald hx hb hK hP 1 0 rfl rfl (show ¬ ((4 : Int32) < 0 ∨ 6 ≤ (4 : Int32).toNatClampNeg) by decide) dX12_nextOrder_16 ?_
      refine tz_i (fz_ 4) rfl ?_
      refine lv_aload_n hx hb dX12_nextOrder_17 rfl (lv_at hl 1 rfl) ?_
      refine va_get (D := (dC, dI)) (ci := 12) (v := .ref mz) (C := RX12) (T := TX12) (N := 24) hx hb hts iw_m_nextOrder_X12 hown hK hP 0 rfl rfl 13 (by decide) (hts (.fieldLink RX12 34 "ThriceCountedModel" "order" "[I") (by decide +kernel)) (fun _ h9 => h9) rfl dX12_nextOrder_18 ?_
      refine lv_iload_n hx hb dX12_nextOrder_21 rfl (lv_at hl 0 rfl) ?_
      refine lv_iconst (v := 1) hx hb dX12_nextOrder_22 (by decide) ?_
      refine lv_iadd hx hb dX12_nextOrder_23 ?_
      refine tz_i 5 (by decide) ?_
      refine va_iald hx hb hK hP 1 0 rfl rfl (show ¬ ((5 : Int32) < 0 ∨ 6 ≤ (5 : Int32).toNatClampNeg) by decide) dX12_nextOrder_24 ?_
      refine tz_i (fz_ 5) rfl ?_
      refine lv_icmp_le (tgt := 34) hx hb dX12_nextOrder_25 (by decide) (fun c_349 => ?_) (fun c_349 => ?_)
      · refine lv_iload_n hx hb dX12_nextOrder_34 rfl (lv_at hl 0 rfl) ?_
        refine lv_if_ge (tgt := 40) hx hb dX12_nextOrder_35 (by decide) (fun c_350 => ?_) (fun c_350 => ?_)
        · refine lv_aload_n hx hb dX12_nextOrder_40 rfl (lv_at hl 1 rfl) ?_
          refine va_get (D := (dC, dI)) (ci := 12) (v := .int 6) (C := RX12) (T := TX12) (N := 24) hx hb hts iw_m_nextOrder_X12 hown hK hP 0 rfl rfl 15 (by decide) (hts (.fieldLink RX12 218 "ThriceCountedModel" "soughtMany" "I") (by decide +kernel)) (fun _ h9 => h9) rfl dX12_nextOrder_41 ?_
          refine lv_iconst (v := 1) hx hb dX12_nextOrder_44 (by decide) ?_
          refine lv_isub hx hb dX12_nextOrder_45 ?_
          refine tz_i 5 (by decide) ?_
          refine lv_istore_n (lv' := [(2, .int 5), (1, .int 4), (0, .ref mo)]) hx hb dX12_nextOrder_46 rfl hl (by decide) rfl (fun ls hl => ?_)
          refine lv_aload_n hx hb dX12_nextOrder_47 rfl (lv_at hl 2 rfl) ?_
          refine va_get (D := (dC, dI)) (ci := 12) (v := .ref mz) (C := RX12) (T := TX12) (N := 24) hx hb hts iw_m_nextOrder_X12 hown hK hP 0 rfl rfl 13 (by decide) (hts (.fieldLink RX12 34 "ThriceCountedModel" "order" "[I") (by decide +kernel)) (fun _ h9 => h9) rfl dX12_nextOrder_48 ?_
          refine lv_iload_n hx hb dX12_nextOrder_51 rfl (lv_at hl 0 rfl) ?_
          refine va_iald hx hb hK hP 1 0 rfl rfl (show ¬ ((5 : Int32) < 0 ∨ 6 ≤ (5 : Int32).toNatClampNeg) by decide) dX12_nextOrder_52 ?_
          refine tz_i (fz_ 5) rfl ?_
          refine lv_aload_n hx hb dX12_nextOrder_53 rfl (lv_at hl 2 rfl) ?_
          refine va_get (D := (dC, dI)) (ci := 12) (v := .ref mz) (C := RX12) (T := TX12) (N := 24) hx hb hts iw_m_nextOrder_X12 hown hK hP 0 rfl rfl 13 (by decide) (hts (.fieldLink RX12 34 "ThriceCountedModel" "order" "[I") (by decide +kernel)) (fun _ h9 => h9) rfl dX12_nextOrder_54 ?_
          refine lv_iload_n hx hb dX12_nextOrder_57 rfl (lv_at hl 1 rfl) ?_
          refine va_iald hx hb hK hP 1 0 rfl rfl (show ¬ ((4 : Int32) < 0 ∨ 6 ≤ (4 : Int32).toNatClampNeg) by decide) dX12_nextOrder_58 ?_
          refine tz_i (fz_ 4) rfl ?_
          refine lv_icmp_ge (tgt := 68) hx hb dX12_nextOrder_59 (by decide) (fun c_351 => ?_) (fun c_351 => ?_)
          · refine lv_aload_n hx hb dX12_nextOrder_68 rfl (lv_at hl 2 rfl) ?_
            refine va_get (D := (dC, dI)) (ci := 12) (v := .ref mz) (C := RX12) (T := TX12) (N := 24) hx hb hts iw_m_nextOrder_X12 hown hK hP 0 rfl rfl 13 (by decide) (hts (.fieldLink RX12 34 "ThriceCountedModel" "order" "[I") (by decide +kernel)) (fun _ h9 => h9) rfl dX12_nextOrder_69 ?_
            refine lv_iload_n hx hb dX12_nextOrder_72 rfl (lv_at hl 1 rfl) ?_
            refine va_iald hx hb hK hP 1 0 rfl rfl (show ¬ ((4 : Int32) < 0 ∨ 6 ≤ (4 : Int32).toNatClampNeg) by decide) dX12_nextOrder_73 ?_
            refine tz_i (fz_ 4) rfl ?_
            refine lv_istore_n (lv' := [(3, .int (fz_ 4)), (2, .int 5), (1, .int 4), (0, .ref mo)]) hx hb dX12_nextOrder_74 rfl hl (by decide) rfl (fun ls hl => ?_)
            refine lv_aload_n hx hb dX12_nextOrder_75 rfl (lv_at hl 3 rfl) ?_
            refine va_get (D := (dC, dI)) (ci := 12) (v := .ref mz) (C := RX12) (T := TX12) (N := 24) hx hb hts iw_m_nextOrder_X12 hown hK hP 0 rfl rfl 13 (by decide) (hts (.fieldLink RX12 34 "ThriceCountedModel" "order" "[I") (by decide +kernel)) (fun _ h9 => h9) rfl dX12_nextOrder_76 ?_
            refine lv_iload_n hx hb dX12_nextOrder_79 rfl (lv_at hl 2 rfl) ?_
            refine lv_aload_n hx hb dX12_nextOrder_80 rfl (lv_at hl 3 rfl) ?_
            refine va_get (D := (dC, dI)) (ci := 12) (v := .ref mz) (C := RX12) (T := TX12) (N := 24) hx hb hts iw_m_nextOrder_X12 hown hK hP 0 rfl rfl 13 (by decide) (hts (.fieldLink RX12 34 "ThriceCountedModel" "order" "[I") (by decide +kernel)) (fun _ h9 => h9) rfl dX12_nextOrder_81 ?_
            refine lv_iload_n hx hb dX12_nextOrder_84 rfl (lv_at hl 1 rfl) ?_
            refine va_iald hx hb hK hP 1 0 rfl rfl (show ¬ ((5 : Int32) < 0 ∨ 6 ≤ (5 : Int32).toNatClampNeg) by decide) dX12_nextOrder_85 ?_
            refine tz_i (fz_ 5) rfl ?_
            refine va_iast hx hb hK hP hD hS 1 0 rfl rfl (show ¬ ((4 : Int32) < 0 ∨ 6 ≤ (4 : Int32).toNatClampNeg) by decide) dX12_nextOrder_86 (fun H locs hP hD hS => ?_)
            have hP : va_P (dC, dI) vwCl [(mo, .inr (12, [.ref nw, .ref kp, .ref ik, .ref mr, .long la_, .long lb_, .ref mw, .long lc_, .int ti_, .int cb_, .long ld_, .long le_, .ref mq, .ref mz, .ref my, .int 6, .ref mb, .int bl_, .int ta_, .int tl_, .int tk_, .int vl_, .ref mx, .ref mv])), (mz, .inl (cz_, 6, .inl (upd fz_ (Int32.toNatClampNeg 4) (fz_ 5))))] H := hP
            have hD : va_D A [(mo, .inr (12, [.ref nw, .ref kp, .ref ik, .ref mr, .long la_, .long lb_, .ref mw, .long lc_, .int ti_, .int cb_, .long ld_, .long le_, .ref mq, .ref mz, .ref my, .int 6, .ref mb, .int bl_, .int ta_, .int tl_, .int tk_, .int vl_, .ref mx, .ref mv])), (mz, .inl (cz_, 6, .inl (upd fz_ (Int32.toNatClampNeg 4) (fz_ 5))))] := hD
            refine lv_aload_n hx hb dX12_nextOrder_87 rfl (lv_at hl 3 rfl) ?_
            refine va_get (D := (dC, dI)) (ci := 12) (v := .ref mz) (C := RX12) (T := TX12) (N := 24) hx hb hts iw_m_nextOrder_X12 hown hK hP 0 rfl rfl 13 (by decide) (hts (.fieldLink RX12 34 "ThriceCountedModel" "order" "[I") (by decide +kernel)) (fun _ h9 => h9) rfl dX12_nextOrder_88 ?_
            refine lv_iload_n hx hb dX12_nextOrder_91 rfl (lv_at hl 1 rfl) ?_
            refine lv_iload_n hx hb dX12_nextOrder_92 rfl (lv_at hl 0 rfl) ?_
            refine va_iast hx hb hK hP hD hS 1 0 rfl rfl (show ¬ ((5 : Int32) < 0 ∨ 6 ≤ (5 : Int32).toNatClampNeg) by decide) dX12_nextOrder_93 (fun H locs hP hD hS => ?_)
            have hP : va_P (dC, dI) vwCl [(mo, .inr (12, [.ref nw, .ref kp, .ref ik, .ref mr, .long la_, .long lb_, .ref mw, .long lc_, .int ti_, .int cb_, .long ld_, .long le_, .ref mq, .ref mz, .ref my, .int 6, .ref mb, .int bl_, .int ta_, .int tl_, .int tk_, .int vl_, .ref mx, .ref mv])), (mz, .inl (cz_, 6, .inl (upd (upd fz_ (Int32.toNatClampNeg 4) (fz_ 5)) (Int32.toNatClampNeg 5) (fz_ 4))))] H := hP
            have hD : va_D A [(mo, .inr (12, [.ref nw, .ref kp, .ref ik, .ref mr, .long la_, .long lb_, .ref mw, .long lc_, .int ti_, .int cb_, .long ld_, .long le_, .ref mq, .ref mz, .ref my, .int 6, .ref mb, .int bl_, .int ta_, .int tl_, .int tk_, .int vl_, .ref mx, .ref mv])), (mz, .inl (cz_, 6, .inl (upd (upd fz_ (Int32.toNatClampNeg 4) (fz_ 5)) (Int32.toNatClampNeg 5) (fz_ 4))))] := hD
            refine lv_iload_n hx hb dX12_nextOrder_94 rfl (lv_at hl 2 rfl) ?_
            refine lv_iconst (v := 1) hx hb dX12_nextOrder_95 (by decide) ?_
            refine lv_iadd hx hb dX12_nextOrder_96 ?_
            refine tz_i 5 (by decide) ?_
            refine lv_istore (lv' := [(4, .int 5), (3, .int (fz_ 4)), (2, .int 5), (1, .int 4), (0, .ref mo)]) hx hb dX12_nextOrder_97 hl (by decide) rfl (fun ls hl => ?_)
            refine lv_aload_n hx hb dX12_nextOrder_99 rfl (lv_at hl 4 rfl) ?_
            refine va_get (D := (dC, dI)) (ci := 12) (v := .int 6) (C := RX12) (T := TX12) (N := 24) hx hb hts iw_m_nextOrder_X12 hown hK hP 0 rfl rfl 15 (by decide) (hts (.fieldLink RX12 218 "ThriceCountedModel" "soughtMany" "I") (by decide +kernel)) (fun _ h9 => h9) rfl dX12_nextOrder_100 ?_
            refine lv_iconst (v := 1) hx hb dX12_nextOrder_103 (by decide) ?_
            refine lv_isub hx hb dX12_nextOrder_104 ?_
            refine tz_i 5 (by decide) ?_
            refine lv_istore (lv' := [(5, .int 5), (4, .int 5), (3, .int (fz_ 4)), (2, .int 5), (1, .int 4), (0, .ref mo)]) hx hb dX12_nextOrder_105 hl (by decide) rfl (fun ls hl => ?_)
            refine lv_iload hx hb dX12_nextOrder_107 (lv_at hl 1 rfl) ?_
            refine lv_iload hx hb dX12_nextOrder_109 (lv_at hl 0 rfl) ?_
            refine lv_icmp_ge (tgt := 155) hx hb dX12_nextOrder_111 (by decide) (fun c_354 => ?_) (fun c_354 => ?_)
            · refine lv_iconst (v := 1) hx hb dX12_nextOrder_155 (by decide) ?_
              have hP9 := hP.sub (ws' := [(mo, .inr (12, [.ref nw, .ref kp, .ref ik, .ref mr, .long la_, .long lb_, .ref mw, .long lc_, .int ti_, .int cb_, .long ld_, .long le_, .ref mq, .ref mz, .ref my, .int (nI 6), .ref mb, .int bl_, .int ta_, .int tl_, .int tk_, .int vl_, .ref mx, .ref mv])), (mz, .inl (cz_, 6, .inl (upd (upd fz_ (Int32.toNatClampNeg 4) (fz_ 5)) (Int32.toNatClampNeg 5) (fz_ 4))))]) [0, 1] rfl
              have hD9 := hD.sub (ws' := [(mo, .inr (12, [.ref nw, .ref kp, .ref ik, .ref mr, .long la_, .long lb_, .ref mw, .long lc_, .int ti_, .int cb_, .long ld_, .long le_, .ref mq, .ref mz, .ref my, .int (nI 6), .ref mb, .int bl_, .int ta_, .int tl_, .int tk_, .int vl_, .ref mx, .ref mv])), (mz, .inl (cz_, 6, .inl (upd (upd fz_ (Int32.toNatClampNeg 4) (fz_ 5)) (Int32.toNatClampNeg 5) (fz_ 4))))]) [0, 1] (by decide) rfl
              have hK9 := hK.sub (tys' := [(cz_, .int)]) [0] rfl
              have hlt_355 : (fz_ 4).toInt < (fz_ 5).toInt := tz_ltt2 c_351 (hdi.2 4 5 (by omega) (by omega))
              have hb_356 := hdi.1 0 (by omega)
              have hb_357 := hdi.1 1 (by omega)
              have hb_358 := hdi.1 2 (by omega)
              have hb_359 := hdi.1 3 (by omega)
              have hb_360 := hdi.1 4 (by omega)
              have hb_361 := hdi.1 5 (by omega)
              have ev_362 : tz_val 6 fz_ = 7776 * (fz_ 0).toInt + 1296 * (fz_ 1).toInt + 216 * (fz_ 2).toInt + 36 * (fz_ 3).toInt + 6 * (fz_ 4).toInt + (fz_ 5).toInt := rfl
              have eg_363 : tz_val 6 (upd (upd fz_ (Int32.toNatClampNeg 4) (fz_ 5)) (Int32.toNatClampNeg 5) (fz_ 4)) = 7776 * (fz_ 0).toInt + 1296 * (fz_ 1).toInt + 216 * (fz_ 2).toInt + 36 * (fz_ 3).toInt + 6 * (fz_ 5).toInt + (fz_ 4).toInt := rfl
              have hp_364 : tz_Di 6 (upd (upd fz_ (Int32.toNatClampNeg 4) (fz_ 5)) (Int32.toNatClampNeg 5) (fz_ 4)) := hdi.perm (fun a => ([0, 1, 2, 3, 5, 4] : List Nat).getD a 0) (fun a ha => by
                rcases (show a = 0 ∨ a = 1 ∨ a = 2 ∨ a = 3 ∨ a = 4 ∨ a = 5 by omega) with rfl | rfl | rfl | rfl | rfl | rfl <;> exact ⟨by decide, rfl⟩) (by decide)
              exact W.zret (v := 1) hx hb hr (by decide) (fun t ht hW => ⟨⟨1, (), rfl, Or.inr ⟨rfl, 4, by omega, tz_nle_of c_351⟩, (upd (upd fz_ (Int32.toNatClampNeg 4) (fz_ 5)) (Int32.toNatClampNeg 5) (fz_ 4)), hp_364, by rw [ev_362, eg_363]; omega, fun _ => by rw [ev_362, eg_363]; omega, by rw [ht]; exact hP9, va_K.moved hW.alike hK9, hD9⟩, hS.F ht⟩) hS.2.2 dX12_nextOrder_156
            · exact absurd c_354 (by decide)
          · exact absurd c_349 c_351
        · exact absurd c_350 (by decide)
      · refine lv_iinc (v := 3) (lv' := [(1, .int 3), (0, .ref mo)]) hx hb dX12_nextOrder_28 hl (k := 0) rfl (by decide) (by decide) rfl (fun ls hl => ?_)
        refine lv_goto (tgt := 7) hx hb dX12_nextOrder_31 (by decide) ?_
        refine lv_iload_n hx hb dX12_nextOrder_7 rfl (lv_at hl 0 rfl) ?_
        refine lv_if_lt (tgt := 34) hx hb dX12_nextOrder_8 (by decide) (fun c_365 => ?_) (fun c_365 => ?_)
        · exact absurd c_365 (by decide)
        · refine lv_aload_n hx hb dX12_nextOrder_11 rfl (lv_at hl 1 rfl) ?_
          refine va_get (D := (dC, dI)) (ci := 12) (v := .ref mz) (C := RX12) (T := TX12) (N := 24) hx hb hts iw_m_nextOrder_X12 hown hK hP 0 rfl rfl 13 (by decide) (hts (.fieldLink RX12 34 "ThriceCountedModel" "order" "[I") (by decide +kernel)) (fun _ h9 => h9) rfl dX12_nextOrder_12 ?_
          refine lv_iload_n hx hb dX12_nextOrder_15 rfl (lv_at hl 0 rfl) ?_
          refine va_iald hx hb hK hP 1 0 rfl rfl (show ¬ ((3 : Int32) < 0 ∨ 6 ≤ (3 : Int32).toNatClampNeg) by decide) dX12_nextOrder_16 ?_
          refine tz_i (fz_ 3) rfl ?_
          refine lv_aload_n hx hb dX12_nextOrder_17 rfl (lv_at hl 1 rfl) ?_
          refine va_get (D := (dC, dI)) (ci := 12) (v := .ref mz) (C := RX12) (T := TX12) (N := 24) hx hb hts iw_m_nextOrder_X12 hown hK hP 0 rfl rfl 13 (by decide) (hts (.fieldLink RX12 34 "ThriceCountedModel" "order" "[I") (by decide +kernel)) (fun _ h9 => h9) rfl dX12_nextOrder_18 ?_
          refine lv_iload_n hx hb dX12_nextOrder_21 rfl (lv_at hl 0 rfl) ?_
          refine lv_iconst (v := 1) hx hb dX12_nextOrder_22 (by decide) ?_
          refine lv_iadd hx hb dX12_nextOrder_23 ?_
          refine tz_i 4 (by decide) ?_
          refine va_iald hx hb hK hP 1 0 rfl rfl (show ¬ ((4 : Int32) < 0 ∨ 6 ≤ (4 : Int32).toNatClampNeg) by decide) dX12_nextOrder_24 ?_
          refine tz_i (fz_ 4) rfl ?_
          refine lv_icmp_le (tgt := 34) hx hb dX12_nextOrder_25 (by decide) (fun c_366 => ?_) (fun c_366 => ?_)
          · refine lv_iload_n hx hb dX12_nextOrder_34 rfl (lv_at hl 0 rfl) ?_
            refine lv_if_ge (tgt := 40) hx hb dX12_nextOrder_35 (by decide) (fun c_367 => ?_) (fun c_367 => ?_)
            · refine lv_aload_n hx hb dX12_nextOrder_40 rfl (lv_at hl 1 rfl) ?_
              refine va_get (D := (dC, dI)) (ci := 12) (v := .int 6) (C := RX12) (T := TX12) (N := 24) hx hb hts iw_m_nextOrder_X12 hown hK hP 0 rfl rfl 15 (by decide) (hts (.fieldLink RX12 218 "ThriceCountedModel" "soughtMany" "I") (by decide +kernel)) (fun _ h9 => h9) rfl dX12_nextOrder_41 ?_
              refine lv_iconst (v := 1) hx hb dX12_nextOrder_44 (by decide) ?_
              refine lv_isub hx hb dX12_nextOrder_45 ?_
              refine tz_i 5 (by decide) ?_
              refine lv_istore_n (lv' := [(2, .int 5), (1, .int 3), (0, .ref mo)]) hx hb dX12_nextOrder_46 rfl hl (by decide) rfl (fun ls hl => ?_)
              refine lv_aload_n hx hb dX12_nextOrder_47 rfl (lv_at hl 2 rfl) ?_
              refine va_get (D := (dC, dI)) (ci := 12) (v := .ref mz) (C := RX12) (T := TX12) (N := 24) hx hb hts iw_m_nextOrder_X12 hown hK hP 0 rfl rfl 13 (by decide) (hts (.fieldLink RX12 34 "ThriceCountedModel" "order" "[I") (by decide +kernel)) (fun _ h9 => h9) rfl dX12_nextOrder_48 ?_
              refine lv_iload_n hx hb dX12_nextOrder_51 rfl (lv_at hl 0 rfl) ?_
              refine va_iald hx hb hK hP 1 0 rfl rfl (show ¬ ((5 : Int32) < 0 ∨ 6 ≤ (5 : Int32).toNatClampNeg) by decide) dX12_nextOrder_52 ?_
              refine tz_i (fz_ 5) rfl ?_
              refine lv_aload_n hx hb dX12_nextOrder_53 rfl (lv_at hl 2 rfl) ?_
              refine va_get (D := (dC, dI)) (ci := 12) (v := .ref mz) (C := RX12) (T := TX12) (N := 24) hx hb hts iw_m_nextOrder_X12 hown hK hP 0 rfl rfl 13 (by decide) (hts (.fieldLink RX12 34 "ThriceCountedModel" "order" "[I") (by decide +kernel)) (fun _ h9 => h9) rfl dX12_nextOrder_54 ?_
              refine lv_iload_n hx hb dX12_nextOrder_57 rfl (lv_at hl 1 rfl) ?_
              refine va_iald hx hb hK hP 1 0 rfl rfl (show ¬ ((3 : Int32) < 0 ∨ 6 ≤ (3 : Int32).toNatClampNeg) by decide) dX12_nextOrder_58 ?_
              refine tz_i (fz_ 3) rfl ?_
              refine lv_icmp_ge (tgt := 68) hx hb dX12_nextOrder_59 (by decide) (fun c_368 => ?_) (fun c_368 => ?_)
              · refine lv_aload_n hx hb dX12_nextOrder_68 rfl (lv_at hl 2 rfl) ?_
                refine va_get (D := (dC, dI)) (ci := 12) (v := .ref mz) (C := RX12) (T := TX12) (N := 24) hx hb hts iw_m_nextOrder_X12 hown hK hP 0 rfl rfl 13 (by decide) (hts (.fieldLink RX12 34 "ThriceCountedModel" "order" "[I") (by decide +kernel)) (fun _ h9 => h9) rfl dX12_nextOrder_69 ?_
                refine lv_iload_n hx hb dX12_nextOrder_72 rfl (lv_at hl 1 rfl) ?_
                refine va_iald hx hb hK hP 1 0 rfl rfl (show ¬ ((3 : Int32) < 0 ∨ 6 ≤ (3 : Int32).toNatClampNeg) by decide) dX12_nextOrder_73 ?_
                refine tz_i (fz_ 3) rfl ?_
                refine lv_istore_n (lv' := [(3, .int (fz_ 3)), (2, .int 5), (1, .int 3), (0, .ref mo)]) hx hb dX12_nextOrder_74 rfl hl (by decide) rfl (fun ls hl => ?_)
                refine lv_aload_n hx hb dX12_nextOrder_75 rfl (lv_at hl 3 rfl) ?_
                refine va_get (D := (dC, dI)) (ci := 12) (v := .ref mz) (C := RX12) (T := TX12) (N := 24) hx hb hts iw_m_nextOrder_X12 hown hK hP 0 rfl rfl 13 (by decide) (hts (.fieldLink RX12 34 "ThriceCountedModel" "order" "[I") (by decide +kernel)) (fun _ h9 => h9) rfl dX12_nextOrder_76 ?_
                refine lv_iload_n hx hb dX12_nextOrder_79 rfl (lv_at hl 2 rfl) ?_
                refine lv_aload_n hx hb dX12_nextOrder_80 rfl (lv_at hl 3 rfl) ?_
                refine va_get (D := (dC, dI)) (ci := 12) (v := .ref mz) (C := RX12) (T := TX12) (N := 24) hx hb hts iw_m_nextOrder_X12 hown hK hP 0 rfl rfl 13 (by decide) (hts (.fieldLink RX12 34 "ThriceCountedModel" "order" "[I") (by decide +kernel)) (fun _ h9 => h9) rfl dX12_nextOrder_81 ?_
                refine lv_iload_n hx hb dX12_nextOrder_84 rfl (lv_at hl 1 rfl) ?_
                refine va_iald hx hb hK hP 1 0 rfl rfl (show ¬ ((5 : Int32) < 0 ∨ 6 ≤ (5 : Int32).toNatClampNeg) by decide) dX12_nextOrder_85 ?_
                refine tz_i (fz_ 5) rfl ?_
                refine va_iast hx hb hK hP hD hS 1 0 rfl rfl (show ¬ ((3 : Int32) < 0 ∨ 6 ≤ (3 : Int32).toNatClampNeg) by decide) dX12_nextOrder_86 (fun H locs hP hD hS => ?_)
                have hP : va_P (dC, dI) vwCl [(mo, .inr (12, [.ref nw, .ref kp, .ref ik, .ref mr, .long la_, .long lb_, .ref mw, .long lc_, .int ti_, .int cb_, .long ld_, .long le_, .ref mq, .ref mz, .ref my, .int 6, .ref mb, .int bl_, .int ta_, .int tl_, .int tk_, .int vl_, .ref mx, .ref mv])), (mz, .inl (cz_, 6, .inl (upd fz_ (Int32.toNatClampNeg 3) (fz_ 5))))] H := hP
                have hD : va_D A [(mo, .inr (12, [.ref nw, .ref kp, .ref ik, .ref mr, .long la_, .long lb_, .ref mw, .long lc_, .int ti_, .int cb_, .long ld_, .long le_, .ref mq, .ref mz, .ref my, .int 6, .ref mb, .int bl_, .int ta_, .int tl_, .int tk_, .int vl_, .ref mx, .ref mv])), (mz, .inl (cz_, 6, .inl (upd fz_ (Int32.toNatClampNeg 3) (fz_ 5))))] := hD
                refine lv_aload_n hx hb dX12_nextOrder_87 rfl (lv_at hl 3 rfl) ?_
                refine va_get (D := (dC, dI)) (ci := 12) (v := .ref mz) (C := RX12) (T := TX12) (N := 24) hx hb hts iw_m_nextOrder_X12 hown hK hP 0 rfl rfl 13 (by decide) (hts (.fieldLink RX12 34 "ThriceCountedModel" "order" "[I") (by decide +kernel)) (fun _ h9 => h9) rfl dX12_nextOrder_88 ?_
                refine lv_iload_n hx hb dX12_nextOrder_91 rfl (lv_at hl 1 rfl) ?_
                refine lv_iload_n hx hb dX12_nextOrder_92 rfl (lv_at hl 0 rfl) ?_
                refine va_iast hx hb hK hP hD hS 1 0 rfl rfl (show ¬ ((5 : Int32) < 0 ∨ 6 ≤ (5 : Int32).toNatClampNeg) by decide) dX12_nextOrder_93 (fun H locs hP hD hS => ?_)
                have hP : va_P (dC, dI) vwCl [(mo, .inr (12, [.ref nw, .ref kp, .ref ik, .ref mr, .long la_, .long lb_, .ref mw, .long lc_, .int ti_, .int cb_, .long ld_, .long le_, .ref mq, .ref mz, .ref my, .int 6, .ref mb, .int bl_, .int ta_, .int tl_, .int tk_, .int vl_, .ref mx, .ref mv])), (mz, .inl (cz_, 6, .inl (upd (upd fz_ (Int32.toNatClampNeg 3) (fz_ 5)) (Int32.toNatClampNeg 5) (fz_ 3))))] H := hP
                have hD : va_D A [(mo, .inr (12, [.ref nw, .ref kp, .ref ik, .ref mr, .long la_, .long lb_, .ref mw, .long lc_, .int ti_, .int cb_, .long ld_, .long le_, .ref mq, .ref mz, .ref my, .int 6, .ref mb, .int bl_, .int ta_, .int tl_, .int tk_, .int vl_, .ref mx, .ref mv])), (mz, .inl (cz_, 6, .inl (upd (upd fz_ (Int32.toNatClampNeg 3) (fz_ 5)) (Int32.toNatClampNeg 5) (fz_ 3))))] := hD
                refine lv_iload_n hx hb dX12_nextOrder_94 rfl (lv_at hl 2 rfl) ?_
                refine lv_iconst (v := 1) hx hb dX12_nextOrder_95 (by decide) ?_
                refine lv_iadd hx hb dX12_nextOrder_96 ?_
                refine tz_i 4 (by decide) ?_
                refine lv_istore (lv' := [(4, .int 4), (3, .int (fz_ 3)), (2, .int 5), (1, .int 3), (0, .ref mo)]) hx hb dX12_nextOrder_97 hl (by decide) rfl (fun ls hl => ?_)
                refine lv_aload_n hx hb dX12_nextOrder_99 rfl (lv_at hl 4 rfl) ?_
                refine va_get (D := (dC, dI)) (ci := 12) (v := .int 6) (C := RX12) (T := TX12) (N := 24) hx hb hts iw_m_nextOrder_X12 hown hK hP 0 rfl rfl 15 (by decide) (hts (.fieldLink RX12 218 "ThriceCountedModel" "soughtMany" "I") (by decide +kernel)) (fun _ h9 => h9) rfl dX12_nextOrder_100 ?_
                refine lv_iconst (v := 1) hx hb dX12_nextOrder_103 (by decide) ?_
                refine lv_isub hx hb dX12_nextOrder_104 ?_
                refine tz_i 5 (by decide) ?_
                refine lv_istore (lv' := [(5, .int 5), (4, .int 4), (3, .int (fz_ 3)), (2, .int 5), (1, .int 3), (0, .ref mo)]) hx hb dX12_nextOrder_105 hl (by decide) rfl (fun ls hl => ?_)
                refine lv_iload hx hb dX12_nextOrder_107 (lv_at hl 1 rfl) ?_
                refine lv_iload hx hb dX12_nextOrder_109 (lv_at hl 0 rfl) ?_
                refine lv_icmp_ge (tgt := 155) hx hb dX12_nextOrder_111 (by decide) (fun c_371 => ?_) (fun c_371 => ?_)
                · exact absurd c_371 (by decide)
                · refine lv_aload_n hx hb dX12_nextOrder_114 rfl (lv_at hl 5 rfl) ?_
                  refine va_get (D := (dC, dI)) (ci := 12) (v := .ref mz) (C := RX12) (T := TX12) (N := 24) hx hb hts iw_m_nextOrder_X12 hown hK hP 0 rfl rfl 13 (by decide) (hts (.fieldLink RX12 34 "ThriceCountedModel" "order" "[I") (by decide +kernel)) (fun _ h9 => h9) rfl dX12_nextOrder_115 ?_
                  refine lv_iload hx hb dX12_nextOrder_118 (lv_at hl 1 rfl) ?_
                  refine va_iald hx hb hK hP 1 0 rfl rfl (show ¬ ((4 : Int32) < 0 ∨ 6 ≤ (4 : Int32).toNatClampNeg) by decide) dX12_nextOrder_120 ?_
                  refine tz_i (fz_ 4) rfl ?_
                  refine lv_istore (lv' := [(6, .int (fz_ 4)), (5, .int 5), (4, .int 4), (3, .int (fz_ 3)), (2, .int 5), (1, .int 3), (0, .ref mo)]) hx hb dX12_nextOrder_121 hl (by decide) rfl (fun ls hl => ?_)
                  refine lv_aload_n hx hb dX12_nextOrder_123 rfl (lv_at hl 6 rfl) ?_
                  refine va_get (D := (dC, dI)) (ci := 12) (v := .ref mz) (C := RX12) (T := TX12) (N := 24) hx hb hts iw_m_nextOrder_X12 hown hK hP 0 rfl rfl 13 (by decide) (hts (.fieldLink RX12 34 "ThriceCountedModel" "order" "[I") (by decide +kernel)) (fun _ h9 => h9) rfl dX12_nextOrder_124 ?_
                  refine lv_iload hx hb dX12_nextOrder_127 (lv_at hl 2 rfl) ?_
                  refine lv_aload_n hx hb dX12_nextOrder_129 rfl (lv_at hl 6 rfl) ?_
                  refine va_get (D := (dC, dI)) (ci := 12) (v := .ref mz) (C := RX12) (T := TX12) (N := 24) hx hb hts iw_m_nextOrder_X12 hown hK hP 0 rfl rfl 13 (by decide) (hts (.fieldLink RX12 34 "ThriceCountedModel" "order" "[I") (by decide +kernel)) (fun _ h9 => h9) rfl dX12_nextOrder_130 ?_
                  refine lv_iload hx hb dX12_nextOrder_133 (lv_at hl 1 rfl) ?_
                  refine va_iald hx hb hK hP 1 0 rfl rfl (show ¬ ((5 : Int32) < 0 ∨ 6 ≤ (5 : Int32).toNatClampNeg) by decide) dX12_nextOrder_135 ?_
                  refine tz_i (fz_ 3) rfl ?_
                  refine va_iast hx hb hK hP hD hS 1 0 rfl rfl (show ¬ ((4 : Int32) < 0 ∨ 6 ≤ (4 : Int32).toNatClampNeg) by decide) dX12_nextOrder_136 (fun H locs hP hD hS => ?_)
                  have hP : va_P (dC, dI) vwCl [(mo, .inr (12, [.ref nw, .ref kp, .ref ik, .ref mr, .long la_, .long lb_, .ref mw, .long lc_, .int ti_, .int cb_, .long ld_, .long le_, .ref mq, .ref mz, .ref my, .int 6, .ref mb, .int bl_, .int ta_, .int tl_, .int tk_, .int vl_, .ref mx, .ref mv])), (mz, .inl (cz_, 6, .inl (upd (upd (upd fz_ (Int32.toNatClampNeg 3) (fz_ 5)) (Int32.toNatClampNeg 5) (fz_ 3)) (Int32.toNatClampNeg 4) (fz_ 3))))] H := hP
                  have hD : va_D A [(mo, .inr (12, [.ref nw, .ref kp, .ref ik, .ref mr, .long la_, .long lb_, .ref mw, .long lc_, .int ti_, .int cb_, .long ld_, .long le_, .ref mq, .ref mz, .ref my, .int 6, .ref mb, .int bl_, .int ta_, .int tl_, .int tk_, .int vl_, .ref mx, .ref mv])), (mz, .inl (cz_, 6, .inl (upd (upd (upd fz_ (Int32.toNatClampNeg 3) (fz_ 5)) (Int32.toNatClampNeg 5) (fz_ 3)) (Int32.toNatClampNeg 4) (fz_ 3))))] := hD
                  refine lv_aload_n hx hb dX12_nextOrder_137 rfl (lv_at hl 6 rfl) ?_
                  refine va_get (D := (dC, dI)) (ci := 12) (v := .ref mz) (C := RX12) (T := TX12) (N := 24) hx hb hts iw_m_nextOrder_X12 hown hK hP 0 rfl rfl 13 (by decide) (hts (.fieldLink RX12 34 "ThriceCountedModel" "order" "[I") (by decide +kernel)) (fun _ h9 => h9) rfl dX12_nextOrder_138 ?_
                  refine lv_iload hx hb dX12_nextOrder_141 (lv_at hl 1 rfl) ?_
                  refine lv_iload hx hb dX12_nextOrder_143 (lv_at hl 0 rfl) ?_
                  refine va_iast hx hb hK hP hD hS 1 0 rfl rfl (show ¬ ((5 : Int32) < 0 ∨ 6 ≤ (5 : Int32).toNatClampNeg) by decide) dX12_nextOrder_145 (fun H locs hP hD hS => ?_)
                  have hP : va_P (dC, dI) vwCl [(mo, .inr (12, [.ref nw, .ref kp, .ref ik, .ref mr, .long la_, .long lb_, .ref mw, .long lc_, .int ti_, .int cb_, .long ld_, .long le_, .ref mq, .ref mz, .ref my, .int 6, .ref mb, .int bl_, .int ta_, .int tl_, .int tk_, .int vl_, .ref mx, .ref mv])), (mz, .inl (cz_, 6, .inl (upd (upd (upd (upd fz_ (Int32.toNatClampNeg 3) (fz_ 5)) (Int32.toNatClampNeg 5) (fz_ 3)) (Int32.toNatClampNeg 4) (fz_ 3)) (Int32.toNatClampNeg 5) (fz_ 4))))] H := hP
                  have hD : va_D A [(mo, .inr (12, [.ref nw, .ref kp, .ref ik, .ref mr, .long la_, .long lb_, .ref mw, .long lc_, .int ti_, .int cb_, .long ld_, .long le_, .ref mq, .ref mz, .ref my, .int 6, .ref mb, .int bl_, .int ta_, .int tl_, .int tk_, .int vl_, .ref mx, .ref mv])), (mz, .inl (cz_, 6, .inl (upd (upd (upd (upd fz_ (Int32.toNatClampNeg 3) (fz_ 5)) (Int32.toNatClampNeg 5) (fz_ 3)) (Int32.toNatClampNeg 4) (fz_ 3)) (Int32.toNatClampNeg 5) (fz_ 4))))] := hD
                  refine lv_iinc (v := 5) (lv' := [(4, .int 5), (6, .int (fz_ 4)), (5, .int 5), (3, .int (fz_ 3)), (2, .int 5), (1, .int 3), (0, .ref mo)]) hx hb dX12_nextOrder_146 hl (k := 2) rfl (by decide) (by decide) rfl (fun ls hl => ?_)
                  refine lv_iinc (v := 4) (lv' := [(5, .int 4), (4, .int 5), (6, .int (fz_ 4)), (3, .int (fz_ 3)), (2, .int 5), (1, .int 3), (0, .ref mo)]) hx hb dX12_nextOrder_149 hl (k := 2) rfl (by decide) (by decide) rfl (fun ls hl => ?_)
                  refine lv_goto (tgt := 107) hx hb dX12_nextOrder_152 (by decide) ?_
                  refine lv_iload hx hb dX12_nextOrder_107 (lv_at hl 1 rfl) ?_
                  refine lv_iload hx hb dX12_nextOrder_109 (lv_at hl 0 rfl) ?_
                  refine lv_icmp_ge (tgt := 155) hx hb dX12_nextOrder_111 (by decide) (fun c_374 => ?_) (fun c_374 => ?_)
                  · refine lv_iconst (v := 1) hx hb dX12_nextOrder_155 (by decide) ?_
                    have hP9 := hP.sub (ws' := [(mo, .inr (12, [.ref nw, .ref kp, .ref ik, .ref mr, .long la_, .long lb_, .ref mw, .long lc_, .int ti_, .int cb_, .long ld_, .long le_, .ref mq, .ref mz, .ref my, .int (nI 6), .ref mb, .int bl_, .int ta_, .int tl_, .int tk_, .int vl_, .ref mx, .ref mv])), (mz, .inl (cz_, 6, .inl (upd (upd (upd (upd fz_ (Int32.toNatClampNeg 3) (fz_ 5)) (Int32.toNatClampNeg 5) (fz_ 3)) (Int32.toNatClampNeg 4) (fz_ 3)) (Int32.toNatClampNeg 5) (fz_ 4))))]) [0, 1] rfl
                    have hD9 := hD.sub (ws' := [(mo, .inr (12, [.ref nw, .ref kp, .ref ik, .ref mr, .long la_, .long lb_, .ref mw, .long lc_, .int ti_, .int cb_, .long ld_, .long le_, .ref mq, .ref mz, .ref my, .int (nI 6), .ref mb, .int bl_, .int ta_, .int tl_, .int tk_, .int vl_, .ref mx, .ref mv])), (mz, .inl (cz_, 6, .inl (upd (upd (upd (upd fz_ (Int32.toNatClampNeg 3) (fz_ 5)) (Int32.toNatClampNeg 5) (fz_ 3)) (Int32.toNatClampNeg 4) (fz_ 3)) (Int32.toNatClampNeg 5) (fz_ 4))))]) [0, 1] (by decide) rfl
                    have hK9 := hK.sub (tys' := [(cz_, .int)]) [0] rfl
                    have hlt_375 : (fz_ 3).toInt < (fz_ 5).toInt := tz_ltt2 c_368 (hdi.2 3 5 (by omega) (by omega))
                    have hb_376 := hdi.1 0 (by omega)
                    have hb_377 := hdi.1 1 (by omega)
                    have hb_378 := hdi.1 2 (by omega)
                    have hb_379 := hdi.1 3 (by omega)
                    have hb_380 := hdi.1 4 (by omega)
                    have hb_381 := hdi.1 5 (by omega)
                    have ev_382 : tz_val 6 fz_ = 7776 * (fz_ 0).toInt + 1296 * (fz_ 1).toInt + 216 * (fz_ 2).toInt + 36 * (fz_ 3).toInt + 6 * (fz_ 4).toInt + (fz_ 5).toInt := rfl
                    have eg_383 : tz_val 6 (upd (upd (upd (upd fz_ (Int32.toNatClampNeg 3) (fz_ 5)) (Int32.toNatClampNeg 5) (fz_ 3)) (Int32.toNatClampNeg 4) (fz_ 3)) (Int32.toNatClampNeg 5) (fz_ 4)) = 7776 * (fz_ 0).toInt + 1296 * (fz_ 1).toInt + 216 * (fz_ 2).toInt + 36 * (fz_ 5).toInt + 6 * (fz_ 3).toInt + (fz_ 4).toInt := rfl
                    have hp_384 : tz_Di 6 (upd (upd (upd (upd fz_ (Int32.toNatClampNeg 3) (fz_ 5)) (Int32.toNatClampNeg 5) (fz_ 3)) (Int32.toNatClampNeg 4) (fz_ 3)) (Int32.toNatClampNeg 5) (fz_ 4)) := hdi.perm (fun a => ([0, 1, 2, 5, 3, 4] : List Nat).getD a 0) (fun a ha => by
                      rcases (show a = 0 ∨ a = 1 ∨ a = 2 ∨ a = 3 ∨ a = 4 ∨ a = 5 by omega) with rfl | rfl | rfl | rfl | rfl | rfl <;> exact ⟨by decide, rfl⟩) (by decide)
                    exact W.zret (v := 1) hx hb hr (by decide) (fun t ht hW => ⟨⟨1, (), rfl, Or.inr ⟨rfl, 3, by omega, tz_nle_of c_366⟩, (upd (upd (upd (upd fz_ (Int32.toNatClampNeg 3) (fz_ 5)) (Int32.toNatClampNeg 5) (fz_ 3)) (Int32.toNatClampNeg 4) (fz_ 3)) (Int32.toNatClampNeg 5) (fz_ 4)), hp_384, by rw [ev_382, eg_383]; omega, fun _ => by rw [ev_382, eg_383]; omega, by rw [ht]; exact hP9, va_K.moved hW.alike hK9, hD9⟩, hS.F ht⟩) hS.2.2 dX12_nextOrder_156
                  · exact absurd c_374 (by decide)
              · refine lv_iinc (v := 4) (lv' := [(2, .int 4), (1, .int 3), (0, .ref mo)]) hx hb dX12_nextOrder_62 hl (k := 0) rfl (by decide) (by decide) rfl (fun ls hl => ?_)
                refine lv_goto (tgt := 47) hx hb dX12_nextOrder_65 (by decide) ?_
                refine lv_aload_n hx hb dX12_nextOrder_47 rfl (lv_at hl 2 rfl) ?_
                refine va_get (D := (dC, dI)) (ci := 12) (v := .ref mz) (C := RX12) (T := TX12) (N := 24) hx hb hts iw_m_nextOrder_X12 hown hK hP 0 rfl rfl 13 (by decide) (hts (.fieldLink RX12 34 "ThriceCountedModel" "order" "[I") (by decide +kernel)) (fun _ h9 => h9) rfl dX12_nextOrder_48 ?_
                refine lv_iload_n hx hb dX12_nextOrder_51 rfl (lv_at hl 0 rfl) ?_
                refine va_iald hx hb hK hP 1 0 rfl rfl (show ¬ ((4 : Int32) < 0 ∨ 6 ≤ (4 : Int32).toNatClampNeg) by decide) dX12_nextOrder_52 ?_
                refine tz_i (fz_ 4) rfl ?_
                refine lv_aload_n hx hb dX12_nextOrder_53 rfl (lv_at hl 2 rfl) ?_
                refine va_get (D := (dC, dI)) (ci := 12) (v := .ref mz) (C := RX12) (T := TX12) (N := 24) hx hb hts iw_m_nextOrder_X12 hown hK hP 0 rfl rfl 13 (by decide) (hts (.fieldLink RX12 34 "ThriceCountedModel" "order" "[I") (by decide +kernel)) (fun _ h9 => h9) rfl dX12_nextOrder_54 ?_
                refine lv_iload_n hx hb dX12_nextOrder_57 rfl (lv_at hl 1 rfl) ?_
                refine va_iald hx hb hK hP 1 0 rfl rfl (show ¬ ((3 : Int32) < 0 ∨ 6 ≤ (3 : Int32).toNatClampNeg) by decide) dX12_nextOrder_58 ?_
                refine tz_i (fz_ 3) rfl ?_
                refine lv_icmp_ge (tgt := 68) hx hb dX12_nextOrder_59 (by decide) (fun c_385 => ?_) (fun c_385 => ?_)
                · refine lv_aload_n hx hb dX12_nextOrder_68 rfl (lv_at hl 2 rfl) ?_
                  refine va_get (D := (dC, dI)) (ci := 12) (v := .ref mz) (C := RX12) (T := TX12) (N := 24) hx hb hts iw_m_nextOrder_X12 hown hK hP 0 rfl rfl 13 (by decide) (hts (.fieldLink RX12 34 "ThriceCountedModel" "order" "[I") (by decide +kernel)) (fun _ h9 => h9) rfl dX12_nextOrder_69 ?_
                  refine lv_iload_n hx hb dX12_nextOrder_72 rfl (lv_at hl 1 rfl) ?_
                  refine va_iald hx hb hK hP 1 0 rfl rfl (show ¬ ((3 : Int32) < 0 ∨ 6 ≤ (3 : Int32).toNatClampNeg) by decide) dX12_nextOrder_73 ?_
                  refine tz_i (fz_ 3) rfl ?_
                  refine lv_istore_n (lv' := [(3, .int (fz_ 3)), (2, .int 4), (1, .int 3), (0, .ref mo)]) hx hb dX12_nextOrder_74 rfl hl (by decide) rfl (fun ls hl => ?_)
                  refine lv_aload_n hx hb dX12_nextOrder_75 rfl (lv_at hl 3 rfl) ?_
                  refine va_get (D := (dC, dI)) (ci := 12) (v := .ref mz) (C := RX12) (T := TX12) (N := 24) hx hb hts iw_m_nextOrder_X12 hown hK hP 0 rfl rfl 13 (by decide) (hts (.fieldLink RX12 34 "ThriceCountedModel" "order" "[I") (by decide +kernel)) (fun _ h9 => h9) rfl dX12_nextOrder_76 ?_
                  refine lv_iload_n hx hb dX12_nextOrder_79 rfl (lv_at hl 2 rfl) ?_
                  refine lv_aload_n hx hb dX12_nextOrder_80 rfl (lv_at hl 3 rfl) ?_
                  refine va_get (D := (dC, dI)) (ci := 12) (v := .ref mz) (C := RX12) (T := TX12) (N := 24) hx hb hts iw_m_nextOrder_X12 hown hK hP 0 rfl rfl 13 (by decide) (hts (.fieldLink RX12 34 "ThriceCountedModel" "order" "[I") (by decide +kernel)) (fun _ h9 => h9) rfl dX12_nextOrder_81 ?_
                  refine lv_iload_n hx hb dX12_nextOrder_84 rfl (lv_at hl 1 rfl) ?_
                  refine va_iald hx hb hK hP 1 0 rfl rfl (show ¬ ((4 : Int32) < 0 ∨ 6 ≤ (4 : Int32).toNatClampNeg) by decide) dX12_nextOrder_85 ?_
                  refine tz_i (fz_ 4) rfl ?_
                  refine va_iast hx hb hK hP hD hS 1 0 rfl rfl (show ¬ ((3 : Int32) < 0 ∨ 6 ≤ (3 : Int32).toNatClampNeg) by decide) dX12_nextOrder_86 (fun H locs hP hD hS => ?_)
                  have hP : va_P (dC, dI) vwCl [(mo, .inr (12, [.ref nw, .ref kp, .ref ik, .ref mr, .long la_, .long lb_, .ref mw, .long lc_, .int ti_, .int cb_, .long ld_, .long le_, .ref mq, .ref mz, .ref my, .int 6, .ref mb, .int bl_, .int ta_, .int tl_, .int tk_, .int vl_, .ref mx, .ref mv])), (mz, .inl (cz_, 6, .inl (upd fz_ (Int32.toNatClampNeg 3) (fz_ 4))))] H := hP
                  have hD : va_D A [(mo, .inr (12, [.ref nw, .ref kp, .ref ik, .ref mr, .long la_, .long lb_, .ref mw, .long lc_, .int ti_, .int cb_, .long ld_, .long le_, .ref mq, .ref mz, .ref my, .int 6, .ref mb, .int bl_, .int ta_, .int tl_, .int tk_, .int vl_, .ref mx, .ref mv])), (mz, .inl (cz_, 6, .inl (upd fz_ (Int32.toNatClampNeg 3) (fz_ 4))))] := hD
                  refine lv_aload_n hx hb dX12_nextOrder_87 rfl (lv_at hl 3 rfl) ?_
                  refine va_get (D := (dC, dI)) (ci := 12) (v := .ref mz) (C := RX12) (T := TX12) (N := 24) hx hb hts iw_m_nextOrder_X12 hown hK hP 0 rfl rfl 13 (by decide) (hts (.fieldLink RX12 34 "ThriceCountedModel" "order" "[I") (by decide +kernel)) (fun _ h9 => h9) rfl dX12_nextOrder_88 ?_
                  refine lv_iload_n hx hb dX12_nextOrder_91 rfl (lv_at hl 1 rfl) ?_
                  refine lv_iload_n hx hb dX12_nextOrder_92 rfl (lv_at hl 0 rfl) ?_
                  refine va_iast hx hb hK hP hD hS 1 0 rfl rfl (show ¬ ((4 : Int32) < 0 ∨ 6 ≤ (4 : Int32).toNatClampNeg) by decide) dX12_nextOrder_93 (fun H locs hP hD hS => ?_)
                  have hP : va_P (dC, dI) vwCl [(mo, .inr (12, [.ref nw, .ref kp, .ref ik, .ref mr, .long la_, .long lb_, .ref mw, .long lc_, .int ti_, .int cb_, .long ld_, .long le_, .ref mq, .ref mz, .ref my, .int 6, .ref mb, .int bl_, .int ta_, .int tl_, .int tk_, .int vl_, .ref mx, .ref mv])), (mz, .inl (cz_, 6, .inl (upd (upd fz_ (Int32.toNatClampNeg 3) (fz_ 4)) (Int32.toNatClampNeg 4) (fz_ 3))))] H := hP
                  have hD : va_D A [(mo, .inr (12, [.ref nw, .ref kp, .ref ik, .ref mr, .long la_, .long lb_, .ref mw, .long lc_, .int ti_, .int cb_, .long ld_, .long le_, .ref mq, .ref mz, .ref my, .int 6, .ref mb, .int bl_, .int ta_, .int tl_, .int tk_, .int vl_, .ref mx, .ref mv])), (mz, .inl (cz_, 6, .inl (upd (upd fz_ (Int32.toNatClampNeg 3) (fz_ 4)) (Int32.toNatClampNeg 4) (fz_ 3))))] := hD
                  refine lv_iload_n hx hb dX12_nextOrder_94 rfl (lv_at hl 2 rfl) ?_
                  refine lv_iconst (v := 1) hx hb dX12_nextOrder_95 (by decide) ?_
                  refine lv_iadd hx hb dX12_nextOrder_96 ?_
                  refine tz_i 4 (by decide) ?_
                  refine lv_istore (lv' := [(4, .int 4), (3, .int (fz_ 3)), (2, .int 4), (1, .int 3), (0, .ref mo)]) hx hb dX12_nextOrder_97 hl (by decide) rfl (fun ls hl => ?_)
                  refine lv_aload_n hx hb dX12_nextOrder_99 rfl (lv_at hl 4 rfl) ?_
                  refine va_get (D := (dC, dI)) (ci := 12) (v := .int 6) (C := RX12) (T := TX12) (N := 24) hx hb hts iw_m_nextOrder_X12 hown hK hP 0 rfl rfl 15 (by decide) (hts (.fieldLink RX12 218 "ThriceCountedModel" "soughtMany" "I") (by decide +kernel)) (fun _ h9 => h9) rfl dX12_nextOrder_100 ?_
                  refine lv_iconst (v := 1) hx hb dX12_nextOrder_103 (by decide) ?_
                  refine lv_isub hx hb dX12_nextOrder_104 ?_
                  refine tz_i 5 (by decide) ?_
                  refine lv_istore (lv' := [(5, .int 5), (4, .int 4), (3, .int (fz_ 3)), (2, .int 4), (1, .int 3), (0, .ref mo)]) hx hb dX12_nextOrder_105 hl (by decide) rfl (fun ls hl => ?_)
                  refine lv_iload hx hb dX12_nextOrder_107 (lv_at hl 1 rfl) ?_
                  refine lv_iload hx hb dX12_nextOrder_109 (lv_at hl 0 rfl) ?_
                  refine lv_icmp_ge (tgt := 155) hx hb dX12_nextOrder_111 (by decide) (fun c_388 => ?_) (fun c_388 => ?_)
                  · exact absurd c_388 (by decide)
                  · refine lv_aload_n hx hb dX12_nextOrder_114 rfl (lv_at hl 5 rfl) ?_
                    refine va_get (D := (dC, dI)) (ci := 12) (v := .ref mz) (C := RX12) (T := TX12) (N := 24) hx hb hts iw_m_nextOrder_X12 hown hK hP 0 rfl rfl 13 (by decide) (hts (.fieldLink RX12 34 "ThriceCountedModel" "order" "[I") (by decide +kernel)) (fun _ h9 => h9) rfl dX12_nextOrder_115 ?_
                    refine lv_iload hx hb dX12_nextOrder_118 (lv_at hl 1 rfl) ?_
                    refine va_iald hx hb hK hP 1 0 rfl rfl (show ¬ ((4 : Int32) < 0 ∨ 6 ≤ (4 : Int32).toNatClampNeg) by decide) dX12_nextOrder_120 ?_
                    refine tz_i (fz_ 3) rfl ?_
                    refine lv_istore (lv' := [(6, .int (fz_ 3)), (5, .int 5), (4, .int 4), (3, .int (fz_ 3)), (2, .int 4), (1, .int 3), (0, .ref mo)]) hx hb dX12_nextOrder_121 hl (by decide) rfl (fun ls hl => ?_)
                    refine lv_aload_n hx hb dX12_nextOrder_123 rfl (lv_at hl 6 rfl) ?_
                    refine va_get (D := (dC, dI)) (ci := 12) (v := .ref mz) (C := RX12) (T := TX12) (N := 24) hx hb hts iw_m_nextOrder_X12 hown hK hP 0 rfl rfl 13 (by decide) (hts (.fieldLink RX12 34 "ThriceCountedModel" "order" "[I") (by decide +kernel)) (fun _ h9 => h9) rfl dX12_nextOrder_124 ?_
                    refine lv_iload hx hb dX12_nextOrder_127 (lv_at hl 2 rfl) ?_
                    refine lv_aload_n hx hb dX12_nextOrder_129 rfl (lv_at hl 6 rfl) ?_
                    refine va_get (D := (dC, dI)) (ci := 12) (v := .ref mz) (C := RX12) (T := TX12) (N := 24) hx hb hts iw_m_nextOrder_X12 hown hK hP 0 rfl rfl 13 (by decide) (hts (.fieldLink RX12 34 "ThriceCountedModel" "order" "[I") (by decide +kernel)) (fun _ h9 => h9) rfl dX12_nextOrder_130 ?_
                    refine lv_iload hx hb dX12_nextOrder_133 (lv_at hl 1 rfl) ?_
                    refine va_iald hx hb hK hP 1 0 rfl rfl (show ¬ ((5 : Int32) < 0 ∨ 6 ≤ (5 : Int32).toNatClampNeg) by decide) dX12_nextOrder_135 ?_
                    refine tz_i (fz_ 5) rfl ?_
                    refine va_iast hx hb hK hP hD hS 1 0 rfl rfl (show ¬ ((4 : Int32) < 0 ∨ 6 ≤ (4 : Int32).toNatClampNeg) by decide) dX12_nextOrder_136 (fun H locs hP hD hS => ?_)
                    have hP : va_P (dC, dI) vwCl [(mo, .inr (12, [.ref nw, .ref kp, .ref ik, .ref mr, .long la_, .long lb_, .ref mw, .long lc_, .int ti_, .int cb_, .long ld_, .long le_, .ref mq, .ref mz, .ref my, .int 6, .ref mb, .int bl_, .int ta_, .int tl_, .int tk_, .int vl_, .ref mx, .ref mv])), (mz, .inl (cz_, 6, .inl (upd (upd (upd fz_ (Int32.toNatClampNeg 3) (fz_ 4)) (Int32.toNatClampNeg 4) (fz_ 3)) (Int32.toNatClampNeg 4) (fz_ 5))))] H := hP
                    have hD : va_D A [(mo, .inr (12, [.ref nw, .ref kp, .ref ik, .ref mr, .long la_, .long lb_, .ref mw, .long lc_, .int ti_, .int cb_, .long ld_, .long le_, .ref mq, .ref mz, .ref my, .int 6, .ref mb, .int bl_, .int ta_, .int tl_, .int tk_, .int vl_, .ref mx, .ref mv])), (mz, .inl (cz_, 6, .inl (upd (upd (upd fz_ (Int32.toNatClampNeg 3) (fz_ 4)) (Int32.toNatClampNeg 4) (fz_ 3)) (Int32.toNatClampNeg 4) (fz_ 5))))] := hD
                    refine lv_aload_n hx hb dX12_nextOrder_137 rfl (lv_at hl 6 rfl) ?_
                    refine va_get (D := (dC, dI)) (ci := 12) (v := .ref mz) (C := RX12) (T := TX12) (N := 24) hx hb hts iw_m_nextOrder_X12 hown hK hP 0 rfl rfl 13 (by decide) (hts (.fieldLink RX12 34 "ThriceCountedModel" "order" "[I") (by decide +kernel)) (fun _ h9 => h9) rfl dX12_nextOrder_138 ?_
                    refine lv_iload hx hb dX12_nextOrder_141 (lv_at hl 1 rfl) ?_
                    refine lv_iload hx hb dX12_nextOrder_143 (lv_at hl 0 rfl) ?_
                    refine va_iast hx hb hK hP hD hS 1 0 rfl rfl (show ¬ ((5 : Int32) < 0 ∨ 6 ≤ (5 : Int32).toNatClampNeg) by decide) dX12_nextOrder_145 (fun H locs hP hD hS => ?_)
                    have hP : va_P (dC, dI) vwCl [(mo, .inr (12, [.ref nw, .ref kp, .ref ik, .ref mr, .long la_, .long lb_, .ref mw, .long lc_, .int ti_, .int cb_, .long ld_, .long le_, .ref mq, .ref mz, .ref my, .int 6, .ref mb, .int bl_, .int ta_, .int tl_, .int tk_, .int vl_, .ref mx, .ref mv])), (mz, .inl (cz_, 6, .inl (upd (upd (upd (upd fz_ (Int32.toNatClampNeg 3) (fz_ 4)) (Int32.toNatClampNeg 4) (fz_ 3)) (Int32.toNatClampNeg 4) (fz_ 5)) (Int32.toNatClampNeg 5) (fz_ 3))))] H := hP
                    have hD : va_D A [(mo, .inr (12, [.ref nw, .ref kp, .ref ik, .ref mr, .long la_, .long lb_, .ref mw, .long lc_, .int ti_, .int cb_, .long ld_, .long le_, .ref mq, .ref mz, .ref my, .int 6, .ref mb, .int bl_, .int ta_, .int tl_, .int tk_, .int vl_, .ref mx, .ref mv])), (mz, .inl (cz_, 6, .inl (upd (upd (upd (upd fz_ (Int32.toNatClampNeg 3) (fz_ 4)) (Int32.toNatClampNeg 4) (fz_ 3)) (Int32.toNatClampNeg 4) (fz_ 5)) (Int32.toNatClampNeg 5) (fz_ 3))))] := hD
                    refine lv_iinc (v := 5) (lv' := [(4, .int 5), (6, .int (fz_ 3)), (5, .int 5), (3, .int (fz_ 3)), (2, .int 4), (1, .int 3), (0, .ref mo)]) hx hb dX12_nextOrder_146 hl (k := 2) rfl (by decide) (by decide) rfl (fun ls hl => ?_)
                    refine lv_iinc (v := 4) (lv' := [(5, .int 4), (4, .int 5), (6, .int (fz_ 3)), (3, .int (fz_ 3)), (2, .int 4), (1, .int 3), (0, .ref mo)]) hx hb dX12_nextOrder_149 hl (k := 2) rfl (by decide) (by decide) rfl (fun ls hl => ?_)
                    refine lv_goto (tgt := 107) hx hb dX12_nextOrder_152 (by decide) ?_
                    refine lv_iload hx hb dX12_nextOrder_107 (lv_at hl 1 rfl) ?_
                    refine lv_iload hx hb dX12_nextOrder_109 (lv_at hl 0 rfl) ?_
                    refine lv_icmp_ge (tgt := 155) hx hb dX12_nextOrder_111 (by decide) (fun c_391 => ?_) (fun c_391 => ?_)
                    · refine lv_iconst (v := 1) hx hb dX12_nextOrder_155 (by decide) ?_
                      have hP9 := hP.sub (ws' := [(mo, .inr (12, [.ref nw, .ref kp, .ref ik, .ref mr, .long la_, .long lb_, .ref mw, .long lc_, .int ti_, .int cb_, .long ld_, .long le_, .ref mq, .ref mz, .ref my, .int (nI 6), .ref mb, .int bl_, .int ta_, .int tl_, .int tk_, .int vl_, .ref mx, .ref mv])), (mz, .inl (cz_, 6, .inl (upd (upd (upd (upd fz_ (Int32.toNatClampNeg 3) (fz_ 4)) (Int32.toNatClampNeg 4) (fz_ 3)) (Int32.toNatClampNeg 4) (fz_ 5)) (Int32.toNatClampNeg 5) (fz_ 3))))]) [0, 1] rfl
                      have hD9 := hD.sub (ws' := [(mo, .inr (12, [.ref nw, .ref kp, .ref ik, .ref mr, .long la_, .long lb_, .ref mw, .long lc_, .int ti_, .int cb_, .long ld_, .long le_, .ref mq, .ref mz, .ref my, .int (nI 6), .ref mb, .int bl_, .int ta_, .int tl_, .int tk_, .int vl_, .ref mx, .ref mv])), (mz, .inl (cz_, 6, .inl (upd (upd (upd (upd fz_ (Int32.toNatClampNeg 3) (fz_ 4)) (Int32.toNatClampNeg 4) (fz_ 3)) (Int32.toNatClampNeg 4) (fz_ 5)) (Int32.toNatClampNeg 5) (fz_ 3))))]) [0, 1] (by decide) rfl
                      have hK9 := hK.sub (tys' := [(cz_, .int)]) [0] rfl
                      have hlt_392 : (fz_ 3).toInt < (fz_ 4).toInt := tz_ltt2 c_385 (hdi.2 3 4 (by omega) (by omega))
                      have hb_393 := hdi.1 0 (by omega)
                      have hb_394 := hdi.1 1 (by omega)
                      have hb_395 := hdi.1 2 (by omega)
                      have hb_396 := hdi.1 3 (by omega)
                      have hb_397 := hdi.1 4 (by omega)
                      have hb_398 := hdi.1 5 (by omega)
                      have ev_399 : tz_val 6 fz_ = 7776 * (fz_ 0).toInt + 1296 * (fz_ 1).toInt + 216 * (fz_ 2).toInt + 36 * (fz_ 3).toInt + 6 * (fz_ 4).toInt + (fz_ 5).toInt := rfl
                      have eg_400 : tz_val 6 (upd (upd (upd (upd fz_ (Int32.toNatClampNeg 3) (fz_ 4)) (Int32.toNatClampNeg 4) (fz_ 3)) (Int32.toNatClampNeg 4) (fz_ 5)) (Int32.toNatClampNeg 5) (fz_ 3)) = 7776 * (fz_ 0).toInt + 1296 * (fz_ 1).toInt + 216 * (fz_ 2).toInt + 36 * (fz_ 4).toInt + 6 * (fz_ 5).toInt + (fz_ 3).toInt := rfl
                      have hp_401 : tz_Di 6 (upd (upd (upd (upd fz_ (Int32.toNatClampNeg 3) (fz_ 4)) (Int32.toNatClampNeg 4) (fz_ 3)) (Int32.toNatClampNeg 4) (fz_ 5)) (Int32.toNatClampNeg 5) (fz_ 3)) := hdi.perm (fun a => ([0, 1, 2, 4, 5, 3] : List Nat).getD a 0) (fun a ha => by
                        rcases (show a = 0 ∨ a = 1 ∨ a = 2 ∨ a = 3 ∨ a = 4 ∨ a = 5 by omega) with rfl | rfl | rfl | rfl | rfl | rfl <;> exact ⟨by decide, rfl⟩) (by decide)
                      exact W.zret (v := 1) hx hb hr (by decide) (fun t ht hW => ⟨⟨1, (), rfl, Or.inr ⟨rfl, 3, by omega, tz_nle_of c_385⟩, (upd (upd (upd (upd fz_ (Int32.toNatClampNeg 3) (fz_ 4)) (Int32.toNatClampNeg 4) (fz_ 3)) (Int32.toNatClampNeg 4) (fz_ 5)) (Int32.toNatClampNeg 5) (fz_ 3)), hp_401, by rw [ev_399, eg_400]; omega, fun _ => by rw [ev_399, eg_400]; omega, by rw [ht]; exact hP9, va_K.moved hW.alike hK9, hD9⟩, hS.F ht⟩) hS.2.2 dX12_nextOrder_156
                    · exact absurd c_391 (by decide)
                · exact absurd c_366 c_385
            · exact absurd c_367 (by decide)
          · refine lv_iinc (v := 2) (lv' := [(1, .int 2), (0, .ref mo)]) hx hb dX12_nextOrder_28 hl (k := 0) rfl (by decide) (by decide) rfl (fun ls hl => ?_)
            refine lv_goto (tgt := 7) hx hb dX12_nextOrder_31 (by decide) ?_
            refine lv_iload_n hx hb dX12_nextOrder_7 rfl (lv_at hl 0 rfl) ?_
            refine lv_if_lt (tgt := 34) hx hb dX12_nextOrder_8 (by decide) (fun c_402 => ?_) (fun c_402 => ?_)
            · exact absurd c_402 (by decide)
            · refine lv_aload_n hx hb dX12_nextOrder_11 rfl (lv_at hl 1 rfl) ?_
              refine va_get (D := (dC, dI)) (ci := 12) (v := .ref mz) (C := RX12) (T := TX12) (N := 24) hx hb hts iw_m_nextOrder_X12 hown hK hP 0 rfl rfl 13 (by decide) (hts (.fieldLink RX12 34 "ThriceCountedModel" "order" "[I") (by decide +kernel)) (fun _ h9 => h9) rfl dX12_nextOrder_12 ?_
              refine lv_iload_n hx hb dX12_nextOrder_15 rfl (lv_at hl 0 rfl) ?_
              refine va_iald hx hb hK hP 1 0 rfl rfl (show ¬ ((2 : Int32) < 0 ∨ 6 ≤ (2 : Int32).toNatClampNeg) by decide) dX12_nextOrder_16 ?_
              refine tz_i (fz_ 2) rfl ?_
              refine lv_aload_n hx hb dX12_nextOrder_17 rfl (lv_at hl 1 rfl) ?_
              refine va_get (D := (dC, dI)) (ci := 12) (v := .ref mz) (C := RX12) (T := TX12) (N := 24) hx hb hts iw_m_nextOrder_X12 hown hK hP 0 rfl rfl 13 (by decide) (hts (.fieldLink RX12 34 "ThriceCountedModel" "order" "[I") (by decide +kernel)) (fun _ h9 => h9) rfl dX12_nextOrder_18 ?_
              refine lv_iload_n hx hb dX12_nextOrder_21 rfl (lv_at hl 0 rfl) ?_
              refine lv_iconst (v := 1) hx hb dX12_nextOrder_22 (by decide) ?_
              refine lv_iadd hx hb dX12_nextOrder_23 ?_
              refine tz_i 3 (by decide) ?_
              refine va_iald hx hb hK hP 1 0 rfl rfl (show ¬ ((3 : Int32) < 0 ∨ 6 ≤ (3 : Int32).toNatClampNeg) by decide) dX12_nextOrder_24 ?_
              refine tz_i (fz_ 3) rfl ?_
              refine lv_icmp_le (tgt := 34) hx hb dX12_nextOrder_25 (by decide) (fun c_403 => ?_) (fun c_403 => ?_)
              · refine lv_iload_n hx hb dX12_nextOrder_34 rfl (lv_at hl 0 rfl) ?_
                refine lv_if_ge (tgt := 40) hx hb dX12_nextOrder_35 (by decide) (fun c_404 => ?_) (fun c_404 => ?_)
                · refine lv_aload_n hx hb dX12_nextOrder_40 rfl (lv_at hl 1 rfl) ?_
                  refine va_get (D := (dC, dI)) (ci := 12) (v := .int 6) (C := RX12) (T := TX12) (N := 24) hx hb hts iw_m_nextOrder_X12 hown hK hP 0 rfl rfl 15 (by decide) (hts (.fieldLink RX12 218 "ThriceCountedModel" "soughtMany" "I") (by decide +kernel)) (fun _ h9 => h9) rfl dX12_nextOrder_41 ?_
                  refine lv_iconst (v := 1) hx hb dX12_nextOrder_44 (by decide) ?_
                  refine lv_isub hx hb dX12_nextOrder_45 ?_
                  refine tz_i 5 (by decide) ?_
                  refine lv_istore_n (lv' := [(2, .int 5), (1, .int 2), (0, .ref mo)]) hx hb dX12_nextOrder_46 rfl hl (by decide) rfl (fun ls hl => ?_)
                  refine lv_aload_n hx hb dX12_nextOrder_47 rfl (lv_at hl 2 rfl) ?_
                  refine va_get (D := (dC, dI)) (ci := 12) (v := .ref mz) (C := RX12) (T := TX12) (N := 24) hx hb hts iw_m_nextOrder_X12 hown hK hP 0 rfl rfl 13 (by decide) (hts (.fieldLink RX12 34 "ThriceCountedModel" "order" "[I") (by decide +kernel)) (fun _ h9 => h9) rfl dX12_nextOrder_48 ?_
                  refine lv_iload_n hx hb dX12_nextOrder_51 rfl (lv_at hl 0 rfl) ?_
                  refine va_iald hx hb hK hP 1 0 rfl rfl (show ¬ ((5 : Int32) < 0 ∨ 6 ≤ (5 : Int32).toNatClampNeg) by decide) dX12_nextOrder_52 ?_
                  refine tz_i (fz_ 5) rfl ?_
                  refine lv_aload_n hx hb dX12_nextOrder_53 rfl (lv_at hl 2 rfl) ?_
                  refine va_get (D := (dC, dI)) (ci := 12) (v := .ref mz) (C := RX12) (T := TX12) (N := 24) hx hb hts iw_m_nextOrder_X12 hown hK hP 0 rfl rfl 13 (by decide) (hts (.fieldLink RX12 34 "ThriceCountedModel" "order" "[I") (by decide +kernel)) (fun _ h9 => h9) rfl dX12_nextOrder_54 ?_
                  refine lv_iload_n hx hb dX12_nextOrder_57 rfl (lv_at hl 1 rfl) ?_
                  refine va_iald hx hb hK hP 1 0 rfl rfl (show ¬ ((2 : Int32) < 0 ∨ 6 ≤ (2 : Int32).toNatClampNeg) by decide) dX12_nextOrder_58 ?_
                  refine tz_i (fz_ 2) rfl ?_
                  refine lv_icmp_ge (tgt := 68) hx hb dX12_nextOrder_59 (by decide) (fun c_405 => ?_) (fun c_405 => ?_)
                  · refine lv_aload_n hx hb dX12_nextOrder_68 rfl (lv_at hl 2 rfl) ?_
                    refine va_get (D := (dC, dI)) (ci := 12) (v := .ref mz) (C := RX12) (T := TX12) (N := 24) hx hb hts iw_m_nextOrder_X12 hown hK hP 0 rfl rfl 13 (by decide) (hts (.fieldLink RX12 34 "ThriceCountedModel" "order" "[I") (by decide +kernel)) (fun _ h9 => h9) rfl dX12_nextOrder_69 ?_
                    refine lv_iload_n hx hb dX12_nextOrder_72 rfl (lv_at hl 1 rfl) ?_
                    refine va_iald hx hb hK hP 1 0 rfl rfl (show ¬ ((2 : Int32) < 0 ∨ 6 ≤ (2 : Int32).toNatClampNeg) by decide) dX12_nextOrder_73 ?_
                    refine tz_i (fz_ 2) rfl ?_
                    refine lv_istore_n (lv' := [(3, .int (fz_ 2)), (2, .int 5), (1, .int 2), (0, .ref mo)]) hx hb dX12_nextOrder_74 rfl hl (by decide) rfl (fun ls hl => ?_)
                    refine lv_aload_n hx hb dX12_nextOrder_75 rfl (lv_at hl 3 rfl) ?_
                    refine va_get (D := (dC, dI)) (ci := 12) (v := .ref mz) (C := RX12) (T := TX12) (N := 24) hx hb hts iw_m_nextOrder_X12 hown hK hP 0 rfl rfl 13 (by decide) (hts (.fieldLink RX12 34 "ThriceCountedModel" "order" "[I") (by decide +kernel)) (fun _ h9 => h9) rfl dX12_nextOrder_76 ?_
                    refine lv_iload_n hx hb dX12_nextOrder_79 rfl (lv_at hl 2 rfl) ?_
                    refine lv_aload_n hx hb dX12_nextOrder_80 rfl (lv_at hl 3 rfl) ?_
                    refine va_get (D := (dC, dI)) (ci := 12) (v := .ref mz) (C := RX12) (T := TX12) (N := 24) hx hb hts iw_m_nextOrder_X12 hown hK hP 0 rfl rfl 13 (by decide) (hts (.fieldLink RX12 34 "ThriceCountedModel" "order" "[I") (by decide +kernel)) (fun _ h9 => h9) rfl dX12_nextOrder_81 ?_
                    refine lv_iload_n hx hb dX12_nextOrder_84 rfl (lv_at hl 1 rfl) ?_
                    refine va_iald hx hb hK hP 1 0 rfl rfl (show ¬ ((5 : Int32) < 0 ∨ 6 ≤ (5 : Int32).toNatClampNeg) by decide) dX12_nextOrder_85 ?_
                    refine tz_i (fz_ 5) rfl ?_
                    refine va_iast hx hb hK hP hD hS 1 0 rfl rfl (show ¬ ((2 : Int32) < 0 ∨ 6 ≤ (2 : Int32).toNatClampNeg) by decide) dX12_nextOrder_86 (fun H locs hP hD hS => ?_)
                    have hP : va_P (dC, dI) vwCl [(mo, .inr (12, [.ref nw, .ref kp, .ref ik, .ref mr, .long la_, .long lb_, .ref mw, .long lc_, .int ti_, .int cb_, .long ld_, .long le_, .ref mq, .ref mz, .ref my, .int 6, .ref mb, .int bl_, .int ta_, .int tl_, .int tk_, .int vl_, .ref mx, .ref mv])), (mz, .inl (cz_, 6, .inl (upd fz_ (Int32.toNatClampNeg 2) (fz_ 5))))] H := hP
                    have hD : va_D A [(mo, .inr (12, [.ref nw, .ref kp, .ref ik, .ref mr, .long la_, .long lb_, .ref mw, .long lc_, .int ti_, .int cb_, .long ld_, .long le_, .ref mq, .ref mz, .ref my, .int 6, .ref mb, .int bl_, .int ta_, .int tl_, .int tk_, .int vl_, .ref mx, .ref mv])), (mz, .inl (cz_, 6, .inl (upd fz_ (Int32.toNatClampNeg 2) (fz_ 5))))] := hD
                    refine lv_aload_n hx hb dX12_nextOrder_87 rfl (lv_at hl 3 rfl) ?_
                    refine va_get (D := (dC, dI)) (ci := 12) (v := .ref mz) (C := RX12) (T := TX12) (N := 24) hx hb hts iw_m_nextOrder_X12 hown hK hP 0 rfl rfl 13 (by decide) (hts (.fieldLink RX12 34 "ThriceCountedModel" "order" "[I") (by decide +kernel)) (fun _ h9 => h9) rfl dX12_nextOrder_88 ?_
                    refine lv_iload_n hx hb dX12_nextOrder_91 rfl (lv_at hl 1 rfl) ?_
                    refine lv_iload_n hx hb dX12_nextOrder_92 rfl (lv_at hl 0 rfl) ?_
                    refine va_iast hx hb hK hP hD hS 1 0 rfl rfl (show ¬ ((5 : Int32) < 0 ∨ 6 ≤ (5 : Int32).toNatClampNeg) by decide) dX12_nextOrder_93 (fun H locs hP hD hS => ?_)
                    have hP : va_P (dC, dI) vwCl [(mo, .inr (12, [.ref nw, .ref kp, .ref ik, .ref mr, .long la_, .long lb_, .ref mw, .long lc_, .int ti_, .int cb_, .long ld_, .long le_, .ref mq, .ref mz, .ref my, .int 6, .ref mb, .int bl_, .int ta_, .int tl_, .int tk_, .int vl_, .ref mx, .ref mv])), (mz, .inl (cz_, 6, .inl (upd (upd fz_ (Int32.toNatClampNeg 2) (fz_ 5)) (Int32.toNatClampNeg 5) (fz_ 2))))] H := hP
                    have hD : va_D A [(mo, .inr (12, [.ref nw, .ref kp, .ref ik, .ref mr, .long la_, .long lb_, .ref mw, .long lc_, .int ti_, .int cb_, .long ld_, .long le_, .ref mq, .ref mz, .ref my, .int 6, .ref mb, .int bl_, .int ta_, .int tl_, .int tk_, .int vl_, .ref mx, .ref mv])), (mz, .inl (cz_, 6, .inl (upd (upd fz_ (Int32.toNatClampNeg 2) (fz_ 5)) (Int32.toNatClampNeg 5) (fz_ 2))))] := hD
                    refine lv_iload_n hx hb dX12_nextOrder_94 rfl (lv_at hl 2 rfl) ?_
                    refine lv_iconst (v := 1) hx hb dX12_nextOrder_95 (by decide) ?_
                    refine lv_iadd hx hb dX12_nextOrder_96 ?_
                    refine tz_i 3 (by decide) ?_
                    refine lv_istore (lv' := [(4, .int 3), (3, .int (fz_ 2)), (2, .int 5), (1, .int 2), (0, .ref mo)]) hx hb dX12_nextOrder_97 hl (by decide) rfl (fun ls hl => ?_)
                    refine lv_aload_n hx hb dX12_nextOrder_99 rfl (lv_at hl 4 rfl) ?_
                    refine va_get (D := (dC, dI)) (ci := 12) (v := .int 6) (C := RX12) (T := TX12) (N := 24) hx hb hts iw_m_nextOrder_X12 hown hK hP 0 rfl rfl 15 (by decide) (hts (.fieldLink RX12 218 "ThriceCountedModel" "soughtMany" "I") (by decide +kernel)) (fun _ h9 => h9) rfl dX12_nextOrder_100 ?_
                    refine lv_iconst (v := 1) hx hb dX12_nextOrder_103 (by decide) ?_
                    refine lv_isub hx hb dX12_nextOrder_104 ?_
                    refine tz_i 5 (by decide) ?_
                    refine lv_istore (lv' := [(5, .int 5), (4, .int 3), (3, .int (fz_ 2)), (2, .int 5), (1, .int 2), (0, .ref mo)]) hx hb dX12_nextOrder_105 hl (by decide) rfl (fun ls hl => ?_)
                    refine lv_iload hx hb dX12_nextOrder_107 (lv_at hl 1 rfl) ?_
                    refine lv_iload hx hb dX12_nextOrder_109 (lv_at hl 0 rfl) ?_
                    refine lv_icmp_ge (tgt := 155) hx hb dX12_nextOrder_111 (by decide) (fun c_408 => ?_) (fun c_408 => ?_)
                    · exact absurd c_408 (by decide)
                    · refine lv_aload_n hx hb dX12_nextOrder_114 rfl (lv_at hl 5 rfl) ?_
                      refine va_get (D := (dC, dI)) (ci := 12) (v := .ref mz) (C := RX12) (T := TX12) (N := 24) hx hb hts iw_m_nextOrder_X12 hown hK hP 0 rfl rfl 13 (by decide) (hts (.fieldLink RX12 34 "ThriceCountedModel" "order" "[I") (by decide +kernel)) (fun _ h9 => h9) rfl dX12_nextOrder_115 ?_
                      refine lv_iload hx hb dX12_nextOrder_118 (lv_at hl 1 rfl) ?_
                      refine va_iald hx hb hK hP 1 0 rfl rfl (show ¬ ((3 : Int32) < 0 ∨ 6 ≤ (3 : Int32).toNatClampNeg) by decide) dX12_nextOrder_120 ?_
                      refine tz_i (fz_ 3) rfl ?_
                      refine lv_istore (lv' := [(6, .int (fz_ 3)), (5, .int 5), (4, .int 3), (3, .int (fz_ 2)), (2, .int 5), (1, .int 2), (0, .ref mo)]) hx hb dX12_nextOrder_121 hl (by decide) rfl (fun ls hl => ?_)
                      refine lv_aload_n hx hb dX12_nextOrder_123 rfl (lv_at hl 6 rfl) ?_
                      refine va_get (D := (dC, dI)) (ci := 12) (v := .ref mz) (C := RX12) (T := TX12) (N := 24) hx hb hts iw_m_nextOrder_X12 hown hK hP 0 rfl rfl 13 (by decide) (hts (.fieldLink RX12 34 "ThriceCountedModel" "order" "[I") (by decide +kernel)) (fun _ h9 => h9) rfl dX12_nextOrder_124 ?_
                      refine lv_iload hx hb dX12_nextOrder_127 (lv_at hl 2 rfl) ?_
                      refine lv_aload_n hx hb dX12_nextOrder_129 rfl (lv_at hl 6 rfl) ?_
                      refine va_get (D := (dC, dI)) (ci := 12) (v := .ref mz) (C := RX12) (T := TX12) (N := 24) hx hb hts iw_m_nextOrder_X12 hown hK hP 0 rfl rfl 13 (by decide) (hts (.fieldLink RX12 34 "ThriceCountedModel" "order" "[I") (by decide +kernel)) (fun _ h9 => h9) rfl dX12_nextOrder_130 ?_
                      refine lv_iload hx hb dX12_nextOrder_133 (lv_at hl 1 rfl) ?_
                      refine va_iald hx hb hK hP 1 0 rfl rfl (show ¬ ((5 : Int32) < 0 ∨ 6 ≤ (5 : Int32).toNatClampNeg) by decide) dX12_nextOrder_135 ?_
                      refine tz_i (fz_ 2) rfl ?_
                      refine va_iast hx hb hK hP hD hS 1 0 rfl rfl (show ¬ ((3 : Int32) < 0 ∨ 6 ≤ (3 : Int32).toNatClampNeg) by decide) dX12_nextOrder_136 (fun H locs hP hD hS => ?_)
                      have hP : va_P (dC, dI) vwCl [(mo, .inr (12, [.ref nw, .ref kp, .ref ik, .ref mr, .long la_, .long lb_, .ref mw, .long lc_, .int ti_, .int cb_, .long ld_, .long le_, .ref mq, .ref mz, .ref my, .int 6, .ref mb, .int bl_, .int ta_, .int tl_, .int tk_, .int vl_, .ref mx, .ref mv])), (mz, .inl (cz_, 6, .inl (upd (upd (upd fz_ (Int32.toNatClampNeg 2) (fz_ 5)) (Int32.toNatClampNeg 5) (fz_ 2)) (Int32.toNatClampNeg 3) (fz_ 2))))] H := hP
                      have hD : va_D A [(mo, .inr (12, [.ref nw, .ref kp, .ref ik, .ref mr, .long la_, .long lb_, .ref mw, .long lc_, .int ti_, .int cb_, .long ld_, .long le_, .ref mq, .ref mz, .ref my, .int 6, .ref mb, .int bl_, .int ta_, .int tl_, .int tk_, .int vl_, .ref mx, .ref mv])), (mz, .inl (cz_, 6, .inl (upd (upd (upd fz_ (Int32.toNatClampNeg 2) (fz_ 5)) (Int32.toNatClampNeg 5) (fz_ 2)) (Int32.toNatClampNeg 3) (fz_ 2))))] := hD
                      refine lv_aload_n hx hb dX12_nextOrder_137 rfl (lv_at hl 6 rfl) ?_
                      refine va_get (D := (dC, dI)) (ci := 12) (v := .ref mz) (C := RX12) (T := TX12) (N := 24) hx hb hts iw_m_nextOrder_X12 hown hK hP 0 rfl rfl 13 (by decide) (hts (.fieldLink RX12 34 "ThriceCountedModel" "order" "[I") (by decide +kernel)) (fun _ h9 => h9) rfl dX12_nextOrder_138 ?_
                      refine lv_iload hx hb dX12_nextOrder_141 (lv_at hl 1 rfl) ?_
                      refine lv_iload hx hb dX12_nextOrder_143 (lv_at hl 0 rfl) ?_
                      refine va_iast hx hb hK hP hD hS 1 0 rfl rfl (show ¬ ((5 : Int32) < 0 ∨ 6 ≤ (5 : Int32).toNatClampNeg) by decide) dX12_nextOrder_145 (fun H locs hP hD hS => ?_)
                      have hP : va_P (dC, dI) vwCl [(mo, .inr (12, [.ref nw, .ref kp, .ref ik, .ref mr, .long la_, .long lb_, .ref mw, .long lc_, .int ti_, .int cb_, .long ld_, .long le_, .ref mq, .ref mz, .ref my, .int 6, .ref mb, .int bl_, .int ta_, .int tl_, .int tk_, .int vl_, .ref mx, .ref mv])), (mz, .inl (cz_, 6, .inl (upd (upd (upd (upd fz_ (Int32.toNatClampNeg 2) (fz_ 5)) (Int32.toNatClampNeg 5) (fz_ 2)) (Int32.toNatClampNeg 3) (fz_ 2)) (Int32.toNatClampNeg 5) (fz_ 3))))] H := hP
                      have hD : va_D A [(mo, .inr (12, [.ref nw, .ref kp, .ref ik, .ref mr, .long la_, .long lb_, .ref mw, .long lc_, .int ti_, .int cb_, .long ld_, .long le_, .ref mq, .ref mz, .ref my, .int 6, .ref mb, .int bl_, .int ta_, .int tl_, .int tk_, .int vl_, .ref mx, .ref mv])), (mz, .inl (cz_, 6, .inl (upd (upd (upd (upd fz_ (Int32.toNatClampNeg 2) (fz_ 5)) (Int32.toNatClampNeg 5) (fz_ 2)) (Int32.toNatClampNeg 3) (fz_ 2)) (Int32.toNatClampNeg 5) (fz_ 3))))] := hD
                      refine lv_iinc (v := 4) (lv' := [(4, .int 4), (6, .int (fz_ 3)), (5, .int 5), (3, .int (fz_ 2)), (2, .int 5), (1, .int 2), (0, .ref mo)]) hx hb dX12_nextOrder_146 hl (k := 2) rfl (by decide) (by decide) rfl (fun ls hl => ?_)
                      refine lv_iinc (v := 4) (lv' := [(5, .int 4), (4, .int 4), (6, .int (fz_ 3)), (3, .int (fz_ 2)), (2, .int 5), (1, .int 2), (0, .ref mo)]) hx hb dX12_nextOrder_149 hl (k := 2) rfl (by decide) (by decide) rfl (fun ls hl => ?_)
                      refine lv_goto (tgt := 107) hx hb dX12_nextOrder_152 (by decide) ?_
                      refine lv_iload hx hb dX12_nextOrder_107 (lv_at hl 1 rfl) ?_
                      refine lv_iload hx hb dX12_nextOrder_109 (lv_at hl 0 rfl) ?_
                      refine lv_icmp_ge (tgt := 155) hx hb dX12_nextOrder_111 (by decide) (fun c_411 => ?_) (fun c_411 => ?_)
                      · refine lv_iconst (v := 1) hx hb dX12_nextOrder_155 (by decide) ?_
                        have hP9 := hP.sub (ws' := [(mo, .inr (12, [.ref nw, .ref kp, .ref ik, .ref mr, .long la_, .long lb_, .ref mw, .long lc_, .int ti_, .int cb_, .long ld_, .long le_, .ref mq, .ref mz, .ref my, .int (nI 6), .ref mb, .int bl_, .int ta_, .int tl_, .int tk_, .int vl_, .ref mx, .ref mv])), (mz, .inl (cz_, 6, .inl (upd (upd (upd (upd fz_ (Int32.toNatClampNeg 2) (fz_ 5)) (Int32.toNatClampNeg 5) (fz_ 2)) (Int32.toNatClampNeg 3) (fz_ 2)) (Int32.toNatClampNeg 5) (fz_ 3))))]) [0, 1] rfl
                        have hD9 := hD.sub (ws' := [(mo, .inr (12, [.ref nw, .ref kp, .ref ik, .ref mr, .long la_, .long lb_, .ref mw, .long lc_, .int ti_, .int cb_, .long ld_, .long le_, .ref mq, .ref mz, .ref my, .int (nI 6), .ref mb, .int bl_, .int ta_, .int tl_, .int tk_, .int vl_, .ref mx, .ref mv])), (mz, .inl (cz_, 6, .inl (upd (upd (upd (upd fz_ (Int32.toNatClampNeg 2) (fz_ 5)) (Int32.toNatClampNeg 5) (fz_ 2)) (Int32.toNatClampNeg 3) (fz_ 2)) (Int32.toNatClampNeg 5) (fz_ 3))))]) [0, 1] (by decide) rfl
                        have hK9 := hK.sub (tys' := [(cz_, .int)]) [0] rfl
                        have hlt_412 : (fz_ 2).toInt < (fz_ 5).toInt := tz_ltt2 c_405 (hdi.2 2 5 (by omega) (by omega))
                        have hb_413 := hdi.1 0 (by omega)
                        have hb_414 := hdi.1 1 (by omega)
                        have hb_415 := hdi.1 2 (by omega)
                        have hb_416 := hdi.1 3 (by omega)
                        have hb_417 := hdi.1 4 (by omega)
                        have hb_418 := hdi.1 5 (by omega)
                        have ev_419 : tz_val 6 fz_ = 7776 * (fz_ 0).toInt + 1296 * (fz_ 1).toInt + 216 * (fz_ 2).toInt + 36 * (fz_ 3).toInt + 6 * (fz_ 4).toInt + (fz_ 5).toInt := rfl
                        have eg_420 : tz_val 6 (upd (upd (upd (upd fz_ (Int32.toNatClampNeg 2) (fz_ 5)) (Int32.toNatClampNeg 5) (fz_ 2)) (Int32.toNatClampNeg 3) (fz_ 2)) (Int32.toNatClampNeg 5) (fz_ 3)) = 7776 * (fz_ 0).toInt + 1296 * (fz_ 1).toInt + 216 * (fz_ 5).toInt + 36 * (fz_ 2).toInt + 6 * (fz_ 4).toInt + (fz_ 3).toInt := rfl
                        have hp_421 : tz_Di 6 (upd (upd (upd (upd fz_ (Int32.toNatClampNeg 2) (fz_ 5)) (Int32.toNatClampNeg 5) (fz_ 2)) (Int32.toNatClampNeg 3) (fz_ 2)) (Int32.toNatClampNeg 5) (fz_ 3)) := hdi.perm (fun a => ([0, 1, 5, 2, 4, 3] : List Nat).getD a 0) (fun a ha => by
                          rcases (show a = 0 ∨ a = 1 ∨ a = 2 ∨ a = 3 ∨ a = 4 ∨ a = 5 by omega) with rfl | rfl | rfl | rfl | rfl | rfl <;> exact ⟨by decide, rfl⟩) (by decide)
                        exact W.zret (v := 1) hx hb hr (by decide) (fun t ht hW => ⟨⟨1, (), rfl, Or.inr ⟨rfl, 2, by omega, tz_nle_of c_403⟩, (upd (upd (upd (upd fz_ (Int32.toNatClampNeg 2) (fz_ 5)) (Int32.toNatClampNeg 5) (fz_ 2)) (Int32.toNatClampNeg 3) (fz_ 2)) (Int32.toNatClampNeg 5) (fz_ 3)), hp_421, by rw [ev_419, eg_420]; omega, fun _ => by rw [ev_419, eg_420]; omega, by rw [ht]; exact hP9, va_K.moved hW.alike hK9, hD9⟩, hS.F ht⟩) hS.2.2 dX12_nextOrder_156
                      · exact absurd c_411 (by decide)
                  · refine lv_iinc (v := 4) (lv' := [(2, .int 4), (1, .int 2), (0, .ref mo)]) hx hb dX12_nextOrder_62 hl (k := 0) rfl (by decide) (by decide) rfl (fun ls hl => ?_)
                    refine lv_goto (tgt := 47) hx hb dX12_nextOrder_65 (by decide) ?_
                    refine lv_aload_n hx hb dX12_nextOrder_47 rfl (lv_at hl 2 rfl) ?_
                    refine va_get (D := (dC, dI)) (ci := 12) (v := .ref mz) (C := RX12) (T := TX12) (N := 24) hx hb hts iw_m_nextOrder_X12 hown hK hP 0 rfl rfl 13 (by decide) (hts (.fieldLink RX12 34 "ThriceCountedModel" "order" "[I") (by decide +kernel)) (fun _ h9 => h9) rfl dX12_nextOrder_48 ?_
                    refine lv_iload_n hx hb dX12_nextOrder_51 rfl (lv_at hl 0 rfl) ?_
                    refine va_iald hx hb hK hP 1 0 rfl rfl (show ¬ ((4 : Int32) < 0 ∨ 6 ≤ (4 : Int32).toNatClampNeg) by decide) dX12_nextOrder_52 ?_
                    refine tz_i (fz_ 4) rfl ?_
                    refine lv_aload_n hx hb dX12_nextOrder_53 rfl (lv_at hl 2 rfl) ?_
                    refine va_get (D := (dC, dI)) (ci := 12) (v := .ref mz) (C := RX12) (T := TX12) (N := 24) hx hb hts iw_m_nextOrder_X12 hown hK hP 0 rfl rfl 13 (by decide) (hts (.fieldLink RX12 34 "ThriceCountedModel" "order" "[I") (by decide +kernel)) (fun _ h9 => h9) rfl dX12_nextOrder_54 ?_
                    refine lv_iload_n hx hb dX12_nextOrder_57 rfl (lv_at hl 1 rfl) ?_
                    refine va_iald hx hb hK hP 1 0 rfl rfl (show ¬ ((2 : Int32) < 0 ∨ 6 ≤ (2 : Int32).toNatClampNeg) by decide) dX12_nextOrder_58 ?_
                    refine tz_i (fz_ 2) rfl ?_
                    refine lv_icmp_ge (tgt := 68) hx hb dX12_nextOrder_59 (by decide) (fun c_422 => ?_) (fun c_422 => ?_)
                    · refine lv_aload_n hx hb dX12_nextOrder_68 rfl (lv_at hl 2 rfl) ?_
                      refine va_get (D := (dC, dI)) (ci := 12) (v := .ref mz) (C := RX12) (T := TX12) (N := 24) hx hb hts iw_m_nextOrder_X12 hown hK hP 0 rfl rfl 13 (by decide) (hts (.fieldLink RX12 34 "ThriceCountedModel" "order" "[I") (by decide +kernel)) (fun _ h9 => h9) rfl dX12_nextOrder_69 ?_
                      refine lv_iload_n hx hb dX12_nextOrder_72 rfl (lv_at hl 1 rfl) ?_
                      refine va_iald hx hb hK hP 1 0 rfl rfl (show ¬ ((2 : Int32) < 0 ∨ 6 ≤ (2 : Int32).toNatClampNeg) by decide) dX12_nextOrder_73 ?_
                      refine tz_i (fz_ 2) rfl ?_
                      refine lv_istore_n (lv' := [(3, .int (fz_ 2)), (2, .int 4), (1, .int 2), (0, .ref mo)]) hx hb dX12_nextOrder_74 rfl hl (by decide) rfl (fun ls hl => ?_)
                      refine lv_aload_n hx hb dX12_nextOrder_75 rfl (lv_at hl 3 rfl) ?_
                      refine va_get (D := (dC, dI)) (ci := 12) (v := .ref mz) (C := RX12) (T := TX12) (N := 24) hx hb hts iw_m_nextOrder_X12 hown hK hP 0 rfl rfl 13 (by decide) (hts (.fieldLink RX12 34 "ThriceCountedModel" "order" "[I") (by decide +kernel)) (fun _ h9 => h9) rfl dX12_nextOrder_76 ?_
                      refine lv_iload_n hx hb dX12_nextOrder_79 rfl (lv_at hl 2 rfl) ?_
                      refine lv_aload_n hx hb dX12_nextOrder_80 rfl (lv_at hl 3 rfl) ?_
                      refine va_get (D := (dC, dI)) (ci := 12) (v := .ref mz) (C := RX12) (T := TX12) (N := 24) hx hb hts iw_m_nextOrder_X12 hown hK hP 0 rfl rfl 13 (by decide) (hts (.fieldLink RX12 34 "ThriceCountedModel" "order" "[I") (by decide +kernel)) (fun _ h9 => h9) rfl dX12_nextOrder_81 ?_
                      refine lv_iload_n hx hb dX12_nextOrder_84 rfl (lv_at hl 1 rfl) ?_
                      refine va_iald hx hb hK hP 1 0 rfl rfl (show ¬ ((4 : Int32) < 0 ∨ 6 ≤ (4 : Int32).toNatClampNeg) by decide) dX12_nextOrder_85 ?_
                      refine tz_i (fz_ 4) rfl ?_
                      refine va_iast hx hb hK hP hD hS 1 0 rfl rfl (show ¬ ((2 : Int32) < 0 ∨ 6 ≤ (2 : Int32).toNatClampNeg) by decide) dX12_nextOrder_86 (fun H locs hP hD hS => ?_)
                      have hP : va_P (dC, dI) vwCl [(mo, .inr (12, [.ref nw, .ref kp, .ref ik, .ref mr, .long la_, .long lb_, .ref mw, .long lc_, .int ti_, .int cb_, .long ld_, .long le_, .ref mq, .ref mz, .ref my, .int 6, .ref mb, .int bl_, .int ta_, .int tl_, .int tk_, .int vl_, .ref mx, .ref mv])), (mz, .inl (cz_, 6, .inl (upd fz_ (Int32.toNatClampNeg 2) (fz_ 4))))] H := hP
                      have hD : va_D A [(mo, .inr (12, [.ref nw, .ref kp, .ref ik, .ref mr, .long la_, .long lb_, .ref mw, .long lc_, .int ti_, .int cb_, .long ld_, .long le_, .ref mq, .ref mz, .ref my, .int 6, .ref mb, .int bl_, .int ta_, .int tl_, .int tk_, .int vl_, .ref mx, .ref mv])), (mz, .inl (cz_, 6, .inl (upd fz_ (Int32.toNatClampNeg 2) (fz_ 4))))] := hD
                      refine lv_aload_n hx hb dX12_nextOrder_87 rfl (lv_at hl 3 rfl) ?_
                      refine va_get (D := (dC, dI)) (ci := 12) (v := .ref mz) (C := RX12) (T := TX12) (N := 24) hx hb hts iw_m_nextOrder_X12 hown hK hP 0 rfl rfl 13 (by decide) (hts (.fieldLink RX12 34 "ThriceCountedModel" "order" "[I") (by decide +kernel)) (fun _ h9 => h9) rfl dX12_nextOrder_88 ?_
                      refine lv_iload_n hx hb dX12_nextOrder_91 rfl (lv_at hl 1 rfl) ?_
                      refine lv_iload_n hx hb dX12_nextOrder_92 rfl (lv_at hl 0 rfl) ?_
                      refine va_iast hx hb hK hP hD hS 1 0 rfl rfl (show ¬ ((4 : Int32) < 0 ∨ 6 ≤ (4 : Int32).toNatClampNeg) by decide) dX12_nextOrder_93 (fun H locs hP hD hS => ?_)
                      have hP : va_P (dC, dI) vwCl [(mo, .inr (12, [.ref nw, .ref kp, .ref ik, .ref mr, .long la_, .long lb_, .ref mw, .long lc_, .int ti_, .int cb_, .long ld_, .long le_, .ref mq, .ref mz, .ref my, .int 6, .ref mb, .int bl_, .int ta_, .int tl_, .int tk_, .int vl_, .ref mx, .ref mv])), (mz, .inl (cz_, 6, .inl (upd (upd fz_ (Int32.toNatClampNeg 2) (fz_ 4)) (Int32.toNatClampNeg 4) (fz_ 2))))] H := hP
                      have hD : va_D A [(mo, .inr (12, [.ref nw, .ref kp, .ref ik, .ref mr, .long la_, .long lb_, .ref mw, .long lc_, .int ti_, .int cb_, .long ld_, .long le_, .ref mq, .ref mz, .ref my, .int 6, .ref mb, .int bl_, .int ta_, .int tl_, .int tk_, .int vl_, .ref mx, .ref mv])), (mz, .inl (cz_, 6, .inl (upd (upd fz_ (Int32.toNatClampNeg 2) (fz_ 4)) (Int32.toNatClampNeg 4) (fz_ 2))))] := hD
                      refine lv_iload_n hx hb dX12_nextOrder_94 rfl (lv_at hl 2 rfl) ?_
                      refine lv_iconst (v := 1) hx hb dX12_nextOrder_95 (by decide) ?_
                      refine lv_iadd hx hb dX12_nextOrder_96 ?_
                      refine tz_i 3 (by decide) ?_
                      refine lv_istore (lv' := [(4, .int 3), (3, .int (fz_ 2)), (2, .int 4), (1, .int 2), (0, .ref mo)]) hx hb dX12_nextOrder_97 hl (by decide) rfl (fun ls hl => ?_)
                      refine lv_aload_n hx hb dX12_nextOrder_99 rfl (lv_at hl 4 rfl) ?_
                      refine va_get (D := (dC, dI)) (ci := 12) (v := .int 6) (C := RX12) (T := TX12) (N := 24) hx hb hts iw_m_nextOrder_X12 hown hK hP 0 rfl rfl 15 (by decide) (hts (.fieldLink RX12 218 "ThriceCountedModel" "soughtMany" "I") (by decide +kernel)) (fun _ h9 => h9) rfl dX12_nextOrder_100 ?_
                      refine lv_iconst (v := 1) hx hb dX12_nextOrder_103 (by decide) ?_
                      refine lv_isub hx hb dX12_nextOrder_104 ?_
                      refine tz_i 5 (by decide) ?_
                      refine lv_istore (lv' := [(5, .int 5), (4, .int 3), (3, .int (fz_ 2)), (2, .int 4), (1, .int 2), (0, .ref mo)]) hx hb dX12_nextOrder_105 hl (by decide) rfl (fun ls hl => ?_)
                      refine lv_iload hx hb dX12_nextOrder_107 (lv_at hl 1 rfl) ?_
                      refine lv_iload hx hb dX12_nextOrder_109 (lv_at hl 0 rfl) ?_
                      refine lv_icmp_ge (tgt := 155) hx hb dX12_nextOrder_111 (by decide) (fun c_425 => ?_) (fun c_425 => ?_)
                      · exact absurd c_425 (by decide)
                      · refine lv_aload_n hx hb dX12_nextOrder_114 rfl (lv_at hl 5 rfl) ?_
                        refine va_get (D := (dC, dI)) (ci := 12) (v := .ref mz) (C := RX12) (T := TX12) (N := 24) hx hb hts iw_m_nextOrder_X12 hown hK hP 0 rfl rfl 13 (by decide) (hts (.fieldLink RX12 34 "ThriceCountedModel" "order" "[I") (by decide +kernel)) (fun _ h9 => h9) rfl dX12_nextOrder_115 ?_
                        refine lv_iload hx hb dX12_nextOrder_118 (lv_at hl 1 rfl) ?_
                        refine va_iald hx hb hK hP 1 0 rfl rfl (show ¬ ((3 : Int32) < 0 ∨ 6 ≤ (3 : Int32).toNatClampNeg) by decide) dX12_nextOrder_120 ?_
                        refine tz_i (fz_ 3) rfl ?_
                        refine lv_istore (lv' := [(6, .int (fz_ 3)), (5, .int 5), (4, .int 3), (3, .int (fz_ 2)), (2, .int 4), (1, .int 2), (0, .ref mo)]) hx hb dX12_nextOrder_121 hl (by decide) rfl (fun ls hl => ?_)
                        refine lv_aload_n hx hb dX12_nextOrder_123 rfl (lv_at hl 6 rfl) ?_
                        refine va_get (D := (dC, dI)) (ci := 12) (v := .ref mz) (C := RX12) (T := TX12) (N := 24) hx hb hts iw_m_nextOrder_X12 hown hK hP 0 rfl rfl 13 (by decide) (hts (.fieldLink RX12 34 "ThriceCountedModel" "order" "[I") (by decide +kernel)) (fun _ h9 => h9) rfl dX12_nextOrder_124 ?_
                        refine lv_iload hx hb dX12_nextOrder_127 (lv_at hl 2 rfl) ?_
                        refine lv_aload_n hx hb dX12_nextOrder_129 rfl (lv_at hl 6 rfl) ?_
                        refine va_get (D := (dC, dI)) (ci := 12) (v := .ref mz) (C := RX12) (T := TX12) (N := 24) hx hb hts iw_m_nextOrder_X12 hown hK hP 0 rfl rfl 13 (by decide) (hts (.fieldLink RX12 34 "ThriceCountedModel" "order" "[I") (by decide +kernel)) (fun _ h9 => h9) rfl dX12_nextOrder_130 ?_
                        refine lv_iload hx hb dX12_nextOrder_133 (lv_at hl 1 rfl) ?_
                        refine va_iald hx hb hK hP 1 0 rfl rfl (show ¬ ((5 : Int32) < 0 ∨ 6 ≤ (5 : Int32).toNatClampNeg) by decide) dX12_nextOrder_135 ?_
                        refine tz_i (fz_ 5) rfl ?_
                        refine va_iast hx hb hK hP hD hS 1 0 rfl rfl (show ¬ ((3 : Int32) < 0 ∨ 6 ≤ (3 : Int32).toNatClampNeg) by decide) dX12_nextOrder_136 (fun H locs hP hD hS => ?_)
                        have hP : va_P (dC, dI) vwCl [(mo, .inr (12, [.ref nw, .ref kp, .ref ik, .ref mr, .long la_, .long lb_, .ref mw, .long lc_, .int ti_, .int cb_, .long ld_, .long le_, .ref mq, .ref mz, .ref my, .int 6, .ref mb, .int bl_, .int ta_, .int tl_, .int tk_, .int vl_, .ref mx, .ref mv])), (mz, .inl (cz_, 6, .inl (upd (upd (upd fz_ (Int32.toNatClampNeg 2) (fz_ 4)) (Int32.toNatClampNeg 4) (fz_ 2)) (Int32.toNatClampNeg 3) (fz_ 5))))] H := hP
                        have hD : va_D A [(mo, .inr (12, [.ref nw, .ref kp, .ref ik, .ref mr, .long la_, .long lb_, .ref mw, .long lc_, .int ti_, .int cb_, .long ld_, .long le_, .ref mq, .ref mz, .ref my, .int 6, .ref mb, .int bl_, .int ta_, .int tl_, .int tk_, .int vl_, .ref mx, .ref mv])), (mz, .inl (cz_, 6, .inl (upd (upd (upd fz_ (Int32.toNatClampNeg 2) (fz_ 4)) (Int32.toNatClampNeg 4) (fz_ 2)) (Int32.toNatClampNeg 3) (fz_ 5))))] := hD
                        refine lv_aload_n hx hb dX12_nextOrder_137 rfl (lv_at hl 6 rfl) ?_
                        refine va_get (D := (dC, dI)) (ci := 12) (v := .ref mz) (C := RX12) (T := TX12) (N := 24) hx hb hts iw_m_nextOrder_X12 hown hK hP 0 rfl rfl 13 (by decide) (hts (.fieldLink RX12 34 "ThriceCountedModel" "order" "[I") (by decide +kernel)) (fun _ h9 => h9) rfl dX12_nextOrder_138 ?_
                        refine lv_iload hx hb dX12_nextOrder_141 (lv_at hl 1 rfl) ?_
                        refine lv_iload hx hb dX12_nextOrder_143 (lv_at hl 0 rfl) ?_
                        refine va_iast hx hb hK hP hD hS 1 0 rfl rfl (show ¬ ((5 : Int32) < 0 ∨ 6 ≤ (5 : Int32).toNatClampNeg) by decide) dX12_nextOrder_145 (fun H locs hP hD hS => ?_)
                        have hP : va_P (dC, dI) vwCl [(mo, .inr (12, [.ref nw, .ref kp, .ref ik, .ref mr, .long la_, .long lb_, .ref mw, .long lc_, .int ti_, .int cb_, .long ld_, .long le_, .ref mq, .ref mz, .ref my, .int 6, .ref mb, .int bl_, .int ta_, .int tl_, .int tk_, .int vl_, .ref mx, .ref mv])), (mz, .inl (cz_, 6, .inl (upd (upd (upd (upd fz_ (Int32.toNatClampNeg 2) (fz_ 4)) (Int32.toNatClampNeg 4) (fz_ 2)) (Int32.toNatClampNeg 3) (fz_ 5)) (Int32.toNatClampNeg 5) (fz_ 3))))] H := hP
                        have hD : va_D A [(mo, .inr (12, [.ref nw, .ref kp, .ref ik, .ref mr, .long la_, .long lb_, .ref mw, .long lc_, .int ti_, .int cb_, .long ld_, .long le_, .ref mq, .ref mz, .ref my, .int 6, .ref mb, .int bl_, .int ta_, .int tl_, .int tk_, .int vl_, .ref mx, .ref mv])), (mz, .inl (cz_, 6, .inl (upd (upd (upd (upd fz_ (Int32.toNatClampNeg 2) (fz_ 4)) (Int32.toNatClampNeg 4) (fz_ 2)) (Int32.toNatClampNeg 3) (fz_ 5)) (Int32.toNatClampNeg 5) (fz_ 3))))] := hD
                        refine lv_iinc (v := 4) (lv' := [(4, .int 4), (6, .int (fz_ 3)), (5, .int 5), (3, .int (fz_ 2)), (2, .int 4), (1, .int 2), (0, .ref mo)]) hx hb dX12_nextOrder_146 hl (k := 2) rfl (by decide) (by decide) rfl (fun ls hl => ?_)
                        refine lv_iinc (v := 4) (lv' := [(5, .int 4), (4, .int 4), (6, .int (fz_ 3)), (3, .int (fz_ 2)), (2, .int 4), (1, .int 2), (0, .ref mo)]) hx hb dX12_nextOrder_149 hl (k := 2) rfl (by decide) (by decide) rfl (fun ls hl => ?_)
                        refine lv_goto (tgt := 107) hx hb dX12_nextOrder_152 (by decide) ?_
                        refine lv_iload hx hb dX12_nextOrder_107 (lv_at hl 1 rfl) ?_
                        refine lv_iload hx hb dX12_nextOrder_109 (lv_at hl 0 rfl) ?_
                        refine lv_icmp_ge (tgt := 155) hx hb dX12_nextOrder_111 (by decide) (fun c_428 => ?_) (fun c_428 => ?_)
                        · refine lv_iconst (v := 1) hx hb dX12_nextOrder_155 (by decide) ?_
                          have hP9 := hP.sub (ws' := [(mo, .inr (12, [.ref nw, .ref kp, .ref ik, .ref mr, .long la_, .long lb_, .ref mw, .long lc_, .int ti_, .int cb_, .long ld_, .long le_, .ref mq, .ref mz, .ref my, .int (nI 6), .ref mb, .int bl_, .int ta_, .int tl_, .int tk_, .int vl_, .ref mx, .ref mv])), (mz, .inl (cz_, 6, .inl (upd (upd (upd (upd fz_ (Int32.toNatClampNeg 2) (fz_ 4)) (Int32.toNatClampNeg 4) (fz_ 2)) (Int32.toNatClampNeg 3) (fz_ 5)) (Int32.toNatClampNeg 5) (fz_ 3))))]) [0, 1] rfl
                          have hD9 := hD.sub (ws' := [(mo, .inr (12, [.ref nw, .ref kp, .ref ik, .ref mr, .long la_, .long lb_, .ref mw, .long lc_, .int ti_, .int cb_, .long ld_, .long le_, .ref mq, .ref mz, .ref my, .int (nI 6), .ref mb, .int bl_, .int ta_, .int tl_, .int tk_, .int vl_, .ref mx, .ref mv])), (mz, .inl (cz_, 6, .inl (upd (upd (upd (upd fz_ (Int32.toNatClampNeg 2) (fz_ 4)) (Int32.toNatClampNeg 4) (fz_ 2)) (Int32.toNatClampNeg 3) (fz_ 5)) (Int32.toNatClampNeg 5) (fz_ 3))))]) [0, 1] (by decide) rfl
                          have hK9 := hK.sub (tys' := [(cz_, .int)]) [0] rfl
                          have hlt_429 : (fz_ 2).toInt < (fz_ 4).toInt := tz_ltt2 c_422 (hdi.2 2 4 (by omega) (by omega))
                          have hb_430 := hdi.1 0 (by omega)
                          have hb_431 := hdi.1 1 (by omega)
                          have hb_432 := hdi.1 2 (by omega)
                          have hb_433 := hdi.1 3 (by omega)
                          have hb_434 := hdi.1 4 (by omega)
                          have hb_435 := hdi.1 5 (by omega)
                          have ev_436 : tz_val 6 fz_ = 7776 * (fz_ 0).toInt + 1296 * (fz_ 1).toInt + 216 * (fz_ 2).toInt + 36 * (fz_ 3).toInt + 6 * (fz_ 4).toInt + (fz_ 5).toInt := rfl
                          have eg_437 : tz_val 6 (upd (upd (upd (upd fz_ (Int32.toNatClampNeg 2) (fz_ 4)) (Int32.toNatClampNeg 4) (fz_ 2)) (Int32.toNatClampNeg 3) (fz_ 5)) (Int32.toNatClampNeg 5) (fz_ 3)) = 7776 * (fz_ 0).toInt + 1296 * (fz_ 1).toInt + 216 * (fz_ 4).toInt + 36 * (fz_ 5).toInt + 6 * (fz_ 2).toInt + (fz_ 3).toInt := rfl
                          have hp_438 : tz_Di 6 (upd (upd (upd (upd fz_ (Int32.toNatClampNeg 2) (fz_ 4)) (Int32.toNatClampNeg 4) (fz_ 2)) (Int32.toNatClampNeg 3) (fz_ 5)) (Int32.toNatClampNeg 5) (fz_ 3)) := hdi.perm (fun a => ([0, 1, 4, 5, 2, 3] : List Nat).getD a 0) (fun a ha => by
                            rcases (show a = 0 ∨ a = 1 ∨ a = 2 ∨ a = 3 ∨ a = 4 ∨ a = 5 by omega) with rfl | rfl | rfl | rfl | rfl | rfl <;> exact ⟨by decide, rfl⟩) (by decide)
                          exact W.zret (v := 1) hx hb hr (by decide) (fun t ht hW => ⟨⟨1, (), rfl, Or.inr ⟨rfl, 2, by omega, tz_nle_of c_403⟩, (upd (upd (upd (upd fz_ (Int32.toNatClampNeg 2) (fz_ 4)) (Int32.toNatClampNeg 4) (fz_ 2)) (Int32.toNatClampNeg 3) (fz_ 5)) (Int32.toNatClampNeg 5) (fz_ 3)), hp_438, by rw [ev_436, eg_437]; omega, fun _ => by rw [ev_436, eg_437]; omega, by rw [ht]; exact hP9, va_K.moved hW.alike hK9, hD9⟩, hS.F ht⟩) hS.2.2 dX12_nextOrder_156
                        · exact absurd c_428 (by decide)
                    · refine lv_iinc (v := 3) (lv' := [(2, .int 3), (1, .int 2), (0, .ref mo)]) hx hb dX12_nextOrder_62 hl (k := 0) rfl (by decide) (by decide) rfl (fun ls hl => ?_)
                      refine lv_goto (tgt := 47) hx hb dX12_nextOrder_65 (by decide) ?_
                      refine lv_aload_n hx hb dX12_nextOrder_47 rfl (lv_at hl 2 rfl) ?_
                      refine va_get (D := (dC, dI)) (ci := 12) (v := .ref mz) (C := RX12) (T := TX12) (N := 24) hx hb hts iw_m_nextOrder_X12 hown hK hP 0 rfl rfl 13 (by decide) (hts (.fieldLink RX12 34 "ThriceCountedModel" "order" "[I") (by decide +kernel)) (fun _ h9 => h9) rfl dX12_nextOrder_48 ?_
                      refine lv_iload_n hx hb dX12_nextOrder_51 rfl (lv_at hl 0 rfl) ?_
                      refine va_iald hx hb hK hP 1 0 rfl rfl (show ¬ ((3 : Int32) < 0 ∨ 6 ≤ (3 : Int32).toNatClampNeg) by decide) dX12_nextOrder_52 ?_
                      refine tz_i (fz_ 3) rfl ?_
                      refine lv_aload_n hx hb dX12_nextOrder_53 rfl (lv_at hl 2 rfl) ?_
                      refine va_get (D := (dC, dI)) (ci := 12) (v := .ref mz) (C := RX12) (T := TX12) (N := 24) hx hb hts iw_m_nextOrder_X12 hown hK hP 0 rfl rfl 13 (by decide) (hts (.fieldLink RX12 34 "ThriceCountedModel" "order" "[I") (by decide +kernel)) (fun _ h9 => h9) rfl dX12_nextOrder_54 ?_
                      refine lv_iload_n hx hb dX12_nextOrder_57 rfl (lv_at hl 1 rfl) ?_
                      refine va_iald hx hb hK hP 1 0 rfl rfl (show ¬ ((2 : Int32) < 0 ∨ 6 ≤ (2 : Int32).toNatClampNeg) by decide) dX12_nextOrder_58 ?_
                      refine tz_i (fz_ 2) rfl ?_
                      refine lv_icmp_ge (tgt := 68) hx hb dX12_nextOrder_59 (by decide) (fun c_439 => ?_) (fun c_439 => ?_)
                      · refine lv_aload_n hx hb dX12_nextOrder_68 rfl (lv_at hl 2 rfl) ?_
                        refine va_get (D := (dC, dI)) (ci := 12) (v := .ref mz) (C := RX12) (T := TX12) (N := 24) hx hb hts iw_m_nextOrder_X12 hown hK hP 0 rfl rfl 13 (by decide) (hts (.fieldLink RX12 34 "ThriceCountedModel" "order" "[I") (by decide +kernel)) (fun _ h9 => h9) rfl dX12_nextOrder_69 ?_
                        refine lv_iload_n hx hb dX12_nextOrder_72 rfl (lv_at hl 1 rfl) ?_
                        refine va_iald hx hb hK hP 1 0 rfl rfl (show ¬ ((2 : Int32) < 0 ∨ 6 ≤ (2 : Int32).toNatClampNeg) by decide) dX12_nextOrder_73 ?_
                        refine tz_i (fz_ 2) rfl ?_
                        refine lv_istore_n (lv' := [(3, .int (fz_ 2)), (2, .int 3), (1, .int 2), (0, .ref mo)]) hx hb dX12_nextOrder_74 rfl hl (by decide) rfl (fun ls hl => ?_)
                        refine lv_aload_n hx hb dX12_nextOrder_75 rfl (lv_at hl 3 rfl) ?_
                        refine va_get (D := (dC, dI)) (ci := 12) (v := .ref mz) (C := RX12) (T := TX12) (N := 24) hx hb hts iw_m_nextOrder_X12 hown hK hP 0 rfl rfl 13 (by decide) (hts (.fieldLink RX12 34 "ThriceCountedModel" "order" "[I") (by decide +kernel)) (fun _ h9 => h9) rfl dX12_nextOrder_76 ?_
                        refine lv_iload_n hx hb dX12_nextOrder_79 rfl (lv_at hl 2 rfl) ?_
                        refine lv_aload_n hx hb dX12_nextOrder_80 rfl (lv_at hl 3 rfl) ?_
                        refine va_get (D := (dC, dI)) (ci := 12) (v := .ref mz) (C := RX12) (T := TX12) (N := 24) hx hb hts iw_m_nextOrder_X12 hown hK hP 0 rfl rfl 13 (by decide) (hts (.fieldLink RX12 34 "ThriceCountedModel" "order" "[I") (by decide +kernel)) (fun _ h9 => h9) rfl dX12_nextOrder_81 ?_
                        refine lv_iload_n hx hb dX12_nextOrder_84 rfl (lv_at hl 1 rfl) ?_
                        refine va_iald hx hb hK hP 1 0 rfl rfl (show ¬ ((3 : Int32) < 0 ∨ 6 ≤ (3 : Int32).toNatClampNeg) by decide) dX12_nextOrder_85 ?_
                        refine tz_i (fz_ 3) rfl ?_
                        refine va_iast hx hb hK hP hD hS 1 0 rfl rfl (show ¬ ((2 : Int32) < 0 ∨ 6 ≤ (2 : Int32).toNatClampNeg) by decide) dX12_nextOrder_86 (fun H locs hP hD hS => ?_)
                        have hP : va_P (dC, dI) vwCl [(mo, .inr (12, [.ref nw, .ref kp, .ref ik, .ref mr, .long la_, .long lb_, .ref mw, .long lc_, .int ti_, .int cb_, .long ld_, .long le_, .ref mq, .ref mz, .ref my, .int 6, .ref mb, .int bl_, .int ta_, .int tl_, .int tk_, .int vl_, .ref mx, .ref mv])), (mz, .inl (cz_, 6, .inl (upd fz_ (Int32.toNatClampNeg 2) (fz_ 3))))] H := hP
                        have hD : va_D A [(mo, .inr (12, [.ref nw, .ref kp, .ref ik, .ref mr, .long la_, .long lb_, .ref mw, .long lc_, .int ti_, .int cb_, .long ld_, .long le_, .ref mq, .ref mz, .ref my, .int 6, .ref mb, .int bl_, .int ta_, .int tl_, .int tk_, .int vl_, .ref mx, .ref mv])), (mz, .inl (cz_, 6, .inl (upd fz_ (Int32.toNatClampNeg 2) (fz_ 3))))] := hD
                        refine lv_aload_n hx hb dX12_nextOrder_87 rfl (lv_at hl 3 rfl) ?_
                        refine va_get (D := (dC, dI)) (ci := 12) (v := .ref mz) (C := RX12) (T := TX12) (N := 24) hx hb hts iw_m_nextOrder_X12 hown hK hP 0 rfl rfl 13 (by decide) (hts (.fieldLink RX12 34 "ThriceCountedModel" "order" "[I") (by decide +kernel)) (fun _ h9 => h9) rfl dX12_nextOrder_88 ?_
                        refine lv_iload_n hx hb dX12_nextOrder_91 rfl (lv_at hl 1 rfl) ?_
                        refine lv_iload_n hx hb dX12_nextOrder_92 rfl (lv_at hl 0 rfl) ?_
                        refine va_iast hx hb hK hP hD hS 1 0 rfl rfl (show ¬ ((3 : Int32) < 0 ∨ 6 ≤ (3 : Int32).toNatClampNeg) by decide) dX12_nextOrder_93 (fun H locs hP hD hS => ?_)
                        have hP : va_P (dC, dI) vwCl [(mo, .inr (12, [.ref nw, .ref kp, .ref ik, .ref mr, .long la_, .long lb_, .ref mw, .long lc_, .int ti_, .int cb_, .long ld_, .long le_, .ref mq, .ref mz, .ref my, .int 6, .ref mb, .int bl_, .int ta_, .int tl_, .int tk_, .int vl_, .ref mx, .ref mv])), (mz, .inl (cz_, 6, .inl (upd (upd fz_ (Int32.toNatClampNeg 2) (fz_ 3)) (Int32.toNatClampNeg 3) (fz_ 2))))] H := hP
                        have hD : va_D A [(mo, .inr (12, [.ref nw, .ref kp, .ref ik, .ref mr, .long la_, .long lb_, .ref mw, .long lc_, .int ti_, .int cb_, .long ld_, .long le_, .ref mq, .ref mz, .ref my, .int 6, .ref mb, .int bl_, .int ta_, .int tl_, .int tk_, .int vl_, .ref mx, .ref mv])), (mz, .inl (cz_, 6, .inl (upd (upd fz_ (Int32.toNatClampNeg 2) (fz_ 3)) (Int32.toNatClampNeg 3) (fz_ 2))))] := hD
                        refine lv_iload_n hx hb dX12_nextOrder_94 rfl (lv_at hl 2 rfl) ?_
                        refine lv_iconst (v := 1) hx hb dX12_nextOrder_95 (by decide) ?_
                        refine lv_iadd hx hb dX12_nextOrder_96 ?_
                        refine tz_i 3 (by decide) ?_
                        refine lv_istore (lv' := [(4, .int 3), (3, .int (fz_ 2)), (2, .int 3), (1, .int 2), (0, .ref mo)]) hx hb dX12_nextOrder_97 hl (by decide) rfl (fun ls hl => ?_)
                        refine lv_aload_n hx hb dX12_nextOrder_99 rfl (lv_at hl 4 rfl) ?_
                        refine va_get (D := (dC, dI)) (ci := 12) (v := .int 6) (C := RX12) (T := TX12) (N := 24) hx hb hts iw_m_nextOrder_X12 hown hK hP 0 rfl rfl 15 (by decide) (hts (.fieldLink RX12 218 "ThriceCountedModel" "soughtMany" "I") (by decide +kernel)) (fun _ h9 => h9) rfl dX12_nextOrder_100 ?_
                        refine lv_iconst (v := 1) hx hb dX12_nextOrder_103 (by decide) ?_
                        refine lv_isub hx hb dX12_nextOrder_104 ?_
                        refine tz_i 5 (by decide) ?_
                        refine lv_istore (lv' := [(5, .int 5), (4, .int 3), (3, .int (fz_ 2)), (2, .int 3), (1, .int 2), (0, .ref mo)]) hx hb dX12_nextOrder_105 hl (by decide) rfl (fun ls hl => ?_)
                        refine lv_iload hx hb dX12_nextOrder_107 (lv_at hl 1 rfl) ?_
                        refine lv_iload hx hb dX12_nextOrder_109 (lv_at hl 0 rfl) ?_
                        refine lv_icmp_ge (tgt := 155) hx hb dX12_nextOrder_111 (by decide) (fun c_442 => ?_) (fun c_442 => ?_)
                        · exact absurd c_442 (by decide)
                        · refine lv_aload_n hx hb dX12_nextOrder_114 rfl (lv_at hl 5 rfl) ?_
                          refine va_get (D := (dC, dI)) (ci := 12) (v := .ref mz) (C := RX12) (T := TX12) (N := 24) hx hb hts iw_m_nextOrder_X12 hown hK hP 0 rfl rfl 13 (by decide) (hts (.fieldLink RX12 34 "ThriceCountedModel" "order" "[I") (by decide +kernel)) (fun _ h9 => h9) rfl dX12_nextOrder_115 ?_
                          refine lv_iload hx hb dX12_nextOrder_118 (lv_at hl 1 rfl) ?_
                          refine va_iald hx hb hK hP 1 0 rfl rfl (show ¬ ((3 : Int32) < 0 ∨ 6 ≤ (3 : Int32).toNatClampNeg) by decide) dX12_nextOrder_120 ?_
                          refine tz_i (fz_ 2) rfl ?_
                          refine lv_istore (lv' := [(6, .int (fz_ 2)), (5, .int 5), (4, .int 3), (3, .int (fz_ 2)), (2, .int 3), (1, .int 2), (0, .ref mo)]) hx hb dX12_nextOrder_121 hl (by decide) rfl (fun ls hl => ?_)
                          refine lv_aload_n hx hb dX12_nextOrder_123 rfl (lv_at hl 6 rfl) ?_
                          refine va_get (D := (dC, dI)) (ci := 12) (v := .ref mz) (C := RX12) (T := TX12) (N := 24) hx hb hts iw_m_nextOrder_X12 hown hK hP 0 rfl rfl 13 (by decide) (hts (.fieldLink RX12 34 "ThriceCountedModel" "order" "[I") (by decide +kernel)) (fun _ h9 => h9) rfl dX12_nextOrder_124 ?_
                          refine lv_iload hx hb dX12_nextOrder_127 (lv_at hl 2 rfl) ?_
                          refine lv_aload_n hx hb dX12_nextOrder_129 rfl (lv_at hl 6 rfl) ?_
                          refine va_get (D := (dC, dI)) (ci := 12) (v := .ref mz) (C := RX12) (T := TX12) (N := 24) hx hb hts iw_m_nextOrder_X12 hown hK hP 0 rfl rfl 13 (by decide) (hts (.fieldLink RX12 34 "ThriceCountedModel" "order" "[I") (by decide +kernel)) (fun _ h9 => h9) rfl dX12_nextOrder_130 ?_
                          refine lv_iload hx hb dX12_nextOrder_133 (lv_at hl 1 rfl) ?_
                          refine va_iald hx hb hK hP 1 0 rfl rfl (show ¬ ((5 : Int32) < 0 ∨ 6 ≤ (5 : Int32).toNatClampNeg) by decide) dX12_nextOrder_135 ?_
                          refine tz_i (fz_ 5) rfl ?_
                          refine va_iast hx hb hK hP hD hS 1 0 rfl rfl (show ¬ ((3 : Int32) < 0 ∨ 6 ≤ (3 : Int32).toNatClampNeg) by decide) dX12_nextOrder_136 (fun H locs hP hD hS => ?_)
                          have hP : va_P (dC, dI) vwCl [(mo, .inr (12, [.ref nw, .ref kp, .ref ik, .ref mr, .long la_, .long lb_, .ref mw, .long lc_, .int ti_, .int cb_, .long ld_, .long le_, .ref mq, .ref mz, .ref my, .int 6, .ref mb, .int bl_, .int ta_, .int tl_, .int tk_, .int vl_, .ref mx, .ref mv])), (mz, .inl (cz_, 6, .inl (upd (upd (upd fz_ (Int32.toNatClampNeg 2) (fz_ 3)) (Int32.toNatClampNeg 3) (fz_ 2)) (Int32.toNatClampNeg 3) (fz_ 5))))] H := hP
                          have hD : va_D A [(mo, .inr (12, [.ref nw, .ref kp, .ref ik, .ref mr, .long la_, .long lb_, .ref mw, .long lc_, .int ti_, .int cb_, .long ld_, .long le_, .ref mq, .ref mz, .ref my, .int 6, .ref mb, .int bl_, .int ta_, .int tl_, .int tk_, .int vl_, .ref mx, .ref mv])), (mz, .inl (cz_, 6, .inl (upd (upd (upd fz_ (Int32.toNatClampNeg 2) (fz_ 3)) (Int32.toNatClampNeg 3) (fz_ 2)) (Int32.toNatClampNeg 3) (fz_ 5))))] := hD
                          refine lv_aload_n hx hb dX12_nextOrder_137 rfl (lv_at hl 6 rfl) ?_
                          refine va_get (D := (dC, dI)) (ci := 12) (v := .ref mz) (C := RX12) (T := TX12) (N := 24) hx hb hts iw_m_nextOrder_X12 hown hK hP 0 rfl rfl 13 (by decide) (hts (.fieldLink RX12 34 "ThriceCountedModel" "order" "[I") (by decide +kernel)) (fun _ h9 => h9) rfl dX12_nextOrder_138 ?_
                          refine lv_iload hx hb dX12_nextOrder_141 (lv_at hl 1 rfl) ?_
                          refine lv_iload hx hb dX12_nextOrder_143 (lv_at hl 0 rfl) ?_
                          refine va_iast hx hb hK hP hD hS 1 0 rfl rfl (show ¬ ((5 : Int32) < 0 ∨ 6 ≤ (5 : Int32).toNatClampNeg) by decide) dX12_nextOrder_145 (fun H locs hP hD hS => ?_)
                          have hP : va_P (dC, dI) vwCl [(mo, .inr (12, [.ref nw, .ref kp, .ref ik, .ref mr, .long la_, .long lb_, .ref mw, .long lc_, .int ti_, .int cb_, .long ld_, .long le_, .ref mq, .ref mz, .ref my, .int 6, .ref mb, .int bl_, .int ta_, .int tl_, .int tk_, .int vl_, .ref mx, .ref mv])), (mz, .inl (cz_, 6, .inl (upd (upd (upd (upd fz_ (Int32.toNatClampNeg 2) (fz_ 3)) (Int32.toNatClampNeg 3) (fz_ 2)) (Int32.toNatClampNeg 3) (fz_ 5)) (Int32.toNatClampNeg 5) (fz_ 2))))] H := hP
                          have hD : va_D A [(mo, .inr (12, [.ref nw, .ref kp, .ref ik, .ref mr, .long la_, .long lb_, .ref mw, .long lc_, .int ti_, .int cb_, .long ld_, .long le_, .ref mq, .ref mz, .ref my, .int 6, .ref mb, .int bl_, .int ta_, .int tl_, .int tk_, .int vl_, .ref mx, .ref mv])), (mz, .inl (cz_, 6, .inl (upd (upd (upd (upd fz_ (Int32.toNatClampNeg 2) (fz_ 3)) (Int32.toNatClampNeg 3) (fz_ 2)) (Int32.toNatClampNeg 3) (fz_ 5)) (Int32.toNatClampNeg 5) (fz_ 2))))] := hD
                          refine lv_iinc (v := 4) (lv' := [(4, .int 4), (6, .int (fz_ 2)), (5, .int 5), (3, .int (fz_ 2)), (2, .int 3), (1, .int 2), (0, .ref mo)]) hx hb dX12_nextOrder_146 hl (k := 2) rfl (by decide) (by decide) rfl (fun ls hl => ?_)
                          refine lv_iinc (v := 4) (lv' := [(5, .int 4), (4, .int 4), (6, .int (fz_ 2)), (3, .int (fz_ 2)), (2, .int 3), (1, .int 2), (0, .ref mo)]) hx hb dX12_nextOrder_149 hl (k := 2) rfl (by decide) (by decide) rfl (fun ls hl => ?_)
                          refine lv_goto (tgt := 107) hx hb dX12_nextOrder_152 (by decide) ?_
                          refine lv_iload hx hb dX12_nextOrder_107 (lv_at hl 1 rfl) ?_
                          refine lv_iload hx hb dX12_nextOrder_109 (lv_at hl 0 rfl) ?_
                          refine lv_icmp_ge (tgt := 155) hx hb dX12_nextOrder_111 (by decide) (fun c_445 => ?_) (fun c_445 => ?_)
                          · refine lv_iconst (v := 1) hx hb dX12_nextOrder_155 (by decide) ?_
                            have hP9 := hP.sub (ws' := [(mo, .inr (12, [.ref nw, .ref kp, .ref ik, .ref mr, .long la_, .long lb_, .ref mw, .long lc_, .int ti_, .int cb_, .long ld_, .long le_, .ref mq, .ref mz, .ref my, .int (nI 6), .ref mb, .int bl_, .int ta_, .int tl_, .int tk_, .int vl_, .ref mx, .ref mv])), (mz, .inl (cz_, 6, .inl (upd (upd (upd (upd fz_ (Int32.toNatClampNeg 2) (fz_ 3)) (Int32.toNatClampNeg 3) (fz_ 2)) (Int32.toNatClampNeg 3) (fz_ 5)) (Int32.toNatClampNeg 5) (fz_ 2))))]) [0, 1] rfl
                            have hD9 := hD.sub (ws' := [(mo, .inr (12, [.ref nw, .ref kp, .ref ik, .ref mr, .long la_, .long lb_, .ref mw, .long lc_, .int ti_, .int cb_, .long ld_, .long le_, .ref mq, .ref mz, .ref my, .int (nI 6), .ref mb, .int bl_, .int ta_, .int tl_, .int tk_, .int vl_, .ref mx, .ref mv])), (mz, .inl (cz_, 6, .inl (upd (upd (upd (upd fz_ (Int32.toNatClampNeg 2) (fz_ 3)) (Int32.toNatClampNeg 3) (fz_ 2)) (Int32.toNatClampNeg 3) (fz_ 5)) (Int32.toNatClampNeg 5) (fz_ 2))))]) [0, 1] (by decide) rfl
                            have hK9 := hK.sub (tys' := [(cz_, .int)]) [0] rfl
                            have hlt_446 : (fz_ 2).toInt < (fz_ 3).toInt := tz_ltt2 c_439 (hdi.2 2 3 (by omega) (by omega))
                            have hb_447 := hdi.1 0 (by omega)
                            have hb_448 := hdi.1 1 (by omega)
                            have hb_449 := hdi.1 2 (by omega)
                            have hb_450 := hdi.1 3 (by omega)
                            have hb_451 := hdi.1 4 (by omega)
                            have hb_452 := hdi.1 5 (by omega)
                            have ev_453 : tz_val 6 fz_ = 7776 * (fz_ 0).toInt + 1296 * (fz_ 1).toInt + 216 * (fz_ 2).toInt + 36 * (fz_ 3).toInt + 6 * (fz_ 4).toInt + (fz_ 5).toInt := rfl
                            have eg_454 : tz_val 6 (upd (upd (upd (upd fz_ (Int32.toNatClampNeg 2) (fz_ 3)) (Int32.toNatClampNeg 3) (fz_ 2)) (Int32.toNatClampNeg 3) (fz_ 5)) (Int32.toNatClampNeg 5) (fz_ 2)) = 7776 * (fz_ 0).toInt + 1296 * (fz_ 1).toInt + 216 * (fz_ 3).toInt + 36 * (fz_ 5).toInt + 6 * (fz_ 4).toInt + (fz_ 2).toInt := rfl
                            have hp_455 : tz_Di 6 (upd (upd (upd (upd fz_ (Int32.toNatClampNeg 2) (fz_ 3)) (Int32.toNatClampNeg 3) (fz_ 2)) (Int32.toNatClampNeg 3) (fz_ 5)) (Int32.toNatClampNeg 5) (fz_ 2)) := hdi.perm (fun a => ([0, 1, 3, 5, 4, 2] : List Nat).getD a 0) (fun a ha => by
                              rcases (show a = 0 ∨ a = 1 ∨ a = 2 ∨ a = 3 ∨ a = 4 ∨ a = 5 by omega) with rfl | rfl | rfl | rfl | rfl | rfl <;> exact ⟨by decide, rfl⟩) (by decide)
                            exact W.zret (v := 1) hx hb hr (by decide) (fun t ht hW => ⟨⟨1, (), rfl, Or.inr ⟨rfl, 2, by omega, tz_nle_of c_439⟩, (upd (upd (upd (upd fz_ (Int32.toNatClampNeg 2) (fz_ 3)) (Int32.toNatClampNeg 3) (fz_ 2)) (Int32.toNatClampNeg 3) (fz_ 5)) (Int32.toNatClampNeg 5) (fz_ 2)), hp_455, by rw [ev_453, eg_454]; omega, fun _ => by rw [ev_453, eg_454]; omega, by rw [ht]; exact hP9, va_K.moved hW.alike hK9, hD9⟩, hS.F ht⟩) hS.2.2 dX12_nextOrder_156
                          · exact absurd c_445 (by decide)
                      · exact absurd c_403 c_439
                · exact absurd c_404 (by decide)
              · refine lv_iinc (v := 1) (lv' := [(1, .int 1), (0, .ref mo)]) hx hb dX12_nextOrder_28 hl (k := 0) rfl (by decide) (by decide) rfl (fun ls hl => ?_)
                refine lv_goto (tgt := 7) hx hb dX12_nextOrder_31 (by decide) ?_
                refine lv_iload_n hx hb dX12_nextOrder_7 rfl (lv_at hl 0 rfl) ?_
                refine lv_if_lt (tgt := 34) hx hb dX12_nextOrder_8 (by decide) (fun c_456 => ?_) (fun c_456 => ?_)
                · exact absurd c_456 (by decide)
                · refine lv_aload_n hx hb dX12_nextOrder_11 rfl (lv_at hl 1 rfl) ?_
                  refine va_get (D := (dC, dI)) (ci := 12) (v := .ref mz) (C := RX12) (T := TX12) (N := 24) hx hb hts iw_m_nextOrder_X12 hown hK hP 0 rfl rfl 13 (by decide) (hts (.fieldLink RX12 34 "ThriceCountedModel" "order" "[I") (by decide +kernel)) (fun _ h9 => h9) rfl dX12_nextOrder_12 ?_
                  refine lv_iload_n hx hb dX12_nextOrder_15 rfl (lv_at hl 0 rfl) ?_
                  refine va_iald hx hb hK hP 1 0 rfl rfl (show ¬ ((1 : Int32) < 0 ∨ 6 ≤ (1 : Int32).toNatClampNeg) by decide) dX12_nextOrder_16 ?_
                  refine tz_i (fz_ 1) rfl ?_
                  refine lv_aload_n hx hb dX12_nextOrder_17 rfl (lv_at hl 1 rfl) ?_
                  refine va_get (D := (dC, dI)) (ci := 12) (v := .ref mz) (C := RX12) (T := TX12) (N := 24) hx hb hts iw_m_nextOrder_X12 hown hK hP 0 rfl rfl 13 (by decide) (hts (.fieldLink RX12 34 "ThriceCountedModel" "order" "[I") (by decide +kernel)) (fun _ h9 => h9) rfl dX12_nextOrder_18 ?_
                  refine lv_iload_n hx hb dX12_nextOrder_21 rfl (lv_at hl 0 rfl) ?_
                  refine lv_iconst (v := 1) hx hb dX12_nextOrder_22 (by decide) ?_
                  refine lv_iadd hx hb dX12_nextOrder_23 ?_
                  refine tz_i 2 (by decide) ?_
                  refine va_iald hx hb hK hP 1 0 rfl rfl (show ¬ ((2 : Int32) < 0 ∨ 6 ≤ (2 : Int32).toNatClampNeg) by decide) dX12_nextOrder_24 ?_
                  refine tz_i (fz_ 2) rfl ?_
                  refine lv_icmp_le (tgt := 34) hx hb dX12_nextOrder_25 (by decide) (fun c_457 => ?_) (fun c_457 => ?_)
                  · refine lv_iload_n hx hb dX12_nextOrder_34 rfl (lv_at hl 0 rfl) ?_
                    refine lv_if_ge (tgt := 40) hx hb dX12_nextOrder_35 (by decide) (fun c_458 => ?_) (fun c_458 => ?_)
                    · refine lv_aload_n hx hb dX12_nextOrder_40 rfl (lv_at hl 1 rfl) ?_
                      refine va_get (D := (dC, dI)) (ci := 12) (v := .int 6) (C := RX12) (T := TX12) (N := 24) hx hb hts iw_m_nextOrder_X12 hown hK hP 0 rfl rfl 15 (by decide) (hts (.fieldLink RX12 218 "ThriceCountedModel" "soughtMany" "I") (by decide +kernel)) (fun _ h9 => h9) rfl dX12_nextOrder_41 ?_
                      refine lv_iconst (v := 1) hx hb dX12_nextOrder_44 (by decide) ?_
                      refine lv_isub hx hb dX12_nextOrder_45 ?_
                      refine tz_i 5 (by decide) ?_
                      refine lv_istore_n (lv' := [(2, .int 5), (1, .int 1), (0, .ref mo)]) hx hb dX12_nextOrder_46 rfl hl (by decide) rfl (fun ls hl => ?_)
                      refine lv_aload_n hx hb dX12_nextOrder_47 rfl (lv_at hl 2 rfl) ?_
                      refine va_get (D := (dC, dI)) (ci := 12) (v := .ref mz) (C := RX12) (T := TX12) (N := 24) hx hb hts iw_m_nextOrder_X12 hown hK hP 0 rfl rfl 13 (by decide) (hts (.fieldLink RX12 34 "ThriceCountedModel" "order" "[I") (by decide +kernel)) (fun _ h9 => h9) rfl dX12_nextOrder_48 ?_
                      refine lv_iload_n hx hb dX12_nextOrder_51 rfl (lv_at hl 0 rfl) ?_
                      refine va_iald hx hb hK hP 1 0 rfl rfl (show ¬ ((5 : Int32) < 0 ∨ 6 ≤ (5 : Int32).toNatClampNeg) by decide) dX12_nextOrder_52 ?_
                      refine tz_i (fz_ 5) rfl ?_
                      refine lv_aload_n hx hb dX12_nextOrder_53 rfl (lv_at hl 2 rfl) ?_
                      refine va_get (D := (dC, dI)) (ci := 12) (v := .ref mz) (C := RX12) (T := TX12) (N := 24) hx hb hts iw_m_nextOrder_X12 hown hK hP 0 rfl rfl 13 (by decide) (hts (.fieldLink RX12 34 "ThriceCountedModel" "order" "[I") (by decide +kernel)) (fun _ h9 => h9) rfl dX12_nextOrder_54 ?_
                      refine lv_iload_n hx hb dX12_nextOrder_57 rfl (lv_at hl 1 rfl) ?_
                      refine va_iald hx hb hK hP 1 0 rfl rfl (show ¬ ((1 : Int32) < 0 ∨ 6 ≤ (1 : Int32).toNatClampNeg) by decide) dX12_nextOrder_58 ?_
                      refine tz_i (fz_ 1) rfl ?_
                      refine lv_icmp_ge (tgt := 68) hx hb dX12_nextOrder_59 (by decide) (fun c_459 => ?_) (fun c_459 => ?_)
                      · refine lv_aload_n hx hb dX12_nextOrder_68 rfl (lv_at hl 2 rfl) ?_
                        refine va_get (D := (dC, dI)) (ci := 12) (v := .ref mz) (C := RX12) (T := TX12) (N := 24) hx hb hts iw_m_nextOrder_X12 hown hK hP 0 rfl rfl 13 (by decide) (hts (.fieldLink RX12 34 "ThriceCountedModel" "order" "[I") (by decide +kernel)) (fun _ h9 => h9) rfl dX12_nextOrder_69 ?_
                        refine lv_iload_n hx hb dX12_nextOrder_72 rfl (lv_at hl 1 rfl) ?_
                        refine va_iald hx hb hK hP 1 0 rfl rfl (show ¬ ((1 : Int32) < 0 ∨ 6 ≤ (1 : Int32).toNatClampNeg) by decide) dX12_nextOrder_73 ?_
                        refine tz_i (fz_ 1) rfl ?_
                        refine lv_istore_n (lv' := [(3, .int (fz_ 1)), (2, .int 5), (1, .int 1), (0, .ref mo)]) hx hb dX12_nextOrder_74 rfl hl (by decide) rfl (fun ls hl => ?_)
                        refine lv_aload_n hx hb dX12_nextOrder_75 rfl (lv_at hl 3 rfl) ?_
                        refine va_get (D := (dC, dI)) (ci := 12) (v := .ref mz) (C := RX12) (T := TX12) (N := 24) hx hb hts iw_m_nextOrder_X12 hown hK hP 0 rfl rfl 13 (by decide) (hts (.fieldLink RX12 34 "ThriceCountedModel" "order" "[I") (by decide +kernel)) (fun _ h9 => h9) rfl dX12_nextOrder_76 ?_
                        refine lv_iload_n hx hb dX12_nextOrder_79 rfl (lv_at hl 2 rfl) ?_
                        refine lv_aload_n hx hb dX12_nextOrder_80 rfl (lv_at hl 3 rfl) ?_
                        refine va_get (D := (dC, dI)) (ci := 12) (v := .ref mz) (C := RX12) (T := TX12) (N := 24) hx hb hts iw_m_nextOrder_X12 hown hK hP 0 rfl rfl 13 (by decide) (hts (.fieldLink RX12 34 "ThriceCountedModel" "order" "[I") (by decide +kernel)) (fun _ h9 => h9) rfl dX12_nextOrder_81 ?_
                        refine lv_iload_n hx hb dX12_nextOrder_84 rfl (lv_at hl 1 rfl) ?_
                        refine va_iald hx hb hK hP 1 0 rfl rfl (show ¬ ((5 : Int32) < 0 ∨ 6 ≤ (5 : Int32).toNatClampNeg) by decide) dX12_nextOrder_85 ?_
                        refine tz_i (fz_ 5) rfl ?_
                        refine va_iast hx hb hK hP hD hS 1 0 rfl rfl (show ¬ ((1 : Int32) < 0 ∨ 6 ≤ (1 : Int32).toNatClampNeg) by decide) dX12_nextOrder_86 (fun H locs hP hD hS => ?_)
                        have hP : va_P (dC, dI) vwCl [(mo, .inr (12, [.ref nw, .ref kp, .ref ik, .ref mr, .long la_, .long lb_, .ref mw, .long lc_, .int ti_, .int cb_, .long ld_, .long le_, .ref mq, .ref mz, .ref my, .int 6, .ref mb, .int bl_, .int ta_, .int tl_, .int tk_, .int vl_, .ref mx, .ref mv])), (mz, .inl (cz_, 6, .inl (upd fz_ (Int32.toNatClampNeg 1) (fz_ 5))))] H := hP
                        have hD : va_D A [(mo, .inr (12, [.ref nw, .ref kp, .ref ik, .ref mr, .long la_, .long lb_, .ref mw, .long lc_, .int ti_, .int cb_, .long ld_, .long le_, .ref mq, .ref mz, .ref my, .int 6, .ref mb, .int bl_, .int ta_, .int tl_, .int tk_, .int vl_, .ref mx, .ref mv])), (mz, .inl (cz_, 6, .inl (upd fz_ (Int32.toNatClampNeg 1) (fz_ 5))))] := hD
                        refine lv_aload_n hx hb dX12_nextOrder_87 rfl (lv_at hl 3 rfl) ?_
                        refine va_get (D := (dC, dI)) (ci := 12) (v := .ref mz) (C := RX12) (T := TX12) (N := 24) hx hb hts iw_m_nextOrder_X12 hown hK hP 0 rfl rfl 13 (by decide) (hts (.fieldLink RX12 34 "ThriceCountedModel" "order" "[I") (by decide +kernel)) (fun _ h9 => h9) rfl dX12_nextOrder_88 ?_
                        refine lv_iload_n hx hb dX12_nextOrder_91 rfl (lv_at hl 1 rfl) ?_
                        refine lv_iload_n hx hb dX12_nextOrder_92 rfl (lv_at hl 0 rfl) ?_
                        refine va_iast hx hb hK hP hD hS 1 0 rfl rfl (show ¬ ((5 : Int32) < 0 ∨ 6 ≤ (5 : Int32).toNatClampNeg) by decide) dX12_nextOrder_93 (fun H locs hP hD hS => ?_)
                        have hP : va_P (dC, dI) vwCl [(mo, .inr (12, [.ref nw, .ref kp, .ref ik, .ref mr, .long la_, .long lb_, .ref mw, .long lc_, .int ti_, .int cb_, .long ld_, .long le_, .ref mq, .ref mz, .ref my, .int 6, .ref mb, .int bl_, .int ta_, .int tl_, .int tk_, .int vl_, .ref mx, .ref mv])), (mz, .inl (cz_, 6, .inl (upd (upd fz_ (Int32.toNatClampNeg 1) (fz_ 5)) (Int32.toNatClampNeg 5) (fz_ 1))))] H := hP
                        have hD : va_D A [(mo, .inr (12, [.ref nw, .ref kp, .ref ik, .ref mr, .long la_, .long lb_, .ref mw, .long lc_, .int ti_, .int cb_, .long ld_, .long le_, .ref mq, .ref mz, .ref my, .int 6, .ref mb, .int bl_, .int ta_, .int tl_, .int tk_, .int vl_, .ref mx, .ref mv])), (mz, .inl (cz_, 6, .inl (upd (upd fz_ (Int32.toNatClampNeg 1) (fz_ 5)) (Int32.toNatClampNeg 5) (fz_ 1))))] := hD
                        refine lv_iload_n hx hb dX12_nextOrder_94 rfl (lv_at hl 2 rfl) ?_
                        refine lv_iconst (v := 1) hx hb dX12_nextOrder_95 (by decide) ?_
                        refine lv_iadd hx hb dX12_nextOrder_96 ?_
                        refine tz_i 2 (by decide) ?_
                        refine lv_istore (lv' := [(4, .int 2), (3, .int (fz_ 1)), (2, .int 5), (1, .int 1), (0, .ref mo)]) hx hb dX12_nextOrder_97 hl (by decide) rfl (fun ls hl => ?_)
                        refine lv_aload_n hx hb dX12_nextOrder_99 rfl (lv_at hl 4 rfl) ?_
                        refine va_get (D := (dC, dI)) (ci := 12) (v := .int 6) (C := RX12) (T := TX12) (N := 24) hx hb hts iw_m_nextOrder_X12 hown hK hP 0 rfl rfl 15 (by decide) (hts (.fieldLink RX12 218 "ThriceCountedModel" "soughtMany" "I") (by decide +kernel)) (fun _ h9 => h9) rfl dX12_nextOrder_100 ?_
                        refine lv_iconst (v := 1) hx hb dX12_nextOrder_103 (by decide) ?_
                        refine lv_isub hx hb dX12_nextOrder_104 ?_
                        refine tz_i 5 (by decide) ?_
                        refine lv_istore (lv' := [(5, .int 5), (4, .int 2), (3, .int (fz_ 1)), (2, .int 5), (1, .int 1), (0, .ref mo)]) hx hb dX12_nextOrder_105 hl (by decide) rfl (fun ls hl => ?_)
                        refine lv_iload hx hb dX12_nextOrder_107 (lv_at hl 1 rfl) ?_
                        refine lv_iload hx hb dX12_nextOrder_109 (lv_at hl 0 rfl) ?_
                        refine lv_icmp_ge (tgt := 155) hx hb dX12_nextOrder_111 (by decide) (fun c_462 => ?_) (fun c_462 => ?_)
                        · exact absurd c_462 (by decide)
                        · refine lv_aload_n hx hb dX12_nextOrder_114 rfl (lv_at hl 5 rfl) ?_
                          refine va_get (D := (dC, dI)) (ci := 12) (v := .ref mz) (C := RX12) (T := TX12) (N := 24) hx hb hts iw_m_nextOrder_X12 hown hK hP 0 rfl rfl 13 (by decide) (hts (.fieldLink RX12 34 "ThriceCountedModel" "order" "[I") (by decide +kernel)) (fun _ h9 => h9) rfl dX12_nextOrder_115 ?_
                          refine lv_iload hx hb dX12_nextOrder_118 (lv_at hl 1 rfl) ?_
                          refine va_iald hx hb hK hP 1 0 rfl rfl (show ¬ ((2 : Int32) < 0 ∨ 6 ≤ (2 : Int32).toNatClampNeg) by decide) dX12_nextOrder_120 ?_
                          refine tz_i (fz_ 2) rfl ?_
                          refine lv_istore (lv' := [(6, .int (fz_ 2)), (5, .int 5), (4, .int 2), (3, .int (fz_ 1)), (2, .int 5), (1, .int 1), (0, .ref mo)]) hx hb dX12_nextOrder_121 hl (by decide) rfl (fun ls hl => ?_)
                          refine lv_aload_n hx hb dX12_nextOrder_123 rfl (lv_at hl 6 rfl) ?_
                          refine va_get (D := (dC, dI)) (ci := 12) (v := .ref mz) (C := RX12) (T := TX12) (N := 24) hx hb hts iw_m_nextOrder_X12 hown hK hP 0 rfl rfl 13 (by decide) (hts (.fieldLink RX12 34 "ThriceCountedModel" "order" "[I") (by decide +kernel)) (fun _ h9 => h9) rfl dX12_nextOrder_124 ?_
                          refine lv_iload hx hb dX12_nextOrder_127 (lv_at hl 2 rfl) ?_
                          refine lv_aload_n hx hb dX12_nextOrder_129 rfl (lv_at hl 6 rfl) ?_
                          refine va_get (D := (dC, dI)) (ci := 12) (v := .ref mz) (C := RX12) (T := TX12) (N := 24) hx hb hts iw_m_nextOrder_X12 hown hK hP 0 rfl rfl 13 (by decide) (hts (.fieldLink RX12 34 "ThriceCountedModel" "order" "[I") (by decide +kernel)) (fun _ h9 => h9) rfl dX12_nextOrder_130 ?_
                          refine lv_iload hx hb dX12_nextOrder_133 (lv_at hl 1 rfl) ?_
                          refine va_iald hx hb hK hP 1 0 rfl rfl (show ¬ ((5 : Int32) < 0 ∨ 6 ≤ (5 : Int32).toNatClampNeg) by decide) dX12_nextOrder_135 ?_
                          refine tz_i (fz_ 1) rfl ?_
                          refine va_iast hx hb hK hP hD hS 1 0 rfl rfl (show ¬ ((2 : Int32) < 0 ∨ 6 ≤ (2 : Int32).toNatClampNeg) by decide) dX12_nextOrder_136 (fun H locs hP hD hS => ?_)
                          have hP : va_P (dC, dI) vwCl [(mo, .inr (12, [.ref nw, .ref kp, .ref ik, .ref mr, .long la_, .long lb_, .ref mw, .long lc_, .int ti_, .int cb_, .long ld_, .long le_, .ref mq, .ref mz, .ref my, .int 6, .ref mb, .int bl_, .int ta_, .int tl_, .int tk_, .int vl_, .ref mx, .ref mv])), (mz, .inl (cz_, 6, .inl (upd (upd (upd fz_ (Int32.toNatClampNeg 1) (fz_ 5)) (Int32.toNatClampNeg 5) (fz_ 1)) (Int32.toNatClampNeg 2) (fz_ 1))))] H := hP
                          have hD : va_D A [(mo, .inr (12, [.ref nw, .ref kp, .ref ik, .ref mr, .long la_, .long lb_, .ref mw, .long lc_, .int ti_, .int cb_, .long ld_, .long le_, .ref mq, .ref mz, .ref my, .int 6, .ref mb, .int bl_, .int ta_, .int tl_, .int tk_, .int vl_, .ref mx, .ref mv])), (mz, .inl (cz_, 6, .inl (upd (upd (upd fz_ (Int32.toNatClampNeg 1) (fz_ 5)) (Int32.toNatClampNeg 5) (fz_ 1)) (Int32.toNatClampNeg 2) (fz_ 1))))] := hD
                          refine lv_aload_n hx hb dX12_nextOrder_137 rfl (lv_at hl 6 rfl) ?_
                          refine va_get (D := (dC, dI)) (ci := 12) (v := .ref mz) (C := RX12) (T := TX12) (N := 24) hx hb hts iw_m_nextOrder_X12 hown hK hP 0 rfl rfl 13 (by decide) (hts (.fieldLink RX12 34 "ThriceCountedModel" "order" "[I") (by decide +kernel)) (fun _ h9 => h9) rfl dX12_nextOrder_138 ?_
                          refine lv_iload hx hb dX12_nextOrder_141 (lv_at hl 1 rfl) ?_
                          refine lv_iload hx hb dX12_nextOrder_143 (lv_at hl 0 rfl) ?_
                          refine va_iast hx hb hK hP hD hS 1 0 rfl rfl (show ¬ ((5 : Int32) < 0 ∨ 6 ≤ (5 : Int32).toNatClampNeg) by decide) dX12_nextOrder_145 (fun H locs hP hD hS => ?_)
                          have hP : va_P (dC, dI) vwCl [(mo, .inr (12, [.ref nw, .ref kp, .ref ik, .ref mr, .long la_, .long lb_, .ref mw, .long lc_, .int ti_, .int cb_, .long ld_, .long le_, .ref mq, .ref mz, .ref my, .int 6, .ref mb, .int bl_, .int ta_, .int tl_, .int tk_, .int vl_, .ref mx, .ref mv])), (mz, .inl (cz_, 6, .inl (upd (upd (upd (upd fz_ (Int32.toNatClampNeg 1) (fz_ 5)) (Int32.toNatClampNeg 5) (fz_ 1)) (Int32.toNatClampNeg 2) (fz_ 1)) (Int32.toNatClampNeg 5) (fz_ 2))))] H := hP
                          have hD : va_D A [(mo, .inr (12, [.ref nw, .ref kp, .ref ik, .ref mr, .long la_, .long lb_, .ref mw, .long lc_, .int ti_, .int cb_, .long ld_, .long le_, .ref mq, .ref mz, .ref my, .int 6, .ref mb, .int bl_, .int ta_, .int tl_, .int tk_, .int vl_, .ref mx, .ref mv])), (mz, .inl (cz_, 6, .inl (upd (upd (upd (upd fz_ (Int32.toNatClampNeg 1) (fz_ 5)) (Int32.toNatClampNeg 5) (fz_ 1)) (Int32.toNatClampNeg 2) (fz_ 1)) (Int32.toNatClampNeg 5) (fz_ 2))))] := hD
                          refine lv_iinc (v := 3) (lv' := [(4, .int 3), (6, .int (fz_ 2)), (5, .int 5), (3, .int (fz_ 1)), (2, .int 5), (1, .int 1), (0, .ref mo)]) hx hb dX12_nextOrder_146 hl (k := 2) rfl (by decide) (by decide) rfl (fun ls hl => ?_)
                          refine lv_iinc (v := 4) (lv' := [(5, .int 4), (4, .int 3), (6, .int (fz_ 2)), (3, .int (fz_ 1)), (2, .int 5), (1, .int 1), (0, .ref mo)]) hx hb dX12_nextOrder_149 hl (k := 2) rfl (by decide) (by decide) rfl (fun ls hl => ?_)
                          refine lv_goto (tgt := 107) hx hb dX12_nextOrder_152 (by decide) ?_
                          refine lv_iload hx hb dX12_nextOrder_107 (lv_at hl 1 rfl) ?_
                          refine lv_iload hx hb dX12_nextOrder_109 (lv_at hl 0 rfl) ?_
                          refine lv_icmp_ge (tgt := 155) hx hb dX12_nextOrder_111 (by decide) (fun c_465 => ?_) (fun c_465 => ?_)
                          · exact absurd c_465 (by decide)
                          · refine lv_aload_n hx hb dX12_nextOrder_114 rfl (lv_at hl 6 rfl) ?_
                            refine va_get (D := (dC, dI)) (ci := 12) (v := .ref mz) (C := RX12) (T := TX12) (N := 24) hx hb hts iw_m_nextOrder_X12 hown hK hP 0 rfl rfl 13 (by decide) (hts (.fieldLink RX12 34 "ThriceCountedModel" "order" "[I") (by decide +kernel)) (fun _ h9 => h9) rfl dX12_nextOrder_115 ?_
                            refine lv_iload hx hb dX12_nextOrder_118 (lv_at hl 1 rfl) ?_
                            refine va_iald hx hb hK hP 1 0 rfl rfl (show ¬ ((3 : Int32) < 0 ∨ 6 ≤ (3 : Int32).toNatClampNeg) by decide) dX12_nextOrder_120 ?_
                            refine tz_i (fz_ 3) rfl ?_
                            refine lv_istore (lv' := [(6, .int (fz_ 3)), (5, .int 4), (4, .int 3), (3, .int (fz_ 1)), (2, .int 5), (1, .int 1), (0, .ref mo)]) hx hb dX12_nextOrder_121 hl (by decide) rfl (fun ls hl => ?_)
                            refine lv_aload_n hx hb dX12_nextOrder_123 rfl (lv_at hl 6 rfl) ?_
                            refine va_get (D := (dC, dI)) (ci := 12) (v := .ref mz) (C := RX12) (T := TX12) (N := 24) hx hb hts iw_m_nextOrder_X12 hown hK hP 0 rfl rfl 13 (by decide) (hts (.fieldLink RX12 34 "ThriceCountedModel" "order" "[I") (by decide +kernel)) (fun _ h9 => h9) rfl dX12_nextOrder_124 ?_
                            refine lv_iload hx hb dX12_nextOrder_127 (lv_at hl 2 rfl) ?_
                            refine lv_aload_n hx hb dX12_nextOrder_129 rfl (lv_at hl 6 rfl) ?_
                            refine va_get (D := (dC, dI)) (ci := 12) (v := .ref mz) (C := RX12) (T := TX12) (N := 24) hx hb hts iw_m_nextOrder_X12 hown hK hP 0 rfl rfl 13 (by decide) (hts (.fieldLink RX12 34 "ThriceCountedModel" "order" "[I") (by decide +kernel)) (fun _ h9 => h9) rfl dX12_nextOrder_130 ?_
                            refine lv_iload hx hb dX12_nextOrder_133 (lv_at hl 1 rfl) ?_
                            refine va_iald hx hb hK hP 1 0 rfl rfl (show ¬ ((4 : Int32) < 0 ∨ 6 ≤ (4 : Int32).toNatClampNeg) by decide) dX12_nextOrder_135 ?_
                            refine tz_i (fz_ 4) rfl ?_
                            refine va_iast hx hb hK hP hD hS 1 0 rfl rfl (show ¬ ((3 : Int32) < 0 ∨ 6 ≤ (3 : Int32).toNatClampNeg) by decide) dX12_nextOrder_136 (fun H locs hP hD hS => ?_)
                            have hP : va_P (dC, dI) vwCl [(mo, .inr (12, [.ref nw, .ref kp, .ref ik, .ref mr, .long la_, .long lb_, .ref mw, .long lc_, .int ti_, .int cb_, .long ld_, .long le_, .ref mq, .ref mz, .ref my, .int 6, .ref mb, .int bl_, .int ta_, .int tl_, .int tk_, .int vl_, .ref mx, .ref mv])), (mz, .inl (cz_, 6, .inl (upd (upd (upd (upd (upd fz_ (Int32.toNatClampNeg 1) (fz_ 5)) (Int32.toNatClampNeg 5) (fz_ 1)) (Int32.toNatClampNeg 2) (fz_ 1)) (Int32.toNatClampNeg 5) (fz_ 2)) (Int32.toNatClampNeg 3) (fz_ 4))))] H := hP
                            have hD : va_D A [(mo, .inr (12, [.ref nw, .ref kp, .ref ik, .ref mr, .long la_, .long lb_, .ref mw, .long lc_, .int ti_, .int cb_, .long ld_, .long le_, .ref mq, .ref mz, .ref my, .int 6, .ref mb, .int bl_, .int ta_, .int tl_, .int tk_, .int vl_, .ref mx, .ref mv])), (mz, .inl (cz_, 6, .inl (upd (upd (upd (upd (upd fz_ (Int32.toNatClampNeg 1) (fz_ 5)) (Int32.toNatClampNeg 5) (fz_ 1)) (Int32.toNatClampNeg 2) (fz_ 1)) (Int32.toNatClampNeg 5) (fz_ 2)) (Int32.toNatClampNeg 3) (fz_ 4))))] := hD
                            refine lv_aload_n hx hb dX12_nextOrder_137 rfl (lv_at hl 6 rfl) ?_
                            refine va_get (D := (dC, dI)) (ci := 12) (v := .ref mz) (C := RX12) (T := TX12) (N := 24) hx hb hts iw_m_nextOrder_X12 hown hK hP 0 rfl rfl 13 (by decide) (hts (.fieldLink RX12 34 "ThriceCountedModel" "order" "[I") (by decide +kernel)) (fun _ h9 => h9) rfl dX12_nextOrder_138 ?_
                            refine lv_iload hx hb dX12_nextOrder_141 (lv_at hl 1 rfl) ?_
                            refine lv_iload hx hb dX12_nextOrder_143 (lv_at hl 0 rfl) ?_
                            refine va_iast hx hb hK hP hD hS 1 0 rfl rfl (show ¬ ((4 : Int32) < 0 ∨ 6 ≤ (4 : Int32).toNatClampNeg) by decide) dX12_nextOrder_145 (fun H locs hP hD hS => ?_)
                            have hP : va_P (dC, dI) vwCl [(mo, .inr (12, [.ref nw, .ref kp, .ref ik, .ref mr, .long la_, .long lb_, .ref mw, .long lc_, .int ti_, .int cb_, .long ld_, .long le_, .ref mq, .ref mz, .ref my, .int 6, .ref mb, .int bl_, .int ta_, .int tl_, .int tk_, .int vl_, .ref mx, .ref mv])), (mz, .inl (cz_, 6, .inl (upd (upd (upd (upd (upd (upd fz_ (Int32.toNatClampNeg 1) (fz_ 5)) (Int32.toNatClampNeg 5) (fz_ 1)) (Int32.toNatClampNeg 2) (fz_ 1)) (Int32.toNatClampNeg 5) (fz_ 2)) (Int32.toNatClampNeg 3) (fz_ 4)) (Int32.toNatClampNeg 4) (fz_ 3))))] H := hP
                            have hD : va_D A [(mo, .inr (12, [.ref nw, .ref kp, .ref ik, .ref mr, .long la_, .long lb_, .ref mw, .long lc_, .int ti_, .int cb_, .long ld_, .long le_, .ref mq, .ref mz, .ref my, .int 6, .ref mb, .int bl_, .int ta_, .int tl_, .int tk_, .int vl_, .ref mx, .ref mv])), (mz, .inl (cz_, 6, .inl (upd (upd (upd (upd (upd (upd fz_ (Int32.toNatClampNeg 1) (fz_ 5)) (Int32.toNatClampNeg 5) (fz_ 1)) (Int32.toNatClampNeg 2) (fz_ 1)) (Int32.toNatClampNeg 5) (fz_ 2)) (Int32.toNatClampNeg 3) (fz_ 4)) (Int32.toNatClampNeg 4) (fz_ 3))))] := hD
                            refine lv_iinc (v := 4) (lv' := [(4, .int 4), (6, .int (fz_ 3)), (5, .int 4), (3, .int (fz_ 1)), (2, .int 5), (1, .int 1), (0, .ref mo)]) hx hb dX12_nextOrder_146 hl (k := 2) rfl (by decide) (by decide) rfl (fun ls hl => ?_)
                            refine lv_iinc (v := 3) (lv' := [(5, .int 3), (4, .int 4), (6, .int (fz_ 3)), (3, .int (fz_ 1)), (2, .int 5), (1, .int 1), (0, .ref mo)]) hx hb dX12_nextOrder_149 hl (k := 2) rfl (by decide) (by decide) rfl (fun ls hl => ?_)
                            refine lv_goto (tgt := 107) hx hb dX12_nextOrder_152 (by decide) ?_
                            refine lv_iload hx hb dX12_nextOrder_107 (lv_at hl 1 rfl) ?_
                            refine lv_iload hx hb dX12_nextOrder_109 (lv_at hl 0 rfl) ?_
                            refine lv_icmp_ge (tgt := 155) hx hb dX12_nextOrder_111 (by decide) (fun c_468 => ?_) (fun c_468 => ?_)
                            · refine lv_iconst (v := 1) hx hb dX12_nextOrder_155 (by decide) ?_
                              have hP9 := hP.sub (ws' := [(mo, .inr (12, [.ref nw, .ref kp, .ref ik, .ref mr, .long la_, .long lb_, .ref mw, .long lc_, .int ti_, .int cb_, .long ld_, .long le_, .ref mq, .ref mz, .ref my, .int (nI 6), .ref mb, .int bl_, .int ta_, .int tl_, .int tk_, .int vl_, .ref mx, .ref mv])), (mz, .inl (cz_, 6, .inl (upd (upd (upd (upd (upd (upd fz_ (Int32.toNatClampNeg 1) (fz_ 5)) (Int32.toNatClampNeg 5) (fz_ 1)) (Int32.toNatClampNeg 2) (fz_ 1)) (Int32.toNatClampNeg 5) (fz_ 2)) (Int32.toNatClampNeg 3) (fz_ 4)) (Int32.toNatClampNeg 4) (fz_ 3))))]) [0, 1] rfl
                              have hD9 := hD.sub (ws' := [(mo, .inr (12, [.ref nw, .ref kp, .ref ik, .ref mr, .long la_, .long lb_, .ref mw, .long lc_, .int ti_, .int cb_, .long ld_, .long le_, .ref mq, .ref mz, .ref my, .int (nI 6), .ref mb, .int bl_, .int ta_, .int tl_, .int tk_, .int vl_, .ref mx, .ref mv])), (mz, .inl (cz_, 6, .inl (upd (upd (upd (upd (upd (upd fz_ (Int32.toNatClampNeg 1) (fz_ 5)) (Int32.toNatClampNeg 5) (fz_ 1)) (Int32.toNatClampNeg 2) (fz_ 1)) (Int32.toNatClampNeg 5) (fz_ 2)) (Int32.toNatClampNeg 3) (fz_ 4)) (Int32.toNatClampNeg 4) (fz_ 3))))]) [0, 1] (by decide) rfl
                              have hK9 := hK.sub (tys' := [(cz_, .int)]) [0] rfl
                              have hlt_469 : (fz_ 1).toInt < (fz_ 5).toInt := tz_ltt2 c_459 (hdi.2 1 5 (by omega) (by omega))
                              have hb_470 := hdi.1 0 (by omega)
                              have hb_471 := hdi.1 1 (by omega)
                              have hb_472 := hdi.1 2 (by omega)
                              have hb_473 := hdi.1 3 (by omega)
                              have hb_474 := hdi.1 4 (by omega)
                              have hb_475 := hdi.1 5 (by omega)
                              have ev_476 : tz_val 6 fz_ = 7776 * (fz_ 0).toInt + 1296 * (fz_ 1).toInt + 216 * (fz_ 2).toInt + 36 * (fz_ 3).toInt + 6 * (fz_ 4).toInt + (fz_ 5).toInt := rfl
                              have eg_477 : tz_val 6 (upd (upd (upd (upd (upd (upd fz_ (Int32.toNatClampNeg 1) (fz_ 5)) (Int32.toNatClampNeg 5) (fz_ 1)) (Int32.toNatClampNeg 2) (fz_ 1)) (Int32.toNatClampNeg 5) (fz_ 2)) (Int32.toNatClampNeg 3) (fz_ 4)) (Int32.toNatClampNeg 4) (fz_ 3)) = 7776 * (fz_ 0).toInt + 1296 * (fz_ 5).toInt + 216 * (fz_ 1).toInt + 36 * (fz_ 4).toInt + 6 * (fz_ 3).toInt + (fz_ 2).toInt := rfl
                              have hp_478 : tz_Di 6 (upd (upd (upd (upd (upd (upd fz_ (Int32.toNatClampNeg 1) (fz_ 5)) (Int32.toNatClampNeg 5) (fz_ 1)) (Int32.toNatClampNeg 2) (fz_ 1)) (Int32.toNatClampNeg 5) (fz_ 2)) (Int32.toNatClampNeg 3) (fz_ 4)) (Int32.toNatClampNeg 4) (fz_ 3)) := hdi.perm (fun a => ([0, 5, 1, 4, 3, 2] : List Nat).getD a 0) (fun a ha => by
                                rcases (show a = 0 ∨ a = 1 ∨ a = 2 ∨ a = 3 ∨ a = 4 ∨ a = 5 by omega) with rfl | rfl | rfl | rfl | rfl | rfl <;> exact ⟨by decide, rfl⟩) (by decide)
                              exact W.zret (v := 1) hx hb hr (by decide) (fun t ht hW => ⟨⟨1, (), rfl, Or.inr ⟨rfl, 1, by omega, tz_nle_of c_457⟩, (upd (upd (upd (upd (upd (upd fz_ (Int32.toNatClampNeg 1) (fz_ 5)) (Int32.toNatClampNeg 5) (fz_ 1)) (Int32.toNatClampNeg 2) (fz_ 1)) (Int32.toNatClampNeg 5) (fz_ 2)) (Int32.toNatClampNeg 3) (fz_ 4)) (Int32.toNatClampNeg 4) (fz_ 3)), hp_478, by rw [ev_476, eg_477]; omega, fun _ => by rw [ev_476, eg_477]; omega, by rw [ht]; exact hP9, va_K.moved hW.alike hK9, hD9⟩, hS.F ht⟩) hS.2.2 dX12_nextOrder_156
                            · exact absurd c_468 (by decide)
                      · refine lv_iinc (v := 4) (lv' := [(2, .int 4), (1, .int 1), (0, .ref mo)]) hx hb dX12_nextOrder_62 hl (k := 0) rfl (by decide) (by decide) rfl (fun ls hl => ?_)
                        refine lv_goto (tgt := 47) hx hb dX12_nextOrder_65 (by decide) ?_
                        refine lv_aload_n hx hb dX12_nextOrder_47 rfl (lv_at hl 2 rfl) ?_
                        refine va_get (D := (dC, dI)) (ci := 12) (v := .ref mz) (C := RX12) (T := TX12) (N := 24) hx hb hts iw_m_nextOrder_X12 hown hK hP 0 rfl rfl 13 (by decide) (hts (.fieldLink RX12 34 "ThriceCountedModel" "order" "[I") (by decide +kernel)) (fun _ h9 => h9) rfl dX12_nextOrder_48 ?_
                        refine lv_iload_n hx hb dX12_nextOrder_51 rfl (lv_at hl 0 rfl) ?_
                        refine va_iald hx hb hK hP 1 0 rfl rfl (show ¬ ((4 : Int32) < 0 ∨ 6 ≤ (4 : Int32).toNatClampNeg) by decide) dX12_nextOrder_52 ?_
                        refine tz_i (fz_ 4) rfl ?_
                        refine lv_aload_n hx hb dX12_nextOrder_53 rfl (lv_at hl 2 rfl) ?_
                        refine va_get (D := (dC, dI)) (ci := 12) (v := .ref mz) (C := RX12) (T := TX12) (N := 24) hx hb hts iw_m_nextOrder_X12 hown hK hP 0 rfl rfl 13 (by decide) (hts (.fieldLink RX12 34 "ThriceCountedModel" "order" "[I") (by decide +kernel)) (fun _ h9 => h9) rfl dX12_nextOrder_54 ?_
                        refine lv_iload_n hx hb dX12_nextOrder_57 rfl (lv_at hl 1 rfl) ?_
                        refine va_iald hx hb hK hP 1 0 rfl rfl (show ¬ ((1 : Int32) < 0 ∨ 6 ≤ (1 : Int32).toNatClampNeg) by decide) dX12_nextOrder_58 ?_
                        refine tz_i (fz_ 1) rfl ?_
                        refine lv_icmp_ge (tgt := 68) hx hb dX12_nextOrder_59 (by decide) (fun c_479 => ?_) (fun c_479 => ?_)
                        · refine lv_aload_n hx hb dX12_nextOrder_68 rfl (lv_at hl 2 rfl) ?_
                          refine va_get (D := (dC, dI)) (ci := 12) (v := .ref mz) (C := RX12) (T := TX12) (N := 24) hx hb hts iw_m_nextOrder_X12 hown hK hP 0 rfl rfl 13 (by decide) (hts (.fieldLink RX12 34 "ThriceCountedModel" "order" "[I") (by decide +kernel)) (fun _ h9 => h9) rfl dX12_nextOrder_69 ?_
                          refine lv_iload_n hx hb dX12_nextOrder_72 rfl (lv_at hl 1 rfl) ?_
                          refine va_iald hx hb hK hP 1 0 rfl rfl (show ¬ ((1 : Int32) < 0 ∨ 6 ≤ (1 : Int32).toNatClampNeg) by decide) dX12_nextOrder_73 ?_
                          refine tz_i (fz_ 1) rfl ?_
                          refine lv_istore_n (lv' := [(3, .int (fz_ 1)), (2, .int 4), (1, .int 1), (0, .ref mo)]) hx hb dX12_nextOrder_74 rfl hl (by decide) rfl (fun ls hl => ?_)
                          refine lv_aload_n hx hb dX12_nextOrder_75 rfl (lv_at hl 3 rfl) ?_
                          refine va_get (D := (dC, dI)) (ci := 12) (v := .ref mz) (C := RX12) (T := TX12) (N := 24) hx hb hts iw_m_nextOrder_X12 hown hK hP 0 rfl rfl 13 (by decide) (hts (.fieldLink RX12 34 "ThriceCountedModel" "order" "[I") (by decide +kernel)) (fun _ h9 => h9) rfl dX12_nextOrder_76 ?_
                          refine lv_iload_n hx hb dX12_nextOrder_79 rfl (lv_at hl 2 rfl) ?_
                          refine lv_aload_n hx hb dX12_nextOrder_80 rfl (lv_at hl 3 rfl) ?_
                          refine va_get (D := (dC, dI)) (ci := 12) (v := .ref mz) (C := RX12) (T := TX12) (N := 24) hx hb hts iw_m_nextOrder_X12 hown hK hP 0 rfl rfl 13 (by decide) (hts (.fieldLink RX12 34 "ThriceCountedModel" "order" "[I") (by decide +kernel)) (fun _ h9 => h9) rfl dX12_nextOrder_81 ?_
                          refine lv_iload_n hx hb dX12_nextOrder_84 rfl (lv_at hl 1 rfl) ?_
                          refine va_iald hx hb hK hP 1 0 rfl rfl (show ¬ ((4 : Int32) < 0 ∨ 6 ≤ (4 : Int32).toNatClampNeg) by decide) dX12_nextOrder_85 ?_
                          refine tz_i (fz_ 4) rfl ?_
                          refine va_iast hx hb hK hP hD hS 1 0 rfl rfl (show ¬ ((1 : Int32) < 0 ∨ 6 ≤ (1 : Int32).toNatClampNeg) by decide) dX12_nextOrder_86 (fun H locs hP hD hS => ?_)
                          have hP : va_P (dC, dI) vwCl [(mo, .inr (12, [.ref nw, .ref kp, .ref ik, .ref mr, .long la_, .long lb_, .ref mw, .long lc_, .int ti_, .int cb_, .long ld_, .long le_, .ref mq, .ref mz, .ref my, .int 6, .ref mb, .int bl_, .int ta_, .int tl_, .int tk_, .int vl_, .ref mx, .ref mv])), (mz, .inl (cz_, 6, .inl (upd fz_ (Int32.toNatClampNeg 1) (fz_ 4))))] H := hP
                          have hD : va_D A [(mo, .inr (12, [.ref nw, .ref kp, .ref ik, .ref mr, .long la_, .long lb_, .ref mw, .long lc_, .int ti_, .int cb_, .long ld_, .long le_, .ref mq, .ref mz, .ref my, .int 6, .ref mb, .int bl_, .int ta_, .int tl_, .int tk_, .int vl_, .ref mx, .ref mv])), (mz, .inl (cz_, 6, .inl (upd fz_ (Int32.toNatClampNeg 1) (fz_ 4))))] := hD
                          refine lv_aload_n hx hb dX12_nextOrder_87 rfl (lv_at hl 3 rfl) ?_
                          refine va_get (D := (dC, dI)) (ci := 12) (v := .ref mz) (C := RX12) (T := TX12) (N := 24) hx hb hts iw_m_nextOrder_X12 hown hK hP 0 rfl rfl 13 (by decide) (hts (.fieldLink RX12 34 "ThriceCountedModel" "order" "[I") (by decide +kernel)) (fun _ h9 => h9) rfl dX12_nextOrder_88 ?_
                          refine lv_iload_n hx hb dX12_nextOrder_91 rfl (lv_at hl 1 rfl) ?_
                          refine lv_iload_n hx hb dX12_nextOrder_92 rfl (lv_at hl 0 rfl) ?_
                          refine va_iast hx hb hK hP hD hS 1 0 rfl rfl (show ¬ ((4 : Int32) < 0 ∨ 6 ≤ (4 : Int32).toNatClampNeg) by decide) dX12_nextOrder_93 (fun H locs hP hD hS => ?_)
                          have hP : va_P (dC, dI) vwCl [(mo, .inr (12, [.ref nw, .ref kp, .ref ik, .ref mr, .long la_, .long lb_, .ref mw, .long lc_, .int ti_, .int cb_, .long ld_, .long le_, .ref mq, .ref mz, .ref my, .int 6, .ref mb, .int bl_, .int ta_, .int tl_, .int tk_, .int vl_, .ref mx, .ref mv])), (mz, .inl (cz_, 6, .inl (upd (upd fz_ (Int32.toNatClampNeg 1) (fz_ 4)) (Int32.toNatClampNeg 4) (fz_ 1))))] H := hP
                          have hD : va_D A [(mo, .inr (12, [.ref nw, .ref kp, .ref ik, .ref mr, .long la_, .long lb_, .ref mw, .long lc_, .int ti_, .int cb_, .long ld_, .long le_, .ref mq, .ref mz, .ref my, .int 6, .ref mb, .int bl_, .int ta_, .int tl_, .int tk_, .int vl_, .ref mx, .ref mv])), (mz, .inl (cz_, 6, .inl (upd (upd fz_ (Int32.toNatClampNeg 1) (fz_ 4)) (Int32.toNatClampNeg 4) (fz_ 1))))] := hD
                          refine lv_iload_n hx hb dX12_nextOrder_94 rfl (lv_at hl 2 rfl) ?_
                          refine lv_iconst (v := 1) hx hb dX12_nextOrder_95 (by decide) ?_
                          refine lv_iadd hx hb dX12_nextOrder_96 ?_
                          refine tz_i 2 (by decide) ?_
                          refine lv_istore (lv' := [(4, .int 2), (3, .int (fz_ 1)), (2, .int 4), (1, .int 1), (0, .ref mo)]) hx hb dX12_nextOrder_97 hl (by decide) rfl (fun ls hl => ?_)
                          refine lv_aload_n hx hb dX12_nextOrder_99 rfl (lv_at hl 4 rfl) ?_
                          refine va_get (D := (dC, dI)) (ci := 12) (v := .int 6) (C := RX12) (T := TX12) (N := 24) hx hb hts iw_m_nextOrder_X12 hown hK hP 0 rfl rfl 15 (by decide) (hts (.fieldLink RX12 218 "ThriceCountedModel" "soughtMany" "I") (by decide +kernel)) (fun _ h9 => h9) rfl dX12_nextOrder_100 ?_
                          refine lv_iconst (v := 1) hx hb dX12_nextOrder_103 (by decide) ?_
                          refine lv_isub hx hb dX12_nextOrder_104 ?_
                          refine tz_i 5 (by decide) ?_
                          refine lv_istore (lv' := [(5, .int 5), (4, .int 2), (3, .int (fz_ 1)), (2, .int 4), (1, .int 1), (0, .ref mo)]) hx hb dX12_nextOrder_105 hl (by decide) rfl (fun ls hl => ?_)
                          refine lv_iload hx hb dX12_nextOrder_107 (lv_at hl 1 rfl) ?_
                          refine lv_iload hx hb dX12_nextOrder_109 (lv_at hl 0 rfl) ?_
                          refine lv_icmp_ge (tgt := 155) hx hb dX12_nextOrder_111 (by decide) (fun c_482 => ?_) (fun c_482 => ?_)
                          · exact absurd c_482 (by decide)
                          · refine lv_aload_n hx hb dX12_nextOrder_114 rfl (lv_at hl 5 rfl) ?_
                            refine va_get (D := (dC, dI)) (ci := 12) (v := .ref mz) (C := RX12) (T := TX12) (N := 24) hx hb hts iw_m_nextOrder_X12 hown hK hP 0 rfl rfl 13 (by decide) (hts (.fieldLink RX12 34 "ThriceCountedModel" "order" "[I") (by decide +kernel)) (fun _ h9 => h9) rfl dX12_nextOrder_115 ?_
                            refine lv_iload hx hb dX12_nextOrder_118 (lv_at hl 1 rfl) ?_
                            refine va_iald hx hb hK hP 1 0 rfl rfl (show ¬ ((2 : Int32) < 0 ∨ 6 ≤ (2 : Int32).toNatClampNeg) by decide) dX12_nextOrder_120 ?_
                            refine tz_i (fz_ 2) rfl ?_
                            refine lv_istore (lv' := [(6, .int (fz_ 2)), (5, .int 5), (4, .int 2), (3, .int (fz_ 1)), (2, .int 4), (1, .int 1), (0, .ref mo)]) hx hb dX12_nextOrder_121 hl (by decide) rfl (fun ls hl => ?_)
                            refine lv_aload_n hx hb dX12_nextOrder_123 rfl (lv_at hl 6 rfl) ?_
                            refine va_get (D := (dC, dI)) (ci := 12) (v := .ref mz) (C := RX12) (T := TX12) (N := 24) hx hb hts iw_m_nextOrder_X12 hown hK hP 0 rfl rfl 13 (by decide) (hts (.fieldLink RX12 34 "ThriceCountedModel" "order" "[I") (by decide +kernel)) (fun _ h9 => h9) rfl dX12_nextOrder_124 ?_
                            refine lv_iload hx hb dX12_nextOrder_127 (lv_at hl 2 rfl) ?_
                            refine lv_aload_n hx hb dX12_nextOrder_129 rfl (lv_at hl 6 rfl) ?_
                            refine va_get (D := (dC, dI)) (ci := 12) (v := .ref mz) (C := RX12) (T := TX12) (N := 24) hx hb hts iw_m_nextOrder_X12 hown hK hP 0 rfl rfl 13 (by decide) (hts (.fieldLink RX12 34 "ThriceCountedModel" "order" "[I") (by decide +kernel)) (fun _ h9 => h9) rfl dX12_nextOrder_130 ?_
                            refine lv_iload hx hb dX12_nextOrder_133 (lv_at hl 1 rfl) ?_
                            refine va_iald hx hb hK hP 1 0 rfl rfl (show ¬ ((5 : Int32) < 0 ∨ 6 ≤ (5 : Int32).toNatClampNeg) by decide) dX12_nextOrder_135 ?_
                            refine tz_i (fz_ 5) rfl ?_
                            refine va_iast hx hb hK hP hD hS 1 0 rfl rfl (show ¬ ((2 : Int32) < 0 ∨ 6 ≤ (2 : Int32).toNatClampNeg) by decide) dX12_nextOrder_136 (fun H locs hP hD hS => ?_)
                            have hP : va_P (dC, dI) vwCl [(mo, .inr (12, [.ref nw, .ref kp, .ref ik, .ref mr, .long la_, .long lb_, .ref mw, .long lc_, .int ti_, .int cb_, .long ld_, .long le_, .ref mq, .ref mz, .ref my, .int 6, .ref mb, .int bl_, .int ta_, .int tl_, .int tk_, .int vl_, .ref mx, .ref mv])), (mz, .inl (cz_, 6, .inl (upd (upd (upd fz_ (Int32.toNatClampNeg 1) (fz_ 4)) (Int32.toNatClampNeg 4) (fz_ 1)) (Int32.toNatClampNeg 2) (fz_ 5))))] H := hP
                            have hD : va_D A [(mo, .inr (12, [.ref nw, .ref kp, .ref ik, .ref mr, .long la_, .long lb_, .ref mw, .long lc_, .int ti_, .int cb_, .long ld_, .long le_, .ref mq, .ref mz, .ref my, .int 6, .ref mb, .int bl_, .int ta_, .int tl_, .int tk_, .int vl_, .ref mx, .ref mv])), (mz, .inl (cz_, 6, .inl (upd (upd (upd fz_ (Int32.toNatClampNeg 1) (fz_ 4)) (Int32.toNatClampNeg 4) (fz_ 1)) (Int32.toNatClampNeg 2) (fz_ 5))))] := hD
                            refine lv_aload_n hx hb dX12_nextOrder_137 rfl (lv_at hl 6 rfl) ?_
                            refine va_get (D := (dC, dI)) (ci := 12) (v := .ref mz) (C := RX12) (T := TX12) (N := 24) hx hb hts iw_m_nextOrder_X12 hown hK hP 0 rfl rfl 13 (by decide) (hts (.fieldLink RX12 34 "ThriceCountedModel" "order" "[I") (by decide +kernel)) (fun _ h9 => h9) rfl dX12_nextOrder_138 ?_
                            refine lv_iload hx hb dX12_nextOrder_141 (lv_at hl 1 rfl) ?_
                            refine lv_iload hx hb dX12_nextOrder_143 (lv_at hl 0 rfl) ?_
                            refine va_iast hx hb hK hP hD hS 1 0 rfl rfl (show ¬ ((5 : Int32) < 0 ∨ 6 ≤ (5 : Int32).toNatClampNeg) by decide) dX12_nextOrder_145 (fun H locs hP hD hS => ?_)
                            have hP : va_P (dC, dI) vwCl [(mo, .inr (12, [.ref nw, .ref kp, .ref ik, .ref mr, .long la_, .long lb_, .ref mw, .long lc_, .int ti_, .int cb_, .long ld_, .long le_, .ref mq, .ref mz, .ref my, .int 6, .ref mb, .int bl_, .int ta_, .int tl_, .int tk_, .int vl_, .ref mx, .ref mv])), (mz, .inl (cz_, 6, .inl (upd (upd (upd (upd fz_ (Int32.toNatClampNeg 1) (fz_ 4)) (Int32.toNatClampNeg 4) (fz_ 1)) (Int32.toNatClampNeg 2) (fz_ 5)) (Int32.toNatClampNeg 5) (fz_ 2))))] H := hP
                            have hD : va_D A [(mo, .inr (12, [.ref nw, .ref kp, .ref ik, .ref mr, .long la_, .long lb_, .ref mw, .long lc_, .int ti_, .int cb_, .long ld_, .long le_, .ref mq, .ref mz, .ref my, .int 6, .ref mb, .int bl_, .int ta_, .int tl_, .int tk_, .int vl_, .ref mx, .ref mv])), (mz, .inl (cz_, 6, .inl (upd (upd (upd (upd fz_ (Int32.toNatClampNeg 1) (fz_ 4)) (Int32.toNatClampNeg 4) (fz_ 1)) (Int32.toNatClampNeg 2) (fz_ 5)) (Int32.toNatClampNeg 5) (fz_ 2))))] := hD
                            refine lv_iinc (v := 3) (lv' := [(4, .int 3), (6, .int (fz_ 2)), (5, .int 5), (3, .int (fz_ 1)), (2, .int 4), (1, .int 1), (0, .ref mo)]) hx hb dX12_nextOrder_146 hl (k := 2) rfl (by decide) (by decide) rfl (fun ls hl => ?_)
                            refine lv_iinc (v := 4) (lv' := [(5, .int 4), (4, .int 3), (6, .int (fz_ 2)), (3, .int (fz_ 1)), (2, .int 4), (1, .int 1), (0, .ref mo)]) hx hb dX12_nextOrder_149 hl (k := 2) rfl (by decide) (by decide) rfl (fun ls hl => ?_)
                            refine lv_goto (tgt := 107) hx hb dX12_nextOrder_152 (by decide) ?_
                            refine lv_iload hx hb dX12_nextOrder_107 (lv_at hl 1 rfl) ?_
                            refine lv_iload hx hb dX12_nextOrder_109 (lv_at hl 0 rfl) ?_
                            refine lv_icmp_ge (tgt := 155) hx hb dX12_nextOrder_111 (by decide) (fun c_485 => ?_) (fun c_485 => ?_)
                            · exact absurd c_485 (by decide)
                            · refine lv_aload_n hx hb dX12_nextOrder_114 rfl (lv_at hl 6 rfl) ?_
                              refine va_get (D := (dC, dI)) (ci := 12) (v := .ref mz) (C := RX12) (T := TX12) (N := 24) hx hb hts iw_m_nextOrder_X12 hown hK hP 0 rfl rfl 13 (by decide) (hts (.fieldLink RX12 34 "ThriceCountedModel" "order" "[I") (by decide +kernel)) (fun _ h9 => h9) rfl dX12_nextOrder_115 ?_
                              refine lv_iload hx hb dX12_nextOrder_118 (lv_at hl 1 rfl) ?_
                              refine va_iald hx hb hK hP 1 0 rfl rfl (show ¬ ((3 : Int32) < 0 ∨ 6 ≤ (3 : Int32).toNatClampNeg) by decide) dX12_nextOrder_120 ?_
                              refine tz_i (fz_ 3) rfl ?_
                              refine lv_istore (lv' := [(6, .int (fz_ 3)), (5, .int 4), (4, .int 3), (3, .int (fz_ 1)), (2, .int 4), (1, .int 1), (0, .ref mo)]) hx hb dX12_nextOrder_121 hl (by decide) rfl (fun ls hl => ?_)
                              refine lv_aload_n hx hb dX12_nextOrder_123 rfl (lv_at hl 6 rfl) ?_
                              refine va_get (D := (dC, dI)) (ci := 12) (v := .ref mz) (C := RX12) (T := TX12) (N := 24) hx hb hts iw_m_nextOrder_X12 hown hK hP 0 rfl rfl 13 (by decide) (hts (.fieldLink RX12 34 "ThriceCountedModel" "order" "[I") (by decide +kernel)) (fun _ h9 => h9) rfl dX12_nextOrder_124 ?_
                              refine lv_iload hx hb dX12_nextOrder_127 (lv_at hl 2 rfl) ?_
                              refine lv_aload_n hx hb dX12_nextOrder_129 rfl (lv_at hl 6 rfl) ?_
                              refine va_get (D := (dC, dI)) (ci := 12) (v := .ref mz) (C := RX12) (T := TX12) (N := 24) hx hb hts iw_m_nextOrder_X12 hown hK hP 0 rfl rfl 13 (by decide) (hts (.fieldLink RX12 34 "ThriceCountedModel" "order" "[I") (by decide +kernel)) (fun _ h9 => h9) rfl dX12_nextOrder_130 ?_
                              refine lv_iload hx hb dX12_nextOrder_133 (lv_at hl 1 rfl) ?_
                              refine va_iald hx hb hK hP 1 0 rfl rfl (show ¬ ((4 : Int32) < 0 ∨ 6 ≤ (4 : Int32).toNatClampNeg) by decide) dX12_nextOrder_135 ?_
                              refine tz_i (fz_ 1) rfl ?_
                              refine va_iast hx hb hK hP hD hS 1 0 rfl rfl (show ¬ ((3 : Int32) < 0 ∨ 6 ≤ (3 : Int32).toNatClampNeg) by decide) dX12_nextOrder_136 (fun H locs hP hD hS => ?_)
                              have hP : va_P (dC, dI) vwCl [(mo, .inr (12, [.ref nw, .ref kp, .ref ik, .ref mr, .long la_, .long lb_, .ref mw, .long lc_, .int ti_, .int cb_, .long ld_, .long le_, .ref mq, .ref mz, .ref my, .int 6, .ref mb, .int bl_, .int ta_, .int tl_, .int tk_, .int vl_, .ref mx, .ref mv])), (mz, .inl (cz_, 6, .inl (upd (upd (upd (upd (upd fz_ (Int32.toNatClampNeg 1) (fz_ 4)) (Int32.toNatClampNeg 4) (fz_ 1)) (Int32.toNatClampNeg 2) (fz_ 5)) (Int32.toNatClampNeg 5) (fz_ 2)) (Int32.toNatClampNeg 3) (fz_ 1))))] H := hP
                              have hD : va_D A [(mo, .inr (12, [.ref nw, .ref kp, .ref ik, .ref mr, .long la_, .long lb_, .ref mw, .long lc_, .int ti_, .int cb_, .long ld_, .long le_, .ref mq, .ref mz, .ref my, .int 6, .ref mb, .int bl_, .int ta_, .int tl_, .int tk_, .int vl_, .ref mx, .ref mv])), (mz, .inl (cz_, 6, .inl (upd (upd (upd (upd (upd fz_ (Int32.toNatClampNeg 1) (fz_ 4)) (Int32.toNatClampNeg 4) (fz_ 1)) (Int32.toNatClampNeg 2) (fz_ 5)) (Int32.toNatClampNeg 5) (fz_ 2)) (Int32.toNatClampNeg 3) (fz_ 1))))] := hD
                              refine lv_aload_n hx hb dX12_nextOrder_137 rfl (lv_at hl 6 rfl) ?_
                              refine va_get (D := (dC, dI)) (ci := 12) (v := .ref mz) (C := RX12) (T := TX12) (N := 24) hx hb hts iw_m_nextOrder_X12 hown hK hP 0 rfl rfl 13 (by decide) (hts (.fieldLink RX12 34 "ThriceCountedModel" "order" "[I") (by decide +kernel)) (fun _ h9 => h9) rfl dX12_nextOrder_138 ?_
                              refine lv_iload hx hb dX12_nextOrder_141 (lv_at hl 1 rfl) ?_
                              refine lv_iload hx hb dX12_nextOrder_143 (lv_at hl 0 rfl) ?_
                              refine va_iast hx hb hK hP hD hS 1 0 rfl rfl (show ¬ ((4 : Int32) < 0 ∨ 6 ≤ (4 : Int32).toNatClampNeg) by decide) dX12_nextOrder_145 (fun H locs hP hD hS => ?_)
                              have hP : va_P (dC, dI) vwCl [(mo, .inr (12, [.ref nw, .ref kp, .ref ik, .ref mr, .long la_, .long lb_, .ref mw, .long lc_, .int ti_, .int cb_, .long ld_, .long le_, .ref mq, .ref mz, .ref my, .int 6, .ref mb, .int bl_, .int ta_, .int tl_, .int tk_, .int vl_, .ref mx, .ref mv])), (mz, .inl (cz_, 6, .inl (upd (upd (upd (upd (upd (upd fz_ (Int32.toNatClampNeg 1) (fz_ 4)) (Int32.toNatClampNeg 4) (fz_ 1)) (Int32.toNatClampNeg 2) (fz_ 5)) (Int32.toNatClampNeg 5) (fz_ 2)) (Int32.toNatClampNeg 3) (fz_ 1)) (Int32.toNatClampNeg 4) (fz_ 3))))] H := hP
                              have hD : va_D A [(mo, .inr (12, [.ref nw, .ref kp, .ref ik, .ref mr, .long la_, .long lb_, .ref mw, .long lc_, .int ti_, .int cb_, .long ld_, .long le_, .ref mq, .ref mz, .ref my, .int 6, .ref mb, .int bl_, .int ta_, .int tl_, .int tk_, .int vl_, .ref mx, .ref mv])), (mz, .inl (cz_, 6, .inl (upd (upd (upd (upd (upd (upd fz_ (Int32.toNatClampNeg 1) (fz_ 4)) (Int32.toNatClampNeg 4) (fz_ 1)) (Int32.toNatClampNeg 2) (fz_ 5)) (Int32.toNatClampNeg 5) (fz_ 2)) (Int32.toNatClampNeg 3) (fz_ 1)) (Int32.toNatClampNeg 4) (fz_ 3))))] := hD
                              refine lv_iinc (v := 4) (lv' := [(4, .int 4), (6, .int (fz_ 3)), (5, .int 4), (3, .int (fz_ 1)), (2, .int 4), (1, .int 1), (0, .ref mo)]) hx hb dX12_nextOrder_146 hl (k := 2) rfl (by decide) (by decide) rfl (fun ls hl => ?_)
                              refine lv_iinc (v := 3) (lv' := [(5, .int 3), (4, .int 4), (6, .int (fz_ 3)), (3, .int (fz_ 1)), (2, .int 4), (1, .int 1), (0, .ref mo)]) hx hb dX12_nextOrder_149 hl (k := 2) rfl (by decide) (by decide) rfl (fun ls hl => ?_)
                              refine lv_goto (tgt := 107) hx hb dX12_nextOrder_152 (by decide) ?_
                              refine lv_iload hx hb dX12_nextOrder_107 (lv_at hl 1 rfl) ?_
                              refine lv_iload hx hb dX12_nextOrder_109 (lv_at hl 0 rfl) ?_
                              refine lv_icmp_ge (tgt := 155) hx hb dX12_nextOrder_111 (by decide) (fun c_488 => ?_) (fun c_488 => ?_)
                              · refine lv_iconst (v := 1) hx hb dX12_nextOrder_155 (by decide) ?_
                                have hP9 := hP.sub (ws' := [(mo, .inr (12, [.ref nw, .ref kp, .ref ik, .ref mr, .long la_, .long lb_, .ref mw, .long lc_, .int ti_, .int cb_, .long ld_, .long le_, .ref mq, .ref mz, .ref my, .int (nI 6), .ref mb, .int bl_, .int ta_, .int tl_, .int tk_, .int vl_, .ref mx, .ref mv])), (mz, .inl (cz_, 6, .inl (upd (upd (upd (upd (upd (upd fz_ (Int32.toNatClampNeg 1) (fz_ 4)) (Int32.toNatClampNeg 4) (fz_ 1)) (Int32.toNatClampNeg 2) (fz_ 5)) (Int32.toNatClampNeg 5) (fz_ 2)) (Int32.toNatClampNeg 3) (fz_ 1)) (Int32.toNatClampNeg 4) (fz_ 3))))]) [0, 1] rfl
                                have hD9 := hD.sub (ws' := [(mo, .inr (12, [.ref nw, .ref kp, .ref ik, .ref mr, .long la_, .long lb_, .ref mw, .long lc_, .int ti_, .int cb_, .long ld_, .long le_, .ref mq, .ref mz, .ref my, .int (nI 6), .ref mb, .int bl_, .int ta_, .int tl_, .int tk_, .int vl_, .ref mx, .ref mv])), (mz, .inl (cz_, 6, .inl (upd (upd (upd (upd (upd (upd fz_ (Int32.toNatClampNeg 1) (fz_ 4)) (Int32.toNatClampNeg 4) (fz_ 1)) (Int32.toNatClampNeg 2) (fz_ 5)) (Int32.toNatClampNeg 5) (fz_ 2)) (Int32.toNatClampNeg 3) (fz_ 1)) (Int32.toNatClampNeg 4) (fz_ 3))))]) [0, 1] (by decide) rfl
                                have hK9 := hK.sub (tys' := [(cz_, .int)]) [0] rfl
                                have hlt_489 : (fz_ 1).toInt < (fz_ 4).toInt := tz_ltt2 c_479 (hdi.2 1 4 (by omega) (by omega))
                                have hb_490 := hdi.1 0 (by omega)
                                have hb_491 := hdi.1 1 (by omega)
                                have hb_492 := hdi.1 2 (by omega)
                                have hb_493 := hdi.1 3 (by omega)
                                have hb_494 := hdi.1 4 (by omega)
                                have hb_495 := hdi.1 5 (by omega)
                                have ev_496 : tz_val 6 fz_ = 7776 * (fz_ 0).toInt + 1296 * (fz_ 1).toInt + 216 * (fz_ 2).toInt + 36 * (fz_ 3).toInt + 6 * (fz_ 4).toInt + (fz_ 5).toInt := rfl
                                have eg_497 : tz_val 6 (upd (upd (upd (upd (upd (upd fz_ (Int32.toNatClampNeg 1) (fz_ 4)) (Int32.toNatClampNeg 4) (fz_ 1)) (Int32.toNatClampNeg 2) (fz_ 5)) (Int32.toNatClampNeg 5) (fz_ 2)) (Int32.toNatClampNeg 3) (fz_ 1)) (Int32.toNatClampNeg 4) (fz_ 3)) = 7776 * (fz_ 0).toInt + 1296 * (fz_ 4).toInt + 216 * (fz_ 5).toInt + 36 * (fz_ 1).toInt + 6 * (fz_ 3).toInt + (fz_ 2).toInt := rfl
                                have hp_498 : tz_Di 6 (upd (upd (upd (upd (upd (upd fz_ (Int32.toNatClampNeg 1) (fz_ 4)) (Int32.toNatClampNeg 4) (fz_ 1)) (Int32.toNatClampNeg 2) (fz_ 5)) (Int32.toNatClampNeg 5) (fz_ 2)) (Int32.toNatClampNeg 3) (fz_ 1)) (Int32.toNatClampNeg 4) (fz_ 3)) := hdi.perm (fun a => ([0, 4, 5, 1, 3, 2] : List Nat).getD a 0) (fun a ha => by
                                  rcases (show a = 0 ∨ a = 1 ∨ a = 2 ∨ a = 3 ∨ a = 4 ∨ a = 5 by omega) with rfl | rfl | rfl | rfl | rfl | rfl <;> exact ⟨by decide, rfl⟩) (by decide)
                                exact W.zret (v := 1) hx hb hr (by decide) (fun t ht hW => ⟨⟨1, (), rfl, Or.inr ⟨rfl, 1, by omega, tz_nle_of c_457⟩, (upd (upd (upd (upd (upd (upd fz_ (Int32.toNatClampNeg 1) (fz_ 4)) (Int32.toNatClampNeg 4) (fz_ 1)) (Int32.toNatClampNeg 2) (fz_ 5)) (Int32.toNatClampNeg 5) (fz_ 2)) (Int32.toNatClampNeg 3) (fz_ 1)) (Int32.toNatClampNeg 4) (fz_ 3)), hp_498, by rw [ev_496, eg_497]; omega, fun _ => by rw [ev_496, eg_497]; omega, by rw [ht]; exact hP9, va_K.moved hW.alike hK9, hD9⟩, hS.F ht⟩) hS.2.2 dX12_nextOrder_156
                              · exact absurd c_488 (by decide)
                        · refine lv_iinc (v := 3) (lv' := [(2, .int 3), (1, .int 1), (0, .ref mo)]) hx hb dX12_nextOrder_62 hl (k := 0) rfl (by decide) (by decide) rfl (fun ls hl => ?_)
                          refine lv_goto (tgt := 47) hx hb dX12_nextOrder_65 (by decide) ?_
                          refine lv_aload_n hx hb dX12_nextOrder_47 rfl (lv_at hl 2 rfl) ?_
                          refine va_get (D := (dC, dI)) (ci := 12) (v := .ref mz) (C := RX12) (T := TX12) (N := 24) hx hb hts iw_m_nextOrder_X12 hown hK hP 0 rfl rfl 13 (by decide) (hts (.fieldLink RX12 34 "ThriceCountedModel" "order" "[I") (by decide +kernel)) (fun _ h9 => h9) rfl dX12_nextOrder_48 ?_
                          refine lv_iload_n hx hb dX12_nextOrder_51 rfl (lv_at hl 0 rfl) ?_
                          refine va_iald hx hb hK hP 1 0 rfl rfl (show ¬ ((3 : Int32) < 0 ∨ 6 ≤ (3 : Int32).toNatClampNeg) by decide) dX12_nextOrder_52 ?_
                          refine tz_i (fz_ 3) rfl ?_
                          refine lv_aload_n hx hb dX12_nextOrder_53 rfl (lv_at hl 2 rfl) ?_
                          refine va_get (D := (dC, dI)) (ci := 12) (v := .ref mz) (C := RX12) (T := TX12) (N := 24) hx hb hts iw_m_nextOrder_X12 hown hK hP 0 rfl rfl 13 (by decide) (hts (.fieldLink RX12 34 "ThriceCountedModel" "order" "[I") (by decide +kernel)) (fun _ h9 => h9) rfl dX12_nextOrder_54 ?_
                          refine lv_iload_n hx hb dX12_nextOrder_57 rfl (lv_at hl 1 rfl) ?_
                          refine va_iald hx hb hK hP 1 0 rfl rfl (show ¬ ((1 : Int32) < 0 ∨ 6 ≤ (1 : Int32).toNatClampNeg) by decide) dX12_nextOrder_58 ?_
                          refine tz_i (fz_ 1) rfl ?_
                          refine lv_icmp_ge (tgt := 68) hx hb dX12_nextOrder_59 (by decide) (fun c_499 => ?_) (fun c_499 => ?_)
                          · refine lv_aload_n hx hb dX12_nextOrder_68 rfl (lv_at hl 2 rfl) ?_
                            refine va_get (D := (dC, dI)) (ci := 12) (v := .ref mz) (C := RX12) (T := TX12) (N := 24) hx hb hts iw_m_nextOrder_X12 hown hK hP 0 rfl rfl 13 (by decide) (hts (.fieldLink RX12 34 "ThriceCountedModel" "order" "[I") (by decide +kernel)) (fun _ h9 => h9) rfl dX12_nextOrder_69 ?_
                            refine lv_iload_n hx hb dX12_nextOrder_72 rfl (lv_at hl 1 rfl) ?_
                            refine va_iald hx hb hK hP 1 0 rfl rfl (show ¬ ((1 : Int32) < 0 ∨ 6 ≤ (1 : Int32).toNatClampNeg) by decide) dX12_nextOrder_73 ?_
                            refine tz_i (fz_ 1) rfl ?_
                            refine lv_istore_n (lv' := [(3, .int (fz_ 1)), (2, .int 3), (1, .int 1), (0, .ref mo)]) hx hb dX12_nextOrder_74 rfl hl (by decide) rfl (fun ls hl => ?_)
                            refine lv_aload_n hx hb dX12_nextOrder_75 rfl (lv_at hl 3 rfl) ?_
                            refine va_get (D := (dC, dI)) (ci := 12) (v := .ref mz) (C := RX12) (T := TX12) (N := 24) hx hb hts iw_m_nextOrder_X12 hown hK hP 0 rfl rfl 13 (by decide) (hts (.fieldLink RX12 34 "ThriceCountedModel" "order" "[I") (by decide +kernel)) (fun _ h9 => h9) rfl dX12_nextOrder_76 ?_
                            refine lv_iload_n hx hb dX12_nextOrder_79 rfl (lv_at hl 2 rfl) ?_
                            refine lv_aload_n hx hb dX12_nextOrder_80 rfl (lv_at hl 3 rfl) ?_
                            refine va_get (D := (dC, dI)) (ci := 12) (v := .ref mz) (C := RX12) (T := TX12) (N := 24) hx hb hts iw_m_nextOrder_X12 hown hK hP 0 rfl rfl 13 (by decide) (hts (.fieldLink RX12 34 "ThriceCountedModel" "order" "[I") (by decide +kernel)) (fun _ h9 => h9) rfl dX12_nextOrder_81 ?_
                            refine lv_iload_n hx hb dX12_nextOrder_84 rfl (lv_at hl 1 rfl) ?_
                            refine va_iald hx hb hK hP 1 0 rfl rfl (show ¬ ((3 : Int32) < 0 ∨ 6 ≤ (3 : Int32).toNatClampNeg) by decide) dX12_nextOrder_85 ?_
                            refine tz_i (fz_ 3) rfl ?_
                            refine va_iast hx hb hK hP hD hS 1 0 rfl rfl (show ¬ ((1 : Int32) < 0 ∨ 6 ≤ (1 : Int32).toNatClampNeg) by decide) dX12_nextOrder_86 (fun H locs hP hD hS => ?_)
                            have hP : va_P (dC, dI) vwCl [(mo, .inr (12, [.ref nw, .ref kp, .ref ik, .ref mr, .long la_, .long lb_, .ref mw, .long lc_, .int ti_, .int cb_, .long ld_, .long le_, .ref mq, .ref mz, .ref my, .int 6, .ref mb, .int bl_, .int ta_, .int tl_, .int tk_, .int vl_, .ref mx, .ref mv])), (mz, .inl (cz_, 6, .inl (upd fz_ (Int32.toNatClampNeg 1) (fz_ 3))))] H := hP
                            have hD : va_D A [(mo, .inr (12, [.ref nw, .ref kp, .ref ik, .ref mr, .long la_, .long lb_, .ref mw, .long lc_, .int ti_, .int cb_, .long ld_, .long le_, .ref mq, .ref mz, .ref my, .int 6, .ref mb, .int bl_, .int ta_, .int tl_, .int tk_, .int vl_, .ref mx, .ref mv])), (mz, .inl (cz_, 6, .inl (upd fz_ (Int32.toNatClampNeg 1) (fz_ 3))))] := hD
                            refine lv_aload_n hx hb dX12_nextOrder_87 rfl (lv_at hl 3 rfl) ?_
                            refine va_get (D := (dC, dI)) (ci := 12) (v := .ref mz) (C := RX12) (T := TX12) (N := 24) hx hb hts iw_m_nextOrder_X12 hown hK hP 0 rfl rfl 13 (by decide) (hts (.fieldLink RX12 34 "ThriceCountedModel" "order" "[I") (by decide +kernel)) (fun _ h9 => h9) rfl dX12_nextOrder_88 ?_
                            refine lv_iload_n hx hb dX12_nextOrder_91 rfl (lv_at hl 1 rfl) ?_
                            refine lv_iload_n hx hb dX12_nextOrder_92 rfl (lv_at hl 0 rfl) ?_
                            refine va_iast hx hb hK hP hD hS 1 0 rfl rfl (show ¬ ((3 : Int32) < 0 ∨ 6 ≤ (3 : Int32).toNatClampNeg) by decide) dX12_nextOrder_93 (fun H locs hP hD hS => ?_)
                            have hP : va_P (dC, dI) vwCl [(mo, .inr (12, [.ref nw, .ref kp, .ref ik, .ref mr, .long la_, .long lb_, .ref mw, .long lc_, .int ti_, .int cb_, .long ld_, .long le_, .ref mq, .ref mz, .ref my, .int 6, .ref mb, .int bl_, .int ta_, .int tl_, .int tk_, .int vl_, .ref mx, .ref mv])), (mz, .inl (cz_, 6, .inl (upd (upd fz_ (Int32.toNatClampNeg 1) (fz_ 3)) (Int32.toNatClampNeg 3) (fz_ 1))))] H := hP
                            have hD : va_D A [(mo, .inr (12, [.ref nw, .ref kp, .ref ik, .ref mr, .long la_, .long lb_, .ref mw, .long lc_, .int ti_, .int cb_, .long ld_, .long le_, .ref mq, .ref mz, .ref my, .int 6, .ref mb, .int bl_, .int ta_, .int tl_, .int tk_, .int vl_, .ref mx, .ref mv])), (mz, .inl (cz_, 6, .inl (upd (upd fz_ (Int32.toNatClampNeg 1) (fz_ 3)) (Int32.toNatClampNeg 3) (fz_ 1))))] := hD
                            refine lv_iload_n hx hb dX12_nextOrder_94 rfl (lv_at hl 2 rfl) ?_
                            refine lv_iconst (v := 1) hx hb dX12_nextOrder_95 (by decide) ?_
                            refine lv_iadd hx hb dX12_nextOrder_96 ?_
                            refine tz_i 2 (by decide) ?_
                            refine lv_istore (lv' := [(4, .int 2), (3, .int (fz_ 1)), (2, .int 3), (1, .int 1), (0, .ref mo)]) hx hb dX12_nextOrder_97 hl (by decide) rfl (fun ls hl => ?_)
                            refine lv_aload_n hx hb dX12_nextOrder_99 rfl (lv_at hl 4 rfl) ?_
                            refine va_get (D := (dC, dI)) (ci := 12) (v := .int 6) (C := RX12) (T := TX12) (N := 24) hx hb hts iw_m_nextOrder_X12 hown hK hP 0 rfl rfl 15 (by decide) (hts (.fieldLink RX12 218 "ThriceCountedModel" "soughtMany" "I") (by decide +kernel)) (fun _ h9 => h9) rfl dX12_nextOrder_100 ?_
                            refine lv_iconst (v := 1) hx hb dX12_nextOrder_103 (by decide) ?_
                            refine lv_isub hx hb dX12_nextOrder_104 ?_
                            refine tz_i 5 (by decide) ?_
                            refine lv_istore (lv' := [(5, .int 5), (4, .int 2), (3, .int (fz_ 1)), (2, .int 3), (1, .int 1), (0, .ref mo)]) hx hb dX12_nextOrder_105 hl (by decide) rfl (fun ls hl => ?_)
                            refine lv_iload hx hb dX12_nextOrder_107 (lv_at hl 1 rfl) ?_
                            refine lv_iload hx hb dX12_nextOrder_109 (lv_at hl 0 rfl) ?_
                            refine lv_icmp_ge (tgt := 155) hx hb dX12_nextOrder_111 (by decide) (fun c_502 => ?_) (fun c_502 => ?_)
                            · exact absurd c_502 (by decide)
                            · refine lv_aload_n hx hb dX12_nextOrder_114 rfl (lv_at hl 5 rfl) ?_
                              refine va_get (D := (dC, dI)) (ci := 12) (v := .ref mz) (C := RX12) (T := TX12) (N := 24) hx hb hts iw_m_nextOrder_X12 hown hK hP 0 rfl rfl 13 (by decide) (hts (.fieldLink RX12 34 "ThriceCountedModel" "order" "[I") (by decide +kernel)) (fun _ h9 => h9) rfl dX12_nextOrder_115 ?_
                              refine lv_iload hx hb dX12_nextOrder_118 (lv_at hl 1 rfl) ?_
                              refine va_iald hx hb hK hP 1 0 rfl rfl (show ¬ ((2 : Int32) < 0 ∨ 6 ≤ (2 : Int32).toNatClampNeg) by decide) dX12_nextOrder_120 ?_
                              refine tz_i (fz_ 2) rfl ?_
                              refine lv_istore (lv' := [(6, .int (fz_ 2)), (5, .int 5), (4, .int 2), (3, .int (fz_ 1)), (2, .int 3), (1, .int 1), (0, .ref mo)]) hx hb dX12_nextOrder_121 hl (by decide) rfl (fun ls hl => ?_)
                              refine lv_aload_n hx hb dX12_nextOrder_123 rfl (lv_at hl 6 rfl) ?_
                              refine va_get (D := (dC, dI)) (ci := 12) (v := .ref mz) (C := RX12) (T := TX12) (N := 24) hx hb hts iw_m_nextOrder_X12 hown hK hP 0 rfl rfl 13 (by decide) (hts (.fieldLink RX12 34 "ThriceCountedModel" "order" "[I") (by decide +kernel)) (fun _ h9 => h9) rfl dX12_nextOrder_124 ?_
                              refine lv_iload hx hb dX12_nextOrder_127 (lv_at hl 2 rfl) ?_
                              refine lv_aload_n hx hb dX12_nextOrder_129 rfl (lv_at hl 6 rfl) ?_
                              refine va_get (D := (dC, dI)) (ci := 12) (v := .ref mz) (C := RX12) (T := TX12) (N := 24) hx hb hts iw_m_nextOrder_X12 hown hK hP 0 rfl rfl 13 (by decide) (hts (.fieldLink RX12 34 "ThriceCountedModel" "order" "[I") (by decide +kernel)) (fun _ h9 => h9) rfl dX12_nextOrder_130 ?_
                              refine lv_iload hx hb dX12_nextOrder_133 (lv_at hl 1 rfl) ?_
                              refine va_iald hx hb hK hP 1 0 rfl rfl (show ¬ ((5 : Int32) < 0 ∨ 6 ≤ (5 : Int32).toNatClampNeg) by decide) dX12_nextOrder_135 ?_
                              refine tz_i (fz_ 5) rfl ?_
                              refine va_iast hx hb hK hP hD hS 1 0 rfl rfl (show ¬ ((2 : Int32) < 0 ∨ 6 ≤ (2 : Int32).toNatClampNeg) by decide) dX12_nextOrder_136 (fun H locs hP hD hS => ?_)
                              have hP : va_P (dC, dI) vwCl [(mo, .inr (12, [.ref nw, .ref kp, .ref ik, .ref mr, .long la_, .long lb_, .ref mw, .long lc_, .int ti_, .int cb_, .long ld_, .long le_, .ref mq, .ref mz, .ref my, .int 6, .ref mb, .int bl_, .int ta_, .int tl_, .int tk_, .int vl_, .ref mx, .ref mv])), (mz, .inl (cz_, 6, .inl (upd (upd (upd fz_ (Int32.toNatClampNeg 1) (fz_ 3)) (Int32.toNatClampNeg 3) (fz_ 1)) (Int32.toNatClampNeg 2) (fz_ 5))))] H := hP
                              have hD : va_D A [(mo, .inr (12, [.ref nw, .ref kp, .ref ik, .ref mr, .long la_, .long lb_, .ref mw, .long lc_, .int ti_, .int cb_, .long ld_, .long le_, .ref mq, .ref mz, .ref my, .int 6, .ref mb, .int bl_, .int ta_, .int tl_, .int tk_, .int vl_, .ref mx, .ref mv])), (mz, .inl (cz_, 6, .inl (upd (upd (upd fz_ (Int32.toNatClampNeg 1) (fz_ 3)) (Int32.toNatClampNeg 3) (fz_ 1)) (Int32.toNatClampNeg 2) (fz_ 5))))] := hD
                              refine lv_aload_n hx hb dX12_nextOrder_137 rfl (lv_at hl 6 rfl) ?_
                              refine va_get (D := (dC, dI)) (ci := 12) (v := .ref mz) (C := RX12) (T := TX12) (N := 24) hx hb hts iw_m_nextOrder_X12 hown hK hP 0 rfl rfl 13 (by decide) (hts (.fieldLink RX12 34 "ThriceCountedModel" "order" "[I") (by decide +kernel)) (fun _ h9 => h9) rfl dX12_nextOrder_138 ?_
                              refine lv_iload hx hb dX12_nextOrder_141 (lv_at hl 1 rfl) ?_
                              refine lv_iload hx hb dX12_nextOrder_143 (lv_at hl 0 rfl) ?_
                              refine va_iast hx hb hK hP hD hS 1 0 rfl rfl (show ¬ ((5 : Int32) < 0 ∨ 6 ≤ (5 : Int32).toNatClampNeg) by decide) dX12_nextOrder_145 (fun H locs hP hD hS => ?_)
                              have hP : va_P (dC, dI) vwCl [(mo, .inr (12, [.ref nw, .ref kp, .ref ik, .ref mr, .long la_, .long lb_, .ref mw, .long lc_, .int ti_, .int cb_, .long ld_, .long le_, .ref mq, .ref mz, .ref my, .int 6, .ref mb, .int bl_, .int ta_, .int tl_, .int tk_, .int vl_, .ref mx, .ref mv])), (mz, .inl (cz_, 6, .inl (upd (upd (upd (upd fz_ (Int32.toNatClampNeg 1) (fz_ 3)) (Int32.toNatClampNeg 3) (fz_ 1)) (Int32.toNatClampNeg 2) (fz_ 5)) (Int32.toNatClampNeg 5) (fz_ 2))))] H := hP
                              have hD : va_D A [(mo, .inr (12, [.ref nw, .ref kp, .ref ik, .ref mr, .long la_, .long lb_, .ref mw, .long lc_, .int ti_, .int cb_, .long ld_, .long le_, .ref mq, .ref mz, .ref my, .int 6, .ref mb, .int bl_, .int ta_, .int tl_, .int tk_, .int vl_, .ref mx, .ref mv])), (mz, .inl (cz_, 6, .inl (upd (upd (upd (upd fz_ (Int32.toNatClampNeg 1) (fz_ 3)) (Int32.toNatClampNeg 3) (fz_ 1)) (Int32.toNatClampNeg 2) (fz_ 5)) (Int32.toNatClampNeg 5) (fz_ 2))))] := hD
                              refine lv_iinc (v := 3) (lv' := [(4, .int 3), (6, .int (fz_ 2)), (5, .int 5), (3, .int (fz_ 1)), (2, .int 3), (1, .int 1), (0, .ref mo)]) hx hb dX12_nextOrder_146 hl (k := 2) rfl (by decide) (by decide) rfl (fun ls hl => ?_)
                              refine lv_iinc (v := 4) (lv' := [(5, .int 4), (4, .int 3), (6, .int (fz_ 2)), (3, .int (fz_ 1)), (2, .int 3), (1, .int 1), (0, .ref mo)]) hx hb dX12_nextOrder_149 hl (k := 2) rfl (by decide) (by decide) rfl (fun ls hl => ?_)
                              refine lv_goto (tgt := 107) hx hb dX12_nextOrder_152 (by decide) ?_
                              refine lv_iload hx hb dX12_nextOrder_107 (lv_at hl 1 rfl) ?_
                              refine lv_iload hx hb dX12_nextOrder_109 (lv_at hl 0 rfl) ?_
                              refine lv_icmp_ge (tgt := 155) hx hb dX12_nextOrder_111 (by decide) (fun c_505 => ?_) (fun c_505 => ?_)
                              · exact absurd c_505 (by decide)
                              · refine lv_aload_n hx hb dX12_nextOrder_114 rfl (lv_at hl 6 rfl) ?_
                                refine va_get (D := (dC, dI)) (ci := 12) (v := .ref mz) (C := RX12) (T := TX12) (N := 24) hx hb hts iw_m_nextOrder_X12 hown hK hP 0 rfl rfl 13 (by decide) (hts (.fieldLink RX12 34 "ThriceCountedModel" "order" "[I") (by decide +kernel)) (fun _ h9 => h9) rfl dX12_nextOrder_115 ?_
                                refine lv_iload hx hb dX12_nextOrder_118 (lv_at hl 1 rfl) ?_
                                refine va_iald hx hb hK hP 1 0 rfl rfl (show ¬ ((3 : Int32) < 0 ∨ 6 ≤ (3 : Int32).toNatClampNeg) by decide) dX12_nextOrder_120 ?_
                                refine tz_i (fz_ 1) rfl ?_
                                refine lv_istore (lv' := [(6, .int (fz_ 1)), (5, .int 4), (4, .int 3), (3, .int (fz_ 1)), (2, .int 3), (1, .int 1), (0, .ref mo)]) hx hb dX12_nextOrder_121 hl (by decide) rfl (fun ls hl => ?_)
                                refine lv_aload_n hx hb dX12_nextOrder_123 rfl (lv_at hl 6 rfl) ?_
                                refine va_get (D := (dC, dI)) (ci := 12) (v := .ref mz) (C := RX12) (T := TX12) (N := 24) hx hb hts iw_m_nextOrder_X12 hown hK hP 0 rfl rfl 13 (by decide) (hts (.fieldLink RX12 34 "ThriceCountedModel" "order" "[I") (by decide +kernel)) (fun _ h9 => h9) rfl dX12_nextOrder_124 ?_
                                refine lv_iload hx hb dX12_nextOrder_127 (lv_at hl 2 rfl) ?_
                                refine lv_aload_n hx hb dX12_nextOrder_129 rfl (lv_at hl 6 rfl) ?_
                                refine va_get (D := (dC, dI)) (ci := 12) (v := .ref mz) (C := RX12) (T := TX12) (N := 24) hx hb hts iw_m_nextOrder_X12 hown hK hP 0 rfl rfl 13 (by decide) (hts (.fieldLink RX12 34 "ThriceCountedModel" "order" "[I") (by decide +kernel)) (fun _ h9 => h9) rfl dX12_nextOrder_130 ?_
                                refine lv_iload hx hb dX12_nextOrder_133 (lv_at hl 1 rfl) ?_
                                refine va_iald hx hb hK hP 1 0 rfl rfl (show ¬ ((4 : Int32) < 0 ∨ 6 ≤ (4 : Int32).toNatClampNeg) by decide) dX12_nextOrder_135 ?_
                                refine tz_i (fz_ 4) rfl ?_
                                refine va_iast hx hb hK hP hD hS 1 0 rfl rfl (show ¬ ((3 : Int32) < 0 ∨ 6 ≤ (3 : Int32).toNatClampNeg) by decide) dX12_nextOrder_136 (fun H locs hP hD hS => ?_)
                                have hP : va_P (dC, dI) vwCl [(mo, .inr (12, [.ref nw, .ref kp, .ref ik, .ref mr, .long la_, .long lb_, .ref mw, .long lc_, .int ti_, .int cb_, .long ld_, .long le_, .ref mq, .ref mz, .ref my, .int 6, .ref mb, .int bl_, .int ta_, .int tl_, .int tk_, .int vl_, .ref mx, .ref mv])), (mz, .inl (cz_, 6, .inl (upd (upd (upd (upd (upd fz_ (Int32.toNatClampNeg 1) (fz_ 3)) (Int32.toNatClampNeg 3) (fz_ 1)) (Int32.toNatClampNeg 2) (fz_ 5)) (Int32.toNatClampNeg 5) (fz_ 2)) (Int32.toNatClampNeg 3) (fz_ 4))))] H := hP
                                have hD : va_D A [(mo, .inr (12, [.ref nw, .ref kp, .ref ik, .ref mr, .long la_, .long lb_, .ref mw, .long lc_, .int ti_, .int cb_, .long ld_, .long le_, .ref mq, .ref mz, .ref my, .int 6, .ref mb, .int bl_, .int ta_, .int tl_, .int tk_, .int vl_, .ref mx, .ref mv])), (mz, .inl (cz_, 6, .inl (upd (upd (upd (upd (upd fz_ (Int32.toNatClampNeg 1) (fz_ 3)) (Int32.toNatClampNeg 3) (fz_ 1)) (Int32.toNatClampNeg 2) (fz_ 5)) (Int32.toNatClampNeg 5) (fz_ 2)) (Int32.toNatClampNeg 3) (fz_ 4))))] := hD
                                refine lv_aload_n hx hb dX12_nextOrder_137 rfl (lv_at hl 6 rfl) ?_
                                refine va_get (D := (dC, dI)) (ci := 12) (v := .ref mz) (C := RX12) (T := TX12) (N := 24) hx hb hts iw_m_nextOrder_X12 hown hK hP 0 rfl rfl 13 (by decide) (hts (.fieldLink RX12 34 "ThriceCountedModel" "order" "[I") (by decide +kernel)) (fun _ h9 => h9) rfl dX12_nextOrder_138 ?_
                                refine lv_iload hx hb dX12_nextOrder_141 (lv_at hl 1 rfl) ?_
                                refine lv_iload hx hb dX12_nextOrder_143 (lv_at hl 0 rfl) ?_
                                refine va_iast hx hb hK hP hD hS 1 0 rfl rfl (show ¬ ((4 : Int32) < 0 ∨ 6 ≤ (4 : Int32).toNatClampNeg) by decide) dX12_nextOrder_145 (fun H locs hP hD hS => ?_)
                                have hP : va_P (dC, dI) vwCl [(mo, .inr (12, [.ref nw, .ref kp, .ref ik, .ref mr, .long la_, .long lb_, .ref mw, .long lc_, .int ti_, .int cb_, .long ld_, .long le_, .ref mq, .ref mz, .ref my, .int 6, .ref mb, .int bl_, .int ta_, .int tl_, .int tk_, .int vl_, .ref mx, .ref mv])), (mz, .inl (cz_, 6, .inl (upd (upd (upd (upd (upd (upd fz_ (Int32.toNatClampNeg 1) (fz_ 3)) (Int32.toNatClampNeg 3) (fz_ 1)) (Int32.toNatClampNeg 2) (fz_ 5)) (Int32.toNatClampNeg 5) (fz_ 2)) (Int32.toNatClampNeg 3) (fz_ 4)) (Int32.toNatClampNeg 4) (fz_ 1))))] H := hP
                                have hD : va_D A [(mo, .inr (12, [.ref nw, .ref kp, .ref ik, .ref mr, .long la_, .long lb_, .ref mw, .long lc_, .int ti_, .int cb_, .long ld_, .long le_, .ref mq, .ref mz, .ref my, .int 6, .ref mb, .int bl_, .int ta_, .int tl_, .int tk_, .int vl_, .ref mx, .ref mv])), (mz, .inl (cz_, 6, .inl (upd (upd (upd (upd (upd (upd fz_ (Int32.toNatClampNeg 1) (fz_ 3)) (Int32.toNatClampNeg 3) (fz_ 1)) (Int32.toNatClampNeg 2) (fz_ 5)) (Int32.toNatClampNeg 5) (fz_ 2)) (Int32.toNatClampNeg 3) (fz_ 4)) (Int32.toNatClampNeg 4) (fz_ 1))))] := hD
                                refine lv_iinc (v := 4) (lv' := [(4, .int 4), (6, .int (fz_ 1)), (5, .int 4), (3, .int (fz_ 1)), (2, .int 3), (1, .int 1), (0, .ref mo)]) hx hb dX12_nextOrder_146 hl (k := 2) rfl (by decide) (by decide) rfl (fun ls hl => ?_)
                                refine lv_iinc (v := 3) (lv' := [(5, .int 3), (4, .int 4), (6, .int (fz_ 1)), (3, .int (fz_ 1)), (2, .int 3), (1, .int 1), (0, .ref mo)]) hx hb dX12_nextOrder_149 hl (k := 2) rfl (by decide) (by decide) rfl (fun ls hl => ?_)
                                refine lv_goto (tgt := 107) hx hb dX12_nextOrder_152 (by decide) ?_
                                refine lv_iload hx hb dX12_nextOrder_107 (lv_at hl 1 rfl) ?_
                                refine lv_iload hx hb dX12_nextOrder_109 (lv_at hl 0 rfl) ?_
                                refine lv_icmp_ge (tgt := 155) hx hb dX12_nextOrder_111 (by decide) (fun c_508 => ?_) (fun c_508 => ?_)
                                · refine lv_iconst (v := 1) hx hb dX12_nextOrder_155 (by decide) ?_
                                  have hP9 := hP.sub (ws' := [(mo, .inr (12, [.ref nw, .ref kp, .ref ik, .ref mr, .long la_, .long lb_, .ref mw, .long lc_, .int ti_, .int cb_, .long ld_, .long le_, .ref mq, .ref mz, .ref my, .int (nI 6), .ref mb, .int bl_, .int ta_, .int tl_, .int tk_, .int vl_, .ref mx, .ref mv])), (mz, .inl (cz_, 6, .inl (upd (upd (upd (upd (upd (upd fz_ (Int32.toNatClampNeg 1) (fz_ 3)) (Int32.toNatClampNeg 3) (fz_ 1)) (Int32.toNatClampNeg 2) (fz_ 5)) (Int32.toNatClampNeg 5) (fz_ 2)) (Int32.toNatClampNeg 3) (fz_ 4)) (Int32.toNatClampNeg 4) (fz_ 1))))]) [0, 1] rfl
                                  have hD9 := hD.sub (ws' := [(mo, .inr (12, [.ref nw, .ref kp, .ref ik, .ref mr, .long la_, .long lb_, .ref mw, .long lc_, .int ti_, .int cb_, .long ld_, .long le_, .ref mq, .ref mz, .ref my, .int (nI 6), .ref mb, .int bl_, .int ta_, .int tl_, .int tk_, .int vl_, .ref mx, .ref mv])), (mz, .inl (cz_, 6, .inl (upd (upd (upd (upd (upd (upd fz_ (Int32.toNatClampNeg 1) (fz_ 3)) (Int32.toNatClampNeg 3) (fz_ 1)) (Int32.toNatClampNeg 2) (fz_ 5)) (Int32.toNatClampNeg 5) (fz_ 2)) (Int32.toNatClampNeg 3) (fz_ 4)) (Int32.toNatClampNeg 4) (fz_ 1))))]) [0, 1] (by decide) rfl
                                  have hK9 := hK.sub (tys' := [(cz_, .int)]) [0] rfl
                                  have hlt_509 : (fz_ 1).toInt < (fz_ 3).toInt := tz_ltt2 c_499 (hdi.2 1 3 (by omega) (by omega))
                                  have hb_510 := hdi.1 0 (by omega)
                                  have hb_511 := hdi.1 1 (by omega)
                                  have hb_512 := hdi.1 2 (by omega)
                                  have hb_513 := hdi.1 3 (by omega)
                                  have hb_514 := hdi.1 4 (by omega)
                                  have hb_515 := hdi.1 5 (by omega)
                                  have ev_516 : tz_val 6 fz_ = 7776 * (fz_ 0).toInt + 1296 * (fz_ 1).toInt + 216 * (fz_ 2).toInt + 36 * (fz_ 3).toInt + 6 * (fz_ 4).toInt + (fz_ 5).toInt := rfl
                                  have eg_517 : tz_val 6 (upd (upd (upd (upd (upd (upd fz_ (Int32.toNatClampNeg 1) (fz_ 3)) (Int32.toNatClampNeg 3) (fz_ 1)) (Int32.toNatClampNeg 2) (fz_ 5)) (Int32.toNatClampNeg 5) (fz_ 2)) (Int32.toNatClampNeg 3) (fz_ 4)) (Int32.toNatClampNeg 4) (fz_ 1)) = 7776 * (fz_ 0).toInt + 1296 * (fz_ 3).toInt + 216 * (fz_ 5).toInt + 36 * (fz_ 4).toInt + 6 * (fz_ 1).toInt + (fz_ 2).toInt := rfl
                                  have hp_518 : tz_Di 6 (upd (upd (upd (upd (upd (upd fz_ (Int32.toNatClampNeg 1) (fz_ 3)) (Int32.toNatClampNeg 3) (fz_ 1)) (Int32.toNatClampNeg 2) (fz_ 5)) (Int32.toNatClampNeg 5) (fz_ 2)) (Int32.toNatClampNeg 3) (fz_ 4)) (Int32.toNatClampNeg 4) (fz_ 1)) := hdi.perm (fun a => ([0, 3, 5, 4, 1, 2] : List Nat).getD a 0) (fun a ha => by
                                    rcases (show a = 0 ∨ a = 1 ∨ a = 2 ∨ a = 3 ∨ a = 4 ∨ a = 5 by omega) with rfl | rfl | rfl | rfl | rfl | rfl <;> exact ⟨by decide, rfl⟩) (by decide)
                                  exact W.zret (v := 1) hx hb hr (by decide) (fun t ht hW => ⟨⟨1, (), rfl, Or.inr ⟨rfl, 1, by omega, tz_nle_of c_457⟩, (upd (upd (upd (upd (upd (upd fz_ (Int32.toNatClampNeg 1) (fz_ 3)) (Int32.toNatClampNeg 3) (fz_ 1)) (Int32.toNatClampNeg 2) (fz_ 5)) (Int32.toNatClampNeg 5) (fz_ 2)) (Int32.toNatClampNeg 3) (fz_ 4)) (Int32.toNatClampNeg 4) (fz_ 1)), hp_518, by rw [ev_516, eg_517]; omega, fun _ => by rw [ev_516, eg_517]; omega, by rw [ht]; exact hP9, va_K.moved hW.alike hK9, hD9⟩, hS.F ht⟩) hS.2.2 dX12_nextOrder_156
                                · exact absurd c_508 (by decide)
                          · refine lv_iinc (v := 2) (lv' := [(2, .int 2), (1, .int 1), (0, .ref mo)]) hx hb dX12_nextOrder_62 hl (k := 0) rfl (by decide) (by decide) rfl (fun ls hl => ?_)
                            refine lv_goto (tgt := 47) hx hb dX12_nextOrder_65 (by decide) ?_
                            refine lv_aload_n hx hb dX12_nextOrder_47 rfl (lv_at hl 2 rfl) ?_
                            refine va_get (D := (dC, dI)) (ci := 12) (v := .ref mz) (C := RX12) (T := TX12) (N := 24) hx hb hts iw_m_nextOrder_X12 hown hK hP 0 rfl rfl 13 (by decide) (hts (.fieldLink RX12 34 "ThriceCountedModel" "order" "[I") (by decide +kernel)) (fun _ h9 => h9) rfl dX12_nextOrder_48 ?_
                            refine lv_iload_n hx hb dX12_nextOrder_51 rfl (lv_at hl 0 rfl) ?_
                            refine va_iald hx hb hK hP 1 0 rfl rfl (show ¬ ((2 : Int32) < 0 ∨ 6 ≤ (2 : Int32).toNatClampNeg) by decide) dX12_nextOrder_52 ?_
                            refine tz_i (fz_ 2) rfl ?_
                            refine lv_aload_n hx hb dX12_nextOrder_53 rfl (lv_at hl 2 rfl) ?_
                            refine va_get (D := (dC, dI)) (ci := 12) (v := .ref mz) (C := RX12) (T := TX12) (N := 24) hx hb hts iw_m_nextOrder_X12 hown hK hP 0 rfl rfl 13 (by decide) (hts (.fieldLink RX12 34 "ThriceCountedModel" "order" "[I") (by decide +kernel)) (fun _ h9 => h9) rfl dX12_nextOrder_54 ?_
                            refine lv_iload_n hx hb dX12_nextOrder_57 rfl (lv_at hl 1 rfl) ?_
                            refine va_iald hx hb hK hP 1 0 rfl rfl (show ¬ ((1 : Int32) < 0 ∨ 6 ≤ (1 : Int32).toNatClampNeg) by decide) dX12_nextOrder_58 ?_
                            refine tz_i (fz_ 1) rfl ?_
                            refine lv_icmp_ge (tgt := 68) hx hb dX12_nextOrder_59 (by decide) (fun c_519 => ?_) (fun c_519 => ?_)
                            · refine lv_aload_n hx hb dX12_nextOrder_68 rfl (lv_at hl 2 rfl) ?_
                              refine va_get (D := (dC, dI)) (ci := 12) (v := .ref mz) (C := RX12) (T := TX12) (N := 24) hx hb hts iw_m_nextOrder_X12 hown hK hP 0 rfl rfl 13 (by decide) (hts (.fieldLink RX12 34 "ThriceCountedModel" "order" "[I") (by decide +kernel)) (fun _ h9 => h9) rfl dX12_nextOrder_69 ?_
                              refine lv_iload_n hx hb dX12_nextOrder_72 rfl (lv_at hl 1 rfl) ?_
                              refine va_iald hx hb hK hP 1 0 rfl rfl (show ¬ ((1 : Int32) < 0 ∨ 6 ≤ (1 : Int32).toNatClampNeg) by decide) dX12_nextOrder_73 ?_
                              refine tz_i (fz_ 1) rfl ?_
                              refine lv_istore_n (lv' := [(3, .int (fz_ 1)), (2, .int 2), (1, .int 1), (0, .ref mo)]) hx hb dX12_nextOrder_74 rfl hl (by decide) rfl (fun ls hl => ?_)
                              refine lv_aload_n hx hb dX12_nextOrder_75 rfl (lv_at hl 3 rfl) ?_
                              refine va_get (D := (dC, dI)) (ci := 12) (v := .ref mz) (C := RX12) (T := TX12) (N := 24) hx hb hts iw_m_nextOrder_X12 hown hK hP 0 rfl rfl 13 (by decide) (hts (.fieldLink RX12 34 "ThriceCountedModel" "order" "[I") (by decide +kernel)) (fun _ h9 => h9) rfl dX12_nextOrder_76 ?_
                              refine lv_iload_n hx hb dX12_nextOrder_79 rfl (lv_at hl 2 rfl) ?_
                              refine lv_aload_n hx hb dX12_nextOrder_80 rfl (lv_at hl 3 rfl) ?_
                              refine va_get (D := (dC, dI)) (ci := 12) (v := .ref mz) (C := RX12) (T := TX12) (N := 24) hx hb hts iw_m_nextOrder_X12 hown hK hP 0 rfl rfl 13 (by decide) (hts (.fieldLink RX12 34 "ThriceCountedModel" "order" "[I") (by decide +kernel)) (fun _ h9 => h9) rfl dX12_nextOrder_81 ?_
                              refine lv_iload_n hx hb dX12_nextOrder_84 rfl (lv_at hl 1 rfl) ?_
                              refine va_iald hx hb hK hP 1 0 rfl rfl (show ¬ ((2 : Int32) < 0 ∨ 6 ≤ (2 : Int32).toNatClampNeg) by decide) dX12_nextOrder_85 ?_
                              refine tz_i (fz_ 2) rfl ?_
                              refine va_iast hx hb hK hP hD hS 1 0 rfl rfl (show ¬ ((1 : Int32) < 0 ∨ 6 ≤ (1 : Int32).toNatClampNeg) by decide) dX12_nextOrder_86 (fun H locs hP hD hS => ?_)
                              have hP : va_P (dC, dI) vwCl [(mo, .inr (12, [.ref nw, .ref kp, .ref ik, .ref mr, .long la_, .long lb_, .ref mw, .long lc_, .int ti_, .int cb_, .long ld_, .long le_, .ref mq, .ref mz, .ref my, .int 6, .ref mb, .int bl_, .int ta_, .int tl_, .int tk_, .int vl_, .ref mx, .ref mv])), (mz, .inl (cz_, 6, .inl (upd fz_ (Int32.toNatClampNeg 1) (fz_ 2))))] H := hP
                              have hD : va_D A [(mo, .inr (12, [.ref nw, .ref kp, .ref ik, .ref mr, .long la_, .long lb_, .ref mw, .long lc_, .int ti_, .int cb_, .long ld_, .long le_, .ref mq, .ref mz, .ref my, .int 6, .ref mb, .int bl_, .int ta_, .int tl_, .int tk_, .int vl_, .ref mx, .ref mv])), (mz, .inl (cz_, 6, .inl (upd fz_ (Int32.toNatClampNeg 1) (fz_ 2))))] := hD
                              refine lv_aload_n hx hb dX12_nextOrder_87 rfl (lv_at hl 3 rfl) ?_
                              refine va_get (D := (dC, dI)) (ci := 12) (v := .ref mz) (C := RX12) (T := TX12) (N := 24) hx hb hts iw_m_nextOrder_X12 hown hK hP 0 rfl rfl 13 (by decide) (hts (.fieldLink RX12 34 "ThriceCountedModel" "order" "[I") (by decide +kernel)) (fun _ h9 => h9) rfl dX12_nextOrder_88 ?_
                              refine lv_iload_n hx hb dX12_nextOrder_91 rfl (lv_at hl 1 rfl) ?_
                              refine lv_iload_n hx hb dX12_nextOrder_92 rfl (lv_at hl 0 rfl) ?_
                              refine va_iast hx hb hK hP hD hS 1 0 rfl rfl (show ¬ ((2 : Int32) < 0 ∨ 6 ≤ (2 : Int32).toNatClampNeg) by decide) dX12_nextOrder_93 (fun H locs hP hD hS => ?_)
                              have hP : va_P (dC, dI) vwCl [(mo, .inr (12, [.ref nw, .ref kp, .ref ik, .ref mr, .long la_, .long lb_, .ref mw, .long lc_, .int ti_, .int cb_, .long ld_, .long le_, .ref mq, .ref mz, .ref my, .int 6, .ref mb, .int bl_, .int ta_, .int tl_, .int tk_, .int vl_, .ref mx, .ref mv])), (mz, .inl (cz_, 6, .inl (upd (upd fz_ (Int32.toNatClampNeg 1) (fz_ 2)) (Int32.toNatClampNeg 2) (fz_ 1))))] H := hP
                              have hD : va_D A [(mo, .inr (12, [.ref nw, .ref kp, .ref ik, .ref mr, .long la_, .long lb_, .ref mw, .long lc_, .int ti_, .int cb_, .long ld_, .long le_, .ref mq, .ref mz, .ref my, .int 6, .ref mb, .int bl_, .int ta_, .int tl_, .int tk_, .int vl_, .ref mx, .ref mv])), (mz, .inl (cz_, 6, .inl (upd (upd fz_ (Int32.toNatClampNeg 1) (fz_ 2)) (Int32.toNatClampNeg 2) (fz_ 1))))] := hD
                              refine lv_iload_n hx hb dX12_nextOrder_94 rfl (lv_at hl 2 rfl) ?_
                              refine lv_iconst (v := 1) hx hb dX12_nextOrder_95 (by decide) ?_
                              refine lv_iadd hx hb dX12_nextOrder_96 ?_
                              refine tz_i 2 (by decide) ?_
                              refine lv_istore (lv' := [(4, .int 2), (3, .int (fz_ 1)), (2, .int 2), (1, .int 1), (0, .ref mo)]) hx hb dX12_nextOrder_97 hl (by decide) rfl (fun ls hl => ?_)
                              refine lv_aload_n hx hb dX12_nextOrder_99 rfl (lv_at hl 4 rfl) ?_
                              refine va_get (D := (dC, dI)) (ci := 12) (v := .int 6) (C := RX12) (T := TX12) (N := 24) hx hb hts iw_m_nextOrder_X12 hown hK hP 0 rfl rfl 15 (by decide) (hts (.fieldLink RX12 218 "ThriceCountedModel" "soughtMany" "I") (by decide +kernel)) (fun _ h9 => h9) rfl dX12_nextOrder_100 ?_
                              refine lv_iconst (v := 1) hx hb dX12_nextOrder_103 (by decide) ?_
                              refine lv_isub hx hb dX12_nextOrder_104 ?_
                              refine tz_i 5 (by decide) ?_
                              refine lv_istore (lv' := [(5, .int 5), (4, .int 2), (3, .int (fz_ 1)), (2, .int 2), (1, .int 1), (0, .ref mo)]) hx hb dX12_nextOrder_105 hl (by decide) rfl (fun ls hl => ?_)
                              refine lv_iload hx hb dX12_nextOrder_107 (lv_at hl 1 rfl) ?_
                              refine lv_iload hx hb dX12_nextOrder_109 (lv_at hl 0 rfl) ?_
                              refine lv_icmp_ge (tgt := 155) hx hb dX12_nextOrder_111 (by decide) (fun c_522 => ?_) (fun c_522 => ?_)
                              · exact absurd c_522 (by decide)
                              · refine lv_aload_n hx hb dX12_nextOrder_114 rfl (lv_at hl 5 rfl) ?_
                                refine va_get (D := (dC, dI)) (ci := 12) (v := .ref mz) (C := RX12) (T := TX12) (N := 24) hx hb hts iw_m_nextOrder_X12 hown hK hP 0 rfl rfl 13 (by decide) (hts (.fieldLink RX12 34 "ThriceCountedModel" "order" "[I") (by decide +kernel)) (fun _ h9 => h9) rfl dX12_nextOrder_115 ?_
                                refine lv_iload hx hb dX12_nextOrder_118 (lv_at hl 1 rfl) ?_
                                refine va_iald hx hb hK hP 1 0 rfl rfl (show ¬ ((2 : Int32) < 0 ∨ 6 ≤ (2 : Int32).toNatClampNeg) by decide) dX12_nextOrder_120 ?_
                                refine tz_i (fz_ 1) rfl ?_
                                refine lv_istore (lv' := [(6, .int (fz_ 1)), (5, .int 5), (4, .int 2), (3, .int (fz_ 1)), (2, .int 2), (1, .int 1), (0, .ref mo)]) hx hb dX12_nextOrder_121 hl (by decide) rfl (fun ls hl => ?_)
                                refine lv_aload_n hx hb dX12_nextOrder_123 rfl (lv_at hl 6 rfl) ?_
                                refine va_get (D := (dC, dI)) (ci := 12) (v := .ref mz) (C := RX12) (T := TX12) (N := 24) hx hb hts iw_m_nextOrder_X12 hown hK hP 0 rfl rfl 13 (by decide) (hts (.fieldLink RX12 34 "ThriceCountedModel" "order" "[I") (by decide +kernel)) (fun _ h9 => h9) rfl dX12_nextOrder_124 ?_
                                refine lv_iload hx hb dX12_nextOrder_127 (lv_at hl 2 rfl) ?_
                                refine lv_aload_n hx hb dX12_nextOrder_129 rfl (lv_at hl 6 rfl) ?_
                                refine va_get (D := (dC, dI)) (ci := 12) (v := .ref mz) (C := RX12) (T := TX12) (N := 24) hx hb hts iw_m_nextOrder_X12 hown hK hP 0 rfl rfl 13 (by decide) (hts (.fieldLink RX12 34 "ThriceCountedModel" "order" "[I") (by decide +kernel)) (fun _ h9 => h9) rfl dX12_nextOrder_130 ?_
                                refine lv_iload hx hb dX12_nextOrder_133 (lv_at hl 1 rfl) ?_
                                refine va_iald hx hb hK hP 1 0 rfl rfl (show ¬ ((5 : Int32) < 0 ∨ 6 ≤ (5 : Int32).toNatClampNeg) by decide) dX12_nextOrder_135 ?_
                                refine tz_i (fz_ 5) rfl ?_
                                refine va_iast hx hb hK hP hD hS 1 0 rfl rfl (show ¬ ((2 : Int32) < 0 ∨ 6 ≤ (2 : Int32).toNatClampNeg) by decide) dX12_nextOrder_136 (fun H locs hP hD hS => ?_)
                                have hP : va_P (dC, dI) vwCl [(mo, .inr (12, [.ref nw, .ref kp, .ref ik, .ref mr, .long la_, .long lb_, .ref mw, .long lc_, .int ti_, .int cb_, .long ld_, .long le_, .ref mq, .ref mz, .ref my, .int 6, .ref mb, .int bl_, .int ta_, .int tl_, .int tk_, .int vl_, .ref mx, .ref mv])), (mz, .inl (cz_, 6, .inl (upd (upd (upd fz_ (Int32.toNatClampNeg 1) (fz_ 2)) (Int32.toNatClampNeg 2) (fz_ 1)) (Int32.toNatClampNeg 2) (fz_ 5))))] H := hP
                                have hD : va_D A [(mo, .inr (12, [.ref nw, .ref kp, .ref ik, .ref mr, .long la_, .long lb_, .ref mw, .long lc_, .int ti_, .int cb_, .long ld_, .long le_, .ref mq, .ref mz, .ref my, .int 6, .ref mb, .int bl_, .int ta_, .int tl_, .int tk_, .int vl_, .ref mx, .ref mv])), (mz, .inl (cz_, 6, .inl (upd (upd (upd fz_ (Int32.toNatClampNeg 1) (fz_ 2)) (Int32.toNatClampNeg 2) (fz_ 1)) (Int32.toNatClampNeg 2) (fz_ 5))))] := hD
                                refine lv_aload_n hx hb dX12_nextOrder_137 rfl (lv_at hl 6 rfl) ?_
                                refine va_get (D := (dC, dI)) (ci := 12) (v := .ref mz) (C := RX12) (T := TX12) (N := 24) hx hb hts iw_m_nextOrder_X12 hown hK hP 0 rfl rfl 13 (by decide) (hts (.fieldLink RX12 34 "ThriceCountedModel" "order" "[I") (by decide +kernel)) (fun _ h9 => h9) rfl dX12_nextOrder_138 ?_
                                refine lv_iload hx hb dX12_nextOrder_141 (lv_at hl 1 rfl) ?_
                                refine lv_iload hx hb dX12_nextOrder_143 (lv_at hl 0 rfl) ?_
                                refine va_iast hx hb hK hP hD hS 1 0 rfl rfl (show ¬ ((5 : Int32) < 0 ∨ 6 ≤ (5 : Int32).toNatClampNeg) by decide) dX12_nextOrder_145 (fun H locs hP hD hS => ?_)
                                have hP : va_P (dC, dI) vwCl [(mo, .inr (12, [.ref nw, .ref kp, .ref ik, .ref mr, .long la_, .long lb_, .ref mw, .long lc_, .int ti_, .int cb_, .long ld_, .long le_, .ref mq, .ref mz, .ref my, .int 6, .ref mb, .int bl_, .int ta_, .int tl_, .int tk_, .int vl_, .ref mx, .ref mv])), (mz, .inl (cz_, 6, .inl (upd (upd (upd (upd fz_ (Int32.toNatClampNeg 1) (fz_ 2)) (Int32.toNatClampNeg 2) (fz_ 1)) (Int32.toNatClampNeg 2) (fz_ 5)) (Int32.toNatClampNeg 5) (fz_ 1))))] H := hP
                                have hD : va_D A [(mo, .inr (12, [.ref nw, .ref kp, .ref ik, .ref mr, .long la_, .long lb_, .ref mw, .long lc_, .int ti_, .int cb_, .long ld_, .long le_, .ref mq, .ref mz, .ref my, .int 6, .ref mb, .int bl_, .int ta_, .int tl_, .int tk_, .int vl_, .ref mx, .ref mv])), (mz, .inl (cz_, 6, .inl (upd (upd (upd (upd fz_ (Int32.toNatClampNeg 1) (fz_ 2)) (Int32.toNatClampNeg 2) (fz_ 1)) (Int32.toNatClampNeg 2) (fz_ 5)) (Int32.toNatClampNeg 5) (fz_ 1))))] := hD
                                refine lv_iinc (v := 3) (lv' := [(4, .int 3), (6, .int (fz_ 1)), (5, .int 5), (3, .int (fz_ 1)), (2, .int 2), (1, .int 1), (0, .ref mo)]) hx hb dX12_nextOrder_146 hl (k := 2) rfl (by decide) (by decide) rfl (fun ls hl => ?_)
                                refine lv_iinc (v := 4) (lv' := [(5, .int 4), (4, .int 3), (6, .int (fz_ 1)), (3, .int (fz_ 1)), (2, .int 2), (1, .int 1), (0, .ref mo)]) hx hb dX12_nextOrder_149 hl (k := 2) rfl (by decide) (by decide) rfl (fun ls hl => ?_)
                                refine lv_goto (tgt := 107) hx hb dX12_nextOrder_152 (by decide) ?_
                                refine lv_iload hx hb dX12_nextOrder_107 (lv_at hl 1 rfl) ?_
                                refine lv_iload hx hb dX12_nextOrder_109 (lv_at hl 0 rfl) ?_
                                refine lv_icmp_ge (tgt := 155) hx hb dX12_nextOrder_111 (by decide) (fun c_525 => ?_) (fun c_525 => ?_)
                                · exact absurd c_525 (by decide)
                                · refine lv_aload_n hx hb dX12_nextOrder_114 rfl (lv_at hl 6 rfl) ?_
                                  refine va_get (D := (dC, dI)) (ci := 12) (v := .ref mz) (C := RX12) (T := TX12) (N := 24) hx hb hts iw_m_nextOrder_X12 hown hK hP 0 rfl rfl 13 (by decide) (hts (.fieldLink RX12 34 "ThriceCountedModel" "order" "[I") (by decide +kernel)) (fun _ h9 => h9) rfl dX12_nextOrder_115 ?_
                                  refine lv_iload hx hb dX12_nextOrder_118 (lv_at hl 1 rfl) ?_
                                  refine va_iald hx hb hK hP 1 0 rfl rfl (show ¬ ((3 : Int32) < 0 ∨ 6 ≤ (3 : Int32).toNatClampNeg) by decide) dX12_nextOrder_120 ?_
                                  refine tz_i (fz_ 3) rfl ?_
                                  refine lv_istore (lv' := [(6, .int (fz_ 3)), (5, .int 4), (4, .int 3), (3, .int (fz_ 1)), (2, .int 2), (1, .int 1), (0, .ref mo)]) hx hb dX12_nextOrder_121 hl (by decide) rfl (fun ls hl => ?_)
                                  refine lv_aload_n hx hb dX12_nextOrder_123 rfl (lv_at hl 6 rfl) ?_
                                  refine va_get (D := (dC, dI)) (ci := 12) (v := .ref mz) (C := RX12) (T := TX12) (N := 24) hx hb hts iw_m_nextOrder_X12 hown hK hP 0 rfl rfl 13 (by decide) (hts (.fieldLink RX12 34 "ThriceCountedModel" "order" "[I") (by decide +kernel)) (fun _ h9 => h9) rfl dX12_nextOrder_124 ?_
                                  refine lv_iload hx hb dX12_nextOrder_127 (lv_at hl 2 rfl) ?_
                                  refine lv_aload_n hx hb dX12_nextOrder_129 rfl (lv_at hl 6 rfl) ?_
                                  refine va_get (D := (dC, dI)) (ci := 12) (v := .ref mz) (C := RX12) (T := TX12) (N := 24) hx hb hts iw_m_nextOrder_X12 hown hK hP 0 rfl rfl 13 (by decide) (hts (.fieldLink RX12 34 "ThriceCountedModel" "order" "[I") (by decide +kernel)) (fun _ h9 => h9) rfl dX12_nextOrder_130 ?_
                                  refine lv_iload hx hb dX12_nextOrder_133 (lv_at hl 1 rfl) ?_
                                  refine va_iald hx hb hK hP 1 0 rfl rfl (show ¬ ((4 : Int32) < 0 ∨ 6 ≤ (4 : Int32).toNatClampNeg) by decide) dX12_nextOrder_135 ?_
                                  refine tz_i (fz_ 4) rfl ?_
                                  refine va_iast hx hb hK hP hD hS 1 0 rfl rfl (show ¬ ((3 : Int32) < 0 ∨ 6 ≤ (3 : Int32).toNatClampNeg) by decide) dX12_nextOrder_136 (fun H locs hP hD hS => ?_)
                                  have hP : va_P (dC, dI) vwCl [(mo, .inr (12, [.ref nw, .ref kp, .ref ik, .ref mr, .long la_, .long lb_, .ref mw, .long lc_, .int ti_, .int cb_, .long ld_, .long le_, .ref mq, .ref mz, .ref my, .int 6, .ref mb, .int bl_, .int ta_, .int tl_, .int tk_, .int vl_, .ref mx, .ref mv])), (mz, .inl (cz_, 6, .inl (upd (upd (upd (upd (upd fz_ (Int32.toNatClampNeg 1) (fz_ 2)) (Int32.toNatClampNeg 2) (fz_ 1)) (Int32.toNatClampNeg 2) (fz_ 5)) (Int32.toNatClampNeg 5) (fz_ 1)) (Int32.toNatClampNeg 3) (fz_ 4))))] H := hP
                                  have hD : va_D A [(mo, .inr (12, [.ref nw, .ref kp, .ref ik, .ref mr, .long la_, .long lb_, .ref mw, .long lc_, .int ti_, .int cb_, .long ld_, .long le_, .ref mq, .ref mz, .ref my, .int 6, .ref mb, .int bl_, .int ta_, .int tl_, .int tk_, .int vl_, .ref mx, .ref mv])), (mz, .inl (cz_, 6, .inl (upd (upd (upd (upd (upd fz_ (Int32.toNatClampNeg 1) (fz_ 2)) (Int32.toNatClampNeg 2) (fz_ 1)) (Int32.toNatClampNeg 2) (fz_ 5)) (Int32.toNatClampNeg 5) (fz_ 1)) (Int32.toNatClampNeg 3) (fz_ 4))))] := hD
                                  refine lv_aload_n hx hb dX12_nextOrder_137 rfl (lv_at hl 6 rfl) ?_
                                  refine va_get (D := (dC, dI)) (ci := 12) (v := .ref mz) (C := RX12) (T := TX12) (N := 24) hx hb hts iw_m_nextOrder_X12 hown hK hP 0 rfl rfl 13 (by decide) (hts (.fieldLink RX12 34 "ThriceCountedModel" "order" "[I") (by decide +kernel)) (fun _ h9 => h9) rfl dX12_nextOrder_138 ?_
                                  refine lv_iload hx hb dX12_nextOrder_141 (lv_at hl 1 rfl) ?_
                                  refine lv_iload hx hb dX12_nextOrder_143 (lv_at hl 0 rfl) ?_
                                  refine va_iast hx hb hK hP hD hS 1 0 rfl rfl (show ¬ ((4 : Int32) < 0 ∨ 6 ≤ (4 : Int32).toNatClampNeg) by decide) dX12_nextOrder_145 (fun H locs hP hD hS => ?_)
                                  have hP : va_P (dC, dI) vwCl [(mo, .inr (12, [.ref nw, .ref kp, .ref ik, .ref mr, .long la_, .long lb_, .ref mw, .long lc_, .int ti_, .int cb_, .long ld_, .long le_, .ref mq, .ref mz, .ref my, .int 6, .ref mb, .int bl_, .int ta_, .int tl_, .int tk_, .int vl_, .ref mx, .ref mv])), (mz, .inl (cz_, 6, .inl (upd (upd (upd (upd (upd (upd fz_ (Int32.toNatClampNeg 1) (fz_ 2)) (Int32.toNatClampNeg 2) (fz_ 1)) (Int32.toNatClampNeg 2) (fz_ 5)) (Int32.toNatClampNeg 5) (fz_ 1)) (Int32.toNatClampNeg 3) (fz_ 4)) (Int32.toNatClampNeg 4) (fz_ 3))))] H := hP
                                  have hD : va_D A [(mo, .inr (12, [.ref nw, .ref kp, .ref ik, .ref mr, .long la_, .long lb_, .ref mw, .long lc_, .int ti_, .int cb_, .long ld_, .long le_, .ref mq, .ref mz, .ref my, .int 6, .ref mb, .int bl_, .int ta_, .int tl_, .int tk_, .int vl_, .ref mx, .ref mv])), (mz, .inl (cz_, 6, .inl (upd (upd (upd (upd (upd (upd fz_ (Int32.toNatClampNeg 1) (fz_ 2)) (Int32.toNatClampNeg 2) (fz_ 1)) (Int32.toNatClampNeg 2) (fz_ 5)) (Int32.toNatClampNeg 5) (fz_ 1)) (Int32.toNatClampNeg 3) (fz_ 4)) (Int32.toNatClampNeg 4) (fz_ 3))))] := hD
                                  refine lv_iinc (v := 4) (lv' := [(4, .int 4), (6, .int (fz_ 3)), (5, .int 4), (3, .int (fz_ 1)), (2, .int 2), (1, .int 1), (0, .ref mo)]) hx hb dX12_nextOrder_146 hl (k := 2) rfl (by decide) (by decide) rfl (fun ls hl => ?_)
                                  refine lv_iinc (v := 3) (lv' := [(5, .int 3), (4, .int 4), (6, .int (fz_ 3)), (3, .int (fz_ 1)), (2, .int 2), (1, .int 1), (0, .ref mo)]) hx hb dX12_nextOrder_149 hl (k := 2) rfl (by decide) (by decide) rfl (fun ls hl => ?_)
                                  refine lv_goto (tgt := 107) hx hb dX12_nextOrder_152 (by decide) ?_
                                  refine lv_iload hx hb dX12_nextOrder_107 (lv_at hl 1 rfl) ?_
                                  refine lv_iload hx hb dX12_nextOrder_109 (lv_at hl 0 rfl) ?_
                                  refine lv_icmp_ge (tgt := 155) hx hb dX12_nextOrder_111 (by decide) (fun c_528 => ?_) (fun c_528 => ?_)
                                  · refine lv_iconst (v := 1) hx hb dX12_nextOrder_155 (by decide) ?_
                                    have hP9 := hP.sub (ws' := [(mo, .inr (12, [.ref nw, .ref kp, .ref ik, .ref mr, .long la_, .long lb_, .ref mw, .long lc_, .int ti_, .int cb_, .long ld_, .long le_, .ref mq, .ref mz, .ref my, .int (nI 6), .ref mb, .int bl_, .int ta_, .int tl_, .int tk_, .int vl_, .ref mx, .ref mv])), (mz, .inl (cz_, 6, .inl (upd (upd (upd (upd (upd (upd fz_ (Int32.toNatClampNeg 1) (fz_ 2)) (Int32.toNatClampNeg 2) (fz_ 1)) (Int32.toNatClampNeg 2) (fz_ 5)) (Int32.toNatClampNeg 5) (fz_ 1)) (Int32.toNatClampNeg 3) (fz_ 4)) (Int32.toNatClampNeg 4) (fz_ 3))))]) [0, 1] rfl
                                    have hD9 := hD.sub (ws' := [(mo, .inr (12, [.ref nw, .ref kp, .ref ik, .ref mr, .long la_, .long lb_, .ref mw, .long lc_, .int ti_, .int cb_, .long ld_, .long le_, .ref mq, .ref mz, .ref my, .int (nI 6), .ref mb, .int bl_, .int ta_, .int tl_, .int tk_, .int vl_, .ref mx, .ref mv])), (mz, .inl (cz_, 6, .inl (upd (upd (upd (upd (upd (upd fz_ (Int32.toNatClampNeg 1) (fz_ 2)) (Int32.toNatClampNeg 2) (fz_ 1)) (Int32.toNatClampNeg 2) (fz_ 5)) (Int32.toNatClampNeg 5) (fz_ 1)) (Int32.toNatClampNeg 3) (fz_ 4)) (Int32.toNatClampNeg 4) (fz_ 3))))]) [0, 1] (by decide) rfl
                                    have hK9 := hK.sub (tys' := [(cz_, .int)]) [0] rfl
                                    have hlt_529 : (fz_ 1).toInt < (fz_ 2).toInt := tz_ltt2 c_519 (hdi.2 1 2 (by omega) (by omega))
                                    have hb_530 := hdi.1 0 (by omega)
                                    have hb_531 := hdi.1 1 (by omega)
                                    have hb_532 := hdi.1 2 (by omega)
                                    have hb_533 := hdi.1 3 (by omega)
                                    have hb_534 := hdi.1 4 (by omega)
                                    have hb_535 := hdi.1 5 (by omega)
                                    have ev_536 : tz_val 6 fz_ = 7776 * (fz_ 0).toInt + 1296 * (fz_ 1).toInt + 216 * (fz_ 2).toInt + 36 * (fz_ 3).toInt + 6 * (fz_ 4).toInt + (fz_ 5).toInt := rfl
                                    have eg_537 : tz_val 6 (upd (upd (upd (upd (upd (upd fz_ (Int32.toNatClampNeg 1) (fz_ 2)) (Int32.toNatClampNeg 2) (fz_ 1)) (Int32.toNatClampNeg 2) (fz_ 5)) (Int32.toNatClampNeg 5) (fz_ 1)) (Int32.toNatClampNeg 3) (fz_ 4)) (Int32.toNatClampNeg 4) (fz_ 3)) = 7776 * (fz_ 0).toInt + 1296 * (fz_ 2).toInt + 216 * (fz_ 5).toInt + 36 * (fz_ 4).toInt + 6 * (fz_ 3).toInt + (fz_ 1).toInt := rfl
                                    have hp_538 : tz_Di 6 (upd (upd (upd (upd (upd (upd fz_ (Int32.toNatClampNeg 1) (fz_ 2)) (Int32.toNatClampNeg 2) (fz_ 1)) (Int32.toNatClampNeg 2) (fz_ 5)) (Int32.toNatClampNeg 5) (fz_ 1)) (Int32.toNatClampNeg 3) (fz_ 4)) (Int32.toNatClampNeg 4) (fz_ 3)) := hdi.perm (fun a => ([0, 2, 5, 4, 3, 1] : List Nat).getD a 0) (fun a ha => by
                                      rcases (show a = 0 ∨ a = 1 ∨ a = 2 ∨ a = 3 ∨ a = 4 ∨ a = 5 by omega) with rfl | rfl | rfl | rfl | rfl | rfl <;> exact ⟨by decide, rfl⟩) (by decide)
                                    exact W.zret (v := 1) hx hb hr (by decide) (fun t ht hW => ⟨⟨1, (), rfl, Or.inr ⟨rfl, 1, by omega, tz_nle_of c_519⟩, (upd (upd (upd (upd (upd (upd fz_ (Int32.toNatClampNeg 1) (fz_ 2)) (Int32.toNatClampNeg 2) (fz_ 1)) (Int32.toNatClampNeg 2) (fz_ 5)) (Int32.toNatClampNeg 5) (fz_ 1)) (Int32.toNatClampNeg 3) (fz_ 4)) (Int32.toNatClampNeg 4) (fz_ 3)), hp_538, by rw [ev_536, eg_537]; omega, fun _ => by rw [ev_536, eg_537]; omega, by rw [ht]; exact hP9, va_K.moved hW.alike hK9, hD9⟩, hS.F ht⟩) hS.2.2 dX12_nextOrder_156
                                  · exact absurd c_528 (by decide)
                            · exact absurd c_457 c_519
                    · exact absurd c_458 (by decide)
                  · refine lv_iinc (v := 0) (lv' := [(1, .int 0), (0, .ref mo)]) hx hb dX12_nextOrder_28 hl (k := 0) rfl (by decide) (by decide) rfl (fun ls hl => ?_)
                    refine lv_goto (tgt := 7) hx hb dX12_nextOrder_31 (by decide) ?_
                    refine lv_iload_n hx hb dX12_nextOrder_7 rfl (lv_at hl 0 rfl) ?_
                    refine lv_if_lt (tgt := 34) hx hb dX12_nextOrder_8 (by decide) (fun c_539 => ?_) (fun c_539 => ?_)
                    · exact absurd c_539 (by decide)
                    · refine lv_aload_n hx hb dX12_nextOrder_11 rfl (lv_at hl 1 rfl) ?_
                      refine va_get (D := (dC, dI)) (ci := 12) (v := .ref mz) (C := RX12) (T := TX12) (N := 24) hx hb hts iw_m_nextOrder_X12 hown hK hP 0 rfl rfl 13 (by decide) (hts (.fieldLink RX12 34 "ThriceCountedModel" "order" "[I") (by decide +kernel)) (fun _ h9 => h9) rfl dX12_nextOrder_12 ?_
                      refine lv_iload_n hx hb dX12_nextOrder_15 rfl (lv_at hl 0 rfl) ?_
                      refine va_iald hx hb hK hP 1 0 rfl rfl (show ¬ ((0 : Int32) < 0 ∨ 6 ≤ (0 : Int32).toNatClampNeg) by decide) dX12_nextOrder_16 ?_
                      refine tz_i (fz_ 0) rfl ?_
                      refine lv_aload_n hx hb dX12_nextOrder_17 rfl (lv_at hl 1 rfl) ?_
                      refine va_get (D := (dC, dI)) (ci := 12) (v := .ref mz) (C := RX12) (T := TX12) (N := 24) hx hb hts iw_m_nextOrder_X12 hown hK hP 0 rfl rfl 13 (by decide) (hts (.fieldLink RX12 34 "ThriceCountedModel" "order" "[I") (by decide +kernel)) (fun _ h9 => h9) rfl dX12_nextOrder_18 ?_
                      refine lv_iload_n hx hb dX12_nextOrder_21 rfl (lv_at hl 0 rfl) ?_
                      refine lv_iconst (v := 1) hx hb dX12_nextOrder_22 (by decide) ?_
                      refine lv_iadd hx hb dX12_nextOrder_23 ?_
                      refine tz_i 1 (by decide) ?_
                      refine va_iald hx hb hK hP 1 0 rfl rfl (show ¬ ((1 : Int32) < 0 ∨ 6 ≤ (1 : Int32).toNatClampNeg) by decide) dX12_nextOrder_24 ?_
                      refine tz_i (fz_ 1) rfl ?_
                      refine lv_icmp_le (tgt := 34) hx hb dX12_nextOrder_25 (by decide) (fun c_540 => ?_) (fun c_540 => ?_)
                      · refine lv_iload_n hx hb dX12_nextOrder_34 rfl (lv_at hl 0 rfl) ?_
                        refine lv_if_ge (tgt := 40) hx hb dX12_nextOrder_35 (by decide) (fun c_541 => ?_) (fun c_541 => ?_)
                        · refine lv_aload_n hx hb dX12_nextOrder_40 rfl (lv_at hl 1 rfl) ?_
                          refine va_get (D := (dC, dI)) (ci := 12) (v := .int 6) (C := RX12) (T := TX12) (N := 24) hx hb hts iw_m_nextOrder_X12 hown hK hP 0 rfl rfl 15 (by decide) (hts (.fieldLink RX12 218 "ThriceCountedModel" "soughtMany" "I") (by decide +kernel)) (fun _ h9 => h9) rfl dX12_nextOrder_41 ?_
                          refine lv_iconst (v := 1) hx hb dX12_nextOrder_44 (by decide) ?_
                          refine lv_isub hx hb dX12_nextOrder_45 ?_
                          refine tz_i 5 (by decide) ?_
                          refine lv_istore_n (lv' := [(2, .int 5), (1, .int 0), (0, .ref mo)]) hx hb dX12_nextOrder_46 rfl hl (by decide) rfl (fun ls hl => ?_)
                          refine lv_aload_n hx hb dX12_nextOrder_47 rfl (lv_at hl 2 rfl) ?_
                          refine va_get (D := (dC, dI)) (ci := 12) (v := .ref mz) (C := RX12) (T := TX12) (N := 24) hx hb hts iw_m_nextOrder_X12 hown hK hP 0 rfl rfl 13 (by decide) (hts (.fieldLink RX12 34 "ThriceCountedModel" "order" "[I") (by decide +kernel)) (fun _ h9 => h9) rfl dX12_nextOrder_48 ?_
                          refine lv_iload_n hx hb dX12_nextOrder_51 rfl (lv_at hl 0 rfl) ?_
                          refine va_iald hx hb hK hP 1 0 rfl rfl (show ¬ ((5 : Int32) < 0 ∨ 6 ≤ (5 : Int32).toNatClampNeg) by decide) dX12_nextOrder_52 ?_
                          refine tz_i (fz_ 5) rfl ?_
                          refine lv_aload_n hx hb dX12_nextOrder_53 rfl (lv_at hl 2 rfl) ?_
                          refine va_get (D := (dC, dI)) (ci := 12) (v := .ref mz) (C := RX12) (T := TX12) (N := 24) hx hb hts iw_m_nextOrder_X12 hown hK hP 0 rfl rfl 13 (by decide) (hts (.fieldLink RX12 34 "ThriceCountedModel" "order" "[I") (by decide +kernel)) (fun _ h9 => h9) rfl dX12_nextOrder_54 ?_
                          refine lv_iload_n hx hb dX12_nextOrder_57 rfl (lv_at hl 1 rfl) ?_
                          refine va_iald hx hb hK hP 1 0 rfl rfl (show ¬ ((0 : Int32) < 0 ∨ 6 ≤ (0 : Int32).toNatClampNeg) by decide) dX12_nextOrder_58 ?_
                          refine tz_i (fz_ 0) rfl ?_
                          refine lv_icmp_ge (tgt := 68) hx hb dX12_nextOrder_59 (by decide) (fun c_542 => ?_) (fun c_542 => ?_)
                          · refine lv_aload_n hx hb dX12_nextOrder_68 rfl (lv_at hl 2 rfl) ?_
                            refine va_get (D := (dC, dI)) (ci := 12) (v := .ref mz) (C := RX12) (T := TX12) (N := 24) hx hb hts iw_m_nextOrder_X12 hown hK hP 0 rfl rfl 13 (by decide) (hts (.fieldLink RX12 34 "ThriceCountedModel" "order" "[I") (by decide +kernel)) (fun _ h9 => h9) rfl dX12_nextOrder_69 ?_
                            refine lv_iload_n hx hb dX12_nextOrder_72 rfl (lv_at hl 1 rfl) ?_
                            refine va_iald hx hb hK hP 1 0 rfl rfl (show ¬ ((0 : Int32) < 0 ∨ 6 ≤ (0 : Int32).toNatClampNeg) by decide) dX12_nextOrder_73 ?_
                            refine tz_i (fz_ 0) rfl ?_
                            refine lv_istore_n (lv' := [(3, .int (fz_ 0)), (2, .int 5), (1, .int 0), (0, .ref mo)]) hx hb dX12_nextOrder_74 rfl hl (by decide) rfl (fun ls hl => ?_)
                            refine lv_aload_n hx hb dX12_nextOrder_75 rfl (lv_at hl 3 rfl) ?_
                            refine va_get (D := (dC, dI)) (ci := 12) (v := .ref mz) (C := RX12) (T := TX12) (N := 24) hx hb hts iw_m_nextOrder_X12 hown hK hP 0 rfl rfl 13 (by decide) (hts (.fieldLink RX12 34 "ThriceCountedModel" "order" "[I") (by decide +kernel)) (fun _ h9 => h9) rfl dX12_nextOrder_76 ?_
                            refine lv_iload_n hx hb dX12_nextOrder_79 rfl (lv_at hl 2 rfl) ?_
                            refine lv_aload_n hx hb dX12_nextOrder_80 rfl (lv_at hl 3 rfl) ?_
                            refine va_get (D := (dC, dI)) (ci := 12) (v := .ref mz) (C := RX12) (T := TX12) (N := 24) hx hb hts iw_m_nextOrder_X12 hown hK hP 0 rfl rfl 13 (by decide) (hts (.fieldLink RX12 34 "ThriceCountedModel" "order" "[I") (by decide +kernel)) (fun _ h9 => h9) rfl dX12_nextOrder_81 ?_
                            refine lv_iload_n hx hb dX12_nextOrder_84 rfl (lv_at hl 1 rfl) ?_
                            refine va_iald hx hb hK hP 1 0 rfl rfl (show ¬ ((5 : Int32) < 0 ∨ 6 ≤ (5 : Int32).toNatClampNeg) by decide) dX12_nextOrder_85 ?_
                            refine tz_i (fz_ 5) rfl ?_
                            refine va_iast hx hb hK hP hD hS 1 0 rfl rfl (show ¬ ((0 : Int32) < 0 ∨ 6 ≤ (0 : Int32).toNatClampNeg) by decide) dX12_nextOrder_86 (fun H locs hP hD hS => ?_)
                            have hP : va_P (dC, dI) vwCl [(mo, .inr (12, [.ref nw, .ref kp, .ref ik, .ref mr, .long la_, .long lb_, .ref mw, .long lc_, .int ti_, .int cb_, .long ld_, .long le_, .ref mq, .ref mz, .ref my, .int 6, .ref mb, .int bl_, .int ta_, .int tl_, .int tk_, .int vl_, .ref mx, .ref mv])), (mz, .inl (cz_, 6, .inl (upd fz_ (Int32.toNatClampNeg 0) (fz_ 5))))] H := hP
                            have hD : va_D A [(mo, .inr (12, [.ref nw, .ref kp, .ref ik, .ref mr, .long la_, .long lb_, .ref mw, .long lc_, .int ti_, .int cb_, .long ld_, .long le_, .ref mq, .ref mz, .ref my, .int 6, .ref mb, .int bl_, .int ta_, .int tl_, .int tk_, .int vl_, .ref mx, .ref mv])), (mz, .inl (cz_, 6, .inl (upd fz_ (Int32.toNatClampNeg 0) (fz_ 5))))] := hD
                            refine lv_aload_n hx hb dX12_nextOrder_87 rfl (lv_at hl 3 rfl) ?_
                            refine va_get (D := (dC, dI)) (ci := 12) (v := .ref mz) (C := RX12) (T := TX12) (N := 24) hx hb hts iw_m_nextOrder_X12 hown hK hP 0 rfl rfl 13 (by decide) (hts (.fieldLink RX12 34 "ThriceCountedModel" "order" "[I") (by decide +kernel)) (fun _ h9 => h9) rfl dX12_nextOrder_88 ?_
                            refine lv_iload_n hx hb dX12_nextOrder_91 rfl (lv_at hl 1 rfl) ?_
                            refine lv_iload_n hx hb dX12_nextOrder_92 rfl (lv_at hl 0 rfl) ?_
                            refine va_iast hx hb hK hP hD hS 1 0 rfl rfl (show ¬ ((5 : Int32) < 0 ∨ 6 ≤ (5 : Int32).toNatClampNeg) by decide) dX12_nextOrder_93 (fun H locs hP hD hS => ?_)
                            have hP : va_P (dC, dI) vwCl [(mo, .inr (12, [.ref nw, .ref kp, .ref ik, .ref mr, .long la_, .long lb_, .ref mw, .long lc_, .int ti_, .int cb_, .long ld_, .long le_, .ref mq, .ref mz, .ref my, .int 6, .ref mb, .int bl_, .int ta_, .int tl_, .int tk_, .int vl_, .ref mx, .ref mv])), (mz, .inl (cz_, 6, .inl (upd (upd fz_ (Int32.toNatClampNeg 0) (fz_ 5)) (Int32.toNatClampNeg 5) (fz_ 0))))] H := hP
                            have hD : va_D A [(mo, .inr (12, [.ref nw, .ref kp, .ref ik, .ref mr, .long la_, .long lb_, .ref mw, .long lc_, .int ti_, .int cb_, .long ld_, .long le_, .ref mq, .ref mz, .ref my, .int 6, .ref mb, .int bl_, .int ta_, .int tl_, .int tk_, .int vl_, .ref mx, .ref mv])), (mz, .inl (cz_, 6, .inl (upd (upd fz_ (Int32.toNatClampNeg 0) (fz_ 5)) (Int32.toNatClampNeg 5) (fz_ 0))))] := hD
                            refine lv_iload_n hx hb dX12_nextOrder_94 rfl (lv_at hl 2 rfl) ?_
                            refine lv_iconst (v := 1) hx hb dX12_nextOrder_95 (by decide) ?_
                            refine lv_iadd hx hb dX12_nextOrder_96 ?_
                            refine tz_i 1 (by decide) ?_
                            refine lv_istore (lv' := [(4, .int 1), (3, .int (fz_ 0)), (2, .int 5), (1, .int 0), (0, .ref mo)]) hx hb dX12_nextOrder_97 hl (by decide) rfl (fun ls hl => ?_)
                            refine lv_aload_n hx hb dX12_nextOrder_99 rfl (lv_at hl 4 rfl) ?_
                            refine va_get (D := (dC, dI)) (ci := 12) (v := .int 6) (C := RX12) (T := TX12) (N := 24) hx hb hts iw_m_nextOrder_X12 hown hK hP 0 rfl rfl 15 (by decide) (hts (.fieldLink RX12 218 "ThriceCountedModel" "soughtMany" "I") (by decide +kernel)) (fun _ h9 => h9) rfl dX12_nextOrder_100 ?_
                            refine lv_iconst (v := 1) hx hb dX12_nextOrder_103 (by decide) ?_
                            refine lv_isub hx hb dX12_nextOrder_104 ?_
                            refine tz_i 5 (by decide) ?_
                            refine lv_istore (lv' := [(5, .int 5), (4, .int 1), (3, .int (fz_ 0)), (2, .int 5), (1, .int 0), (0, .ref mo)]) hx hb dX12_nextOrder_105 hl (by decide) rfl (fun ls hl => ?_)
                            refine lv_iload hx hb dX12_nextOrder_107 (lv_at hl 1 rfl) ?_
                            refine lv_iload hx hb dX12_nextOrder_109 (lv_at hl 0 rfl) ?_
                            refine lv_icmp_ge (tgt := 155) hx hb dX12_nextOrder_111 (by decide) (fun c_545 => ?_) (fun c_545 => ?_)
                            · exact absurd c_545 (by decide)
                            · refine lv_aload_n hx hb dX12_nextOrder_114 rfl (lv_at hl 5 rfl) ?_
                              refine va_get (D := (dC, dI)) (ci := 12) (v := .ref mz) (C := RX12) (T := TX12) (N := 24) hx hb hts iw_m_nextOrder_X12 hown hK hP 0 rfl rfl 13 (by decide) (hts (.fieldLink RX12 34 "ThriceCountedModel" "order" "[I") (by decide +kernel)) (fun _ h9 => h9) rfl dX12_nextOrder_115 ?_
                              refine lv_iload hx hb dX12_nextOrder_118 (lv_at hl 1 rfl) ?_
                              refine va_iald hx hb hK hP 1 0 rfl rfl (show ¬ ((1 : Int32) < 0 ∨ 6 ≤ (1 : Int32).toNatClampNeg) by decide) dX12_nextOrder_120 ?_
                              refine tz_i (fz_ 1) rfl ?_
                              refine lv_istore (lv' := [(6, .int (fz_ 1)), (5, .int 5), (4, .int 1), (3, .int (fz_ 0)), (2, .int 5), (1, .int 0), (0, .ref mo)]) hx hb dX12_nextOrder_121 hl (by decide) rfl (fun ls hl => ?_)
                              refine lv_aload_n hx hb dX12_nextOrder_123 rfl (lv_at hl 6 rfl) ?_
                              refine va_get (D := (dC, dI)) (ci := 12) (v := .ref mz) (C := RX12) (T := TX12) (N := 24) hx hb hts iw_m_nextOrder_X12 hown hK hP 0 rfl rfl 13 (by decide) (hts (.fieldLink RX12 34 "ThriceCountedModel" "order" "[I") (by decide +kernel)) (fun _ h9 => h9) rfl dX12_nextOrder_124 ?_
                              refine lv_iload hx hb dX12_nextOrder_127 (lv_at hl 2 rfl) ?_
                              refine lv_aload_n hx hb dX12_nextOrder_129 rfl (lv_at hl 6 rfl) ?_
                              refine va_get (D := (dC, dI)) (ci := 12) (v := .ref mz) (C := RX12) (T := TX12) (N := 24) hx hb hts iw_m_nextOrder_X12 hown hK hP 0 rfl rfl 13 (by decide) (hts (.fieldLink RX12 34 "ThriceCountedModel" "order" "[I") (by decide +kernel)) (fun _ h9 => h9) rfl dX12_nextOrder_130 ?_
                              refine lv_iload hx hb dX12_nextOrder_133 (lv_at hl 1 rfl) ?_
                              refine va_iald hx hb hK hP 1 0 rfl rfl (show ¬ ((5 : Int32) < 0 ∨ 6 ≤ (5 : Int32).toNatClampNeg) by decide) dX12_nextOrder_135 ?_
                              refine tz_i (fz_ 0) rfl ?_
                              refine va_iast hx hb hK hP hD hS 1 0 rfl rfl (show ¬ ((1 : Int32) < 0 ∨ 6 ≤ (1 : Int32).toNatClampNeg) by decide) dX12_nextOrder_136 (fun H locs hP hD hS => ?_)
                              have hP : va_P (dC, dI) vwCl [(mo, .inr (12, [.ref nw, .ref kp, .ref ik, .ref mr, .long la_, .long lb_, .ref mw, .long lc_, .int ti_, .int cb_, .long ld_, .long le_, .ref mq, .ref mz, .ref my, .int 6, .ref mb, .int bl_, .int ta_, .int tl_, .int tk_, .int vl_, .ref mx, .ref mv])), (mz, .inl (cz_, 6, .inl (upd (upd (upd fz_ (Int32.toNatClampNeg 0) (fz_ 5)) (Int32.toNatClampNeg 5) (fz_ 0)) (Int32.toNatClampNeg 1) (fz_ 0))))] H := hP
                              have hD : va_D A [(mo, .inr (12, [.ref nw, .ref kp, .ref ik, .ref mr, .long la_, .long lb_, .ref mw, .long lc_, .int ti_, .int cb_, .long ld_, .long le_, .ref mq, .ref mz, .ref my, .int 6, .ref mb, .int bl_, .int ta_, .int tl_, .int tk_, .int vl_, .ref mx, .ref mv])), (mz, .inl (cz_, 6, .inl (upd (upd (upd fz_ (Int32.toNatClampNeg 0) (fz_ 5)) (Int32.toNatClampNeg 5) (fz_ 0)) (Int32.toNatClampNeg 1) (fz_ 0))))] := hD
                              refine lv_aload_n hx hb dX12_nextOrder_137 rfl (lv_at hl 6 rfl) ?_
                              refine va_get (D := (dC, dI)) (ci := 12) (v := .ref mz) (C := RX12) (T := TX12) (N := 24) hx hb hts iw_m_nextOrder_X12 hown hK hP 0 rfl rfl 13 (by decide) (hts (.fieldLink RX12 34 "ThriceCountedModel" "order" "[I") (by decide +kernel)) (fun _ h9 => h9) rfl dX12_nextOrder_138 ?_
                              refine lv_iload hx hb dX12_nextOrder_141 (lv_at hl 1 rfl) ?_
                              refine lv_iload hx hb dX12_nextOrder_143 (lv_at hl 0 rfl) ?_
                              refine va_iast hx hb hK hP hD hS 1 0 rfl rfl (show ¬ ((5 : Int32) < 0 ∨ 6 ≤ (5 : Int32).toNatClampNeg) by decide) dX12_nextOrder_145 (fun H locs hP hD hS => ?_)
                              have hP : va_P (dC, dI) vwCl [(mo, .inr (12, [.ref nw, .ref kp, .ref ik, .ref mr, .long la_, .long lb_, .ref mw, .long lc_, .int ti_, .int cb_, .long ld_, .long le_, .ref mq, .ref mz, .ref my, .int 6, .ref mb, .int bl_, .int ta_, .int tl_, .int tk_, .int vl_, .ref mx, .ref mv])), (mz, .inl (cz_, 6, .inl (upd (upd (upd (upd fz_ (Int32.toNatClampNeg 0) (fz_ 5)) (Int32.toNatClampNeg 5) (fz_ 0)) (Int32.toNatClampNeg 1) (fz_ 0)) (Int32.toNatClampNeg 5) (fz_ 1))))] H := hP
                              have hD : va_D A [(mo, .inr (12, [.ref nw, .ref kp, .ref ik, .ref mr, .long la_, .long lb_, .ref mw, .long lc_, .int ti_, .int cb_, .long ld_, .long le_, .ref mq, .ref mz, .ref my, .int 6, .ref mb, .int bl_, .int ta_, .int tl_, .int tk_, .int vl_, .ref mx, .ref mv])), (mz, .inl (cz_, 6, .inl (upd (upd (upd (upd fz_ (Int32.toNatClampNeg 0) (fz_ 5)) (Int32.toNatClampNeg 5) (fz_ 0)) (Int32.toNatClampNeg 1) (fz_ 0)) (Int32.toNatClampNeg 5) (fz_ 1))))] := hD
                              refine lv_iinc (v := 2) (lv' := [(4, .int 2), (6, .int (fz_ 1)), (5, .int 5), (3, .int (fz_ 0)), (2, .int 5), (1, .int 0), (0, .ref mo)]) hx hb dX12_nextOrder_146 hl (k := 2) rfl (by decide) (by decide) rfl (fun ls hl => ?_)
                              refine lv_iinc (v := 4) (lv' := [(5, .int 4), (4, .int 2), (6, .int (fz_ 1)), (3, .int (fz_ 0)), (2, .int 5), (1, .int 0), (0, .ref mo)]) hx hb dX12_nextOrder_149 hl (k := 2) rfl (by decide) (by decide) rfl (fun ls hl => ?_)
                              refine lv_goto (tgt := 107) hx hb dX12_nextOrder_152 (by decide) ?_
                              refine lv_iload hx hb dX12_nextOrder_107 (lv_at hl 1 rfl) ?_
                              refine lv_iload hx hb dX12_nextOrder_109 (lv_at hl 0 rfl) ?_
                              refine lv_icmp_ge (tgt := 155) hx hb dX12_nextOrder_111 (by decide) (fun c_548 => ?_) (fun c_548 => ?_)
                              · exact absurd c_548 (by decide)
                              · refine lv_aload_n hx hb dX12_nextOrder_114 rfl (lv_at hl 6 rfl) ?_
                                refine va_get (D := (dC, dI)) (ci := 12) (v := .ref mz) (C := RX12) (T := TX12) (N := 24) hx hb hts iw_m_nextOrder_X12 hown hK hP 0 rfl rfl 13 (by decide) (hts (.fieldLink RX12 34 "ThriceCountedModel" "order" "[I") (by decide +kernel)) (fun _ h9 => h9) rfl dX12_nextOrder_115 ?_
                                refine lv_iload hx hb dX12_nextOrder_118 (lv_at hl 1 rfl) ?_
                                refine va_iald hx hb hK hP 1 0 rfl rfl (show ¬ ((2 : Int32) < 0 ∨ 6 ≤ (2 : Int32).toNatClampNeg) by decide) dX12_nextOrder_120 ?_
                                refine tz_i (fz_ 2) rfl ?_
                                refine lv_istore (lv' := [(6, .int (fz_ 2)), (5, .int 4), (4, .int 2), (3, .int (fz_ 0)), (2, .int 5), (1, .int 0), (0, .ref mo)]) hx hb dX12_nextOrder_121 hl (by decide) rfl (fun ls hl => ?_)
                                refine lv_aload_n hx hb dX12_nextOrder_123 rfl (lv_at hl 6 rfl) ?_
                                refine va_get (D := (dC, dI)) (ci := 12) (v := .ref mz) (C := RX12) (T := TX12) (N := 24) hx hb hts iw_m_nextOrder_X12 hown hK hP 0 rfl rfl 13 (by decide) (hts (.fieldLink RX12 34 "ThriceCountedModel" "order" "[I") (by decide +kernel)) (fun _ h9 => h9) rfl dX12_nextOrder_124 ?_
                                refine lv_iload hx hb dX12_nextOrder_127 (lv_at hl 2 rfl) ?_
                                refine lv_aload_n hx hb dX12_nextOrder_129 rfl (lv_at hl 6 rfl) ?_
                                refine va_get (D := (dC, dI)) (ci := 12) (v := .ref mz) (C := RX12) (T := TX12) (N := 24) hx hb hts iw_m_nextOrder_X12 hown hK hP 0 rfl rfl 13 (by decide) (hts (.fieldLink RX12 34 "ThriceCountedModel" "order" "[I") (by decide +kernel)) (fun _ h9 => h9) rfl dX12_nextOrder_130 ?_
                                refine lv_iload hx hb dX12_nextOrder_133 (lv_at hl 1 rfl) ?_
                                refine va_iald hx hb hK hP 1 0 rfl rfl (show ¬ ((4 : Int32) < 0 ∨ 6 ≤ (4 : Int32).toNatClampNeg) by decide) dX12_nextOrder_135 ?_
                                refine tz_i (fz_ 4) rfl ?_
                                refine va_iast hx hb hK hP hD hS 1 0 rfl rfl (show ¬ ((2 : Int32) < 0 ∨ 6 ≤ (2 : Int32).toNatClampNeg) by decide) dX12_nextOrder_136 (fun H locs hP hD hS => ?_)
                                have hP : va_P (dC, dI) vwCl [(mo, .inr (12, [.ref nw, .ref kp, .ref ik, .ref mr, .long la_, .long lb_, .ref mw, .long lc_, .int ti_, .int cb_, .long ld_, .long le_, .ref mq, .ref mz, .ref my, .int 6, .ref mb, .int bl_, .int ta_, .int tl_, .int tk_, .int vl_, .ref mx, .ref mv])), (mz, .inl (cz_, 6, .inl (upd (upd (upd (upd (upd fz_ (Int32.toNatClampNeg 0) (fz_ 5)) (Int32.toNatClampNeg 5) (fz_ 0)) (Int32.toNatClampNeg 1) (fz_ 0)) (Int32.toNatClampNeg 5) (fz_ 1)) (Int32.toNatClampNeg 2) (fz_ 4))))] H := hP
                                have hD : va_D A [(mo, .inr (12, [.ref nw, .ref kp, .ref ik, .ref mr, .long la_, .long lb_, .ref mw, .long lc_, .int ti_, .int cb_, .long ld_, .long le_, .ref mq, .ref mz, .ref my, .int 6, .ref mb, .int bl_, .int ta_, .int tl_, .int tk_, .int vl_, .ref mx, .ref mv])), (mz, .inl (cz_, 6, .inl (upd (upd (upd (upd (upd fz_ (Int32.toNatClampNeg 0) (fz_ 5)) (Int32.toNatClampNeg 5) (fz_ 0)) (Int32.toNatClampNeg 1) (fz_ 0)) (Int32.toNatClampNeg 5) (fz_ 1)) (Int32.toNatClampNeg 2) (fz_ 4))))] := hD
                                refine lv_aload_n hx hb dX12_nextOrder_137 rfl (lv_at hl 6 rfl) ?_
                                refine va_get (D := (dC, dI)) (ci := 12) (v := .ref mz) (C := RX12) (T := TX12) (N := 24) hx hb hts iw_m_nextOrder_X12 hown hK hP 0 rfl rfl 13 (by decide) (hts (.fieldLink RX12 34 "ThriceCountedModel" "order" "[I") (by decide +kernel)) (fun _ h9 => h9) rfl dX12_nextOrder_138 ?_
                                refine lv_iload hx hb dX12_nextOrder_141 (lv_at hl 1 rfl) ?_
                                refine lv_iload hx hb dX12_nextOrder_143 (lv_at hl 0 rfl) ?_
                                refine va_iast hx hb hK hP hD hS 1 0 rfl rfl (show ¬ ((4 : Int32) < 0 ∨ 6 ≤ (4 : Int32).toNatClampNeg) by decide) dX12_nextOrder_145 (fun H locs hP hD hS => ?_)
                                have hP : va_P (dC, dI) vwCl [(mo, .inr (12, [.ref nw, .ref kp, .ref ik, .ref mr, .long la_, .long lb_, .ref mw, .long lc_, .int ti_, .int cb_, .long ld_, .long le_, .ref mq, .ref mz, .ref my, .int 6, .ref mb, .int bl_, .int ta_, .int tl_, .int tk_, .int vl_, .ref mx, .ref mv])), (mz, .inl (cz_, 6, .inl (upd (upd (upd (upd (upd (upd fz_ (Int32.toNatClampNeg 0) (fz_ 5)) (Int32.toNatClampNeg 5) (fz_ 0)) (Int32.toNatClampNeg 1) (fz_ 0)) (Int32.toNatClampNeg 5) (fz_ 1)) (Int32.toNatClampNeg 2) (fz_ 4)) (Int32.toNatClampNeg 4) (fz_ 2))))] H := hP
                                have hD : va_D A [(mo, .inr (12, [.ref nw, .ref kp, .ref ik, .ref mr, .long la_, .long lb_, .ref mw, .long lc_, .int ti_, .int cb_, .long ld_, .long le_, .ref mq, .ref mz, .ref my, .int 6, .ref mb, .int bl_, .int ta_, .int tl_, .int tk_, .int vl_, .ref mx, .ref mv])), (mz, .inl (cz_, 6, .inl (upd (upd (upd (upd (upd (upd fz_ (Int32.toNatClampNeg 0) (fz_ 5)) (Int32.toNatClampNeg 5) (fz_ 0)) (Int32.toNatClampNeg 1) (fz_ 0)) (Int32.toNatClampNeg 5) (fz_ 1)) (Int32.toNatClampNeg 2) (fz_ 4)) (Int32.toNatClampNeg 4) (fz_ 2))))] := hD
                                refine lv_iinc (v := 3) (lv' := [(4, .int 3), (6, .int (fz_ 2)), (5, .int 4), (3, .int (fz_ 0)), (2, .int 5), (1, .int 0), (0, .ref mo)]) hx hb dX12_nextOrder_146 hl (k := 2) rfl (by decide) (by decide) rfl (fun ls hl => ?_)
                                refine lv_iinc (v := 3) (lv' := [(5, .int 3), (4, .int 3), (6, .int (fz_ 2)), (3, .int (fz_ 0)), (2, .int 5), (1, .int 0), (0, .ref mo)]) hx hb dX12_nextOrder_149 hl (k := 2) rfl (by decide) (by decide) rfl (fun ls hl => ?_)
                                refine lv_goto (tgt := 107) hx hb dX12_nextOrder_152 (by decide) ?_
                                refine lv_iload hx hb dX12_nextOrder_107 (lv_at hl 1 rfl) ?_
                                refine lv_iload hx hb dX12_nextOrder_109 (lv_at hl 0 rfl) ?_
                                refine lv_icmp_ge (tgt := 155) hx hb dX12_nextOrder_111 (by decide) (fun c_551 => ?_) (fun c_551 => ?_)
                                · refine lv_iconst (v := 1) hx hb dX12_nextOrder_155 (by decide) ?_
                                  have hP9 := hP.sub (ws' := [(mo, .inr (12, [.ref nw, .ref kp, .ref ik, .ref mr, .long la_, .long lb_, .ref mw, .long lc_, .int ti_, .int cb_, .long ld_, .long le_, .ref mq, .ref mz, .ref my, .int (nI 6), .ref mb, .int bl_, .int ta_, .int tl_, .int tk_, .int vl_, .ref mx, .ref mv])), (mz, .inl (cz_, 6, .inl (upd (upd (upd (upd (upd (upd fz_ (Int32.toNatClampNeg 0) (fz_ 5)) (Int32.toNatClampNeg 5) (fz_ 0)) (Int32.toNatClampNeg 1) (fz_ 0)) (Int32.toNatClampNeg 5) (fz_ 1)) (Int32.toNatClampNeg 2) (fz_ 4)) (Int32.toNatClampNeg 4) (fz_ 2))))]) [0, 1] rfl
                                  have hD9 := hD.sub (ws' := [(mo, .inr (12, [.ref nw, .ref kp, .ref ik, .ref mr, .long la_, .long lb_, .ref mw, .long lc_, .int ti_, .int cb_, .long ld_, .long le_, .ref mq, .ref mz, .ref my, .int (nI 6), .ref mb, .int bl_, .int ta_, .int tl_, .int tk_, .int vl_, .ref mx, .ref mv])), (mz, .inl (cz_, 6, .inl (upd (upd (upd (upd (upd (upd fz_ (Int32.toNatClampNeg 0) (fz_ 5)) (Int32.toNatClampNeg 5) (fz_ 0)) (Int32.toNatClampNeg 1) (fz_ 0)) (Int32.toNatClampNeg 5) (fz_ 1)) (Int32.toNatClampNeg 2) (fz_ 4)) (Int32.toNatClampNeg 4) (fz_ 2))))]) [0, 1] (by decide) rfl
                                  have hK9 := hK.sub (tys' := [(cz_, .int)]) [0] rfl
                                  have hlt_552 : (fz_ 0).toInt < (fz_ 5).toInt := tz_ltt2 c_542 (hdi.2 0 5 (by omega) (by omega))
                                  have hb_553 := hdi.1 0 (by omega)
                                  have hb_554 := hdi.1 1 (by omega)
                                  have hb_555 := hdi.1 2 (by omega)
                                  have hb_556 := hdi.1 3 (by omega)
                                  have hb_557 := hdi.1 4 (by omega)
                                  have hb_558 := hdi.1 5 (by omega)
                                  have ev_559 : tz_val 6 fz_ = 7776 * (fz_ 0).toInt + 1296 * (fz_ 1).toInt + 216 * (fz_ 2).toInt + 36 * (fz_ 3).toInt + 6 * (fz_ 4).toInt + (fz_ 5).toInt := rfl
                                  have eg_560 : tz_val 6 (upd (upd (upd (upd (upd (upd fz_ (Int32.toNatClampNeg 0) (fz_ 5)) (Int32.toNatClampNeg 5) (fz_ 0)) (Int32.toNatClampNeg 1) (fz_ 0)) (Int32.toNatClampNeg 5) (fz_ 1)) (Int32.toNatClampNeg 2) (fz_ 4)) (Int32.toNatClampNeg 4) (fz_ 2)) = 7776 * (fz_ 5).toInt + 1296 * (fz_ 0).toInt + 216 * (fz_ 4).toInt + 36 * (fz_ 3).toInt + 6 * (fz_ 2).toInt + (fz_ 1).toInt := rfl
                                  have hp_561 : tz_Di 6 (upd (upd (upd (upd (upd (upd fz_ (Int32.toNatClampNeg 0) (fz_ 5)) (Int32.toNatClampNeg 5) (fz_ 0)) (Int32.toNatClampNeg 1) (fz_ 0)) (Int32.toNatClampNeg 5) (fz_ 1)) (Int32.toNatClampNeg 2) (fz_ 4)) (Int32.toNatClampNeg 4) (fz_ 2)) := hdi.perm (fun a => ([5, 0, 4, 3, 2, 1] : List Nat).getD a 0) (fun a ha => by
                                    rcases (show a = 0 ∨ a = 1 ∨ a = 2 ∨ a = 3 ∨ a = 4 ∨ a = 5 by omega) with rfl | rfl | rfl | rfl | rfl | rfl <;> exact ⟨by decide, rfl⟩) (by decide)
                                  exact W.zret (v := 1) hx hb hr (by decide) (fun t ht hW => ⟨⟨1, (), rfl, Or.inr ⟨rfl, 0, by omega, tz_nle_of c_540⟩, (upd (upd (upd (upd (upd (upd fz_ (Int32.toNatClampNeg 0) (fz_ 5)) (Int32.toNatClampNeg 5) (fz_ 0)) (Int32.toNatClampNeg 1) (fz_ 0)) (Int32.toNatClampNeg 5) (fz_ 1)) (Int32.toNatClampNeg 2) (fz_ 4)) (Int32.toNatClampNeg 4) (fz_ 2)), hp_561, by rw [ev_559, eg_560]; omega, fun _ => by rw [ev_559, eg_560]; omega, by rw [ht]; exact hP9, va_K.moved hW.alike hK9, hD9⟩, hS.F ht⟩) hS.2.2 dX12_nextOrder_156
                                · exact absurd c_551 (by decide)
                          · refine lv_iinc (v := 4) (lv' := [(2, .int 4), (1, .int 0), (0, .ref mo)]) hx hb dX12_nextOrder_62 hl (k := 0) rfl (by decide) (by decide) rfl (fun ls hl => ?_)
                            refine lv_goto (tgt := 47) hx hb dX12_nextOrder_65 (by decide) ?_
                            refine lv_aload_n hx hb dX12_nextOrder_47 rfl (lv_at hl 2 rfl) ?_
                            refine va_get (D := (dC, dI)) (ci := 12) (v := .ref mz) (C := RX12) (T := TX12) (N := 24) hx hb hts iw_m_nextOrder_X12 hown hK hP 0 rfl rfl 13 (by decide) (hts (.fieldLink RX12 34 "ThriceCountedModel" "order" "[I") (by decide +kernel)) (fun _ h9 => h9) rfl dX12_nextOrder_48 ?_
                            refine lv_iload_n hx hb dX12_nextOrder_51 rfl (lv_at hl 0 rfl) ?_
                            refine va_iald hx hb hK hP 1 0 rfl rfl (show ¬ ((4 : Int32) < 0 ∨ 6 ≤ (4 : Int32).toNatClampNeg) by decide) dX12_nextOrder_52 ?_
                            refine tz_i (fz_ 4) rfl ?_
                            refine lv_aload_n hx hb dX12_nextOrder_53 rfl (lv_at hl 2 rfl) ?_
                            refine va_get (D := (dC, dI)) (ci := 12) (v := .ref mz) (C := RX12) (T := TX12) (N := 24) hx hb hts iw_m_nextOrder_X12 hown hK hP 0 rfl rfl 13 (by decide) (hts (.fieldLink RX12 34 "ThriceCountedModel" "order" "[I") (by decide +kernel)) (fun _ h9 => h9) rfl dX12_nextOrder_54 ?_
                            refine lv_iload_n hx hb dX12_nextOrder_57 rfl (lv_at hl 1 rfl) ?_
                            refine va_iald hx hb hK hP 1 0 rfl rfl (show ¬ ((0 : Int32) < 0 ∨ 6 ≤ (0 : Int32).toNatClampNeg) by decide) dX12_nextOrder_58 ?_
                            refine tz_i (fz_ 0) rfl ?_
                            refine lv_icmp_ge (tgt := 68) hx hb dX12_nextOrder_59 (by decide) (fun c_562 => ?_) (fun c_562 => ?_)
                            · refine lv_aload_n hx hb dX12_nextOrder_68 rfl (lv_at hl 2 rfl) ?_
                              refine va_get (D := (dC, dI)) (ci := 12) (v := .ref mz) (C := RX12) (T := TX12) (N := 24) hx hb hts iw_m_nextOrder_X12 hown hK hP 0 rfl rfl 13 (by decide) (hts (.fieldLink RX12 34 "ThriceCountedModel" "order" "[I") (by decide +kernel)) (fun _ h9 => h9) rfl dX12_nextOrder_69 ?_
                              refine lv_iload_n hx hb dX12_nextOrder_72 rfl (lv_at hl 1 rfl) ?_
                              refine va_iald hx hb hK hP 1 0 rfl rfl (show ¬ ((0 : Int32) < 0 ∨ 6 ≤ (0 : Int32).toNatClampNeg) by decide) dX12_nextOrder_73 ?_
                              refine tz_i (fz_ 0) rfl ?_
                              refine lv_istore_n (lv' := [(3, .int (fz_ 0)), (2, .int 4), (1, .int 0), (0, .ref mo)]) hx hb dX12_nextOrder_74 rfl hl (by decide) rfl (fun ls hl => ?_)
                              refine lv_aload_n hx hb dX12_nextOrder_75 rfl (lv_at hl 3 rfl) ?_
                              refine va_get (D := (dC, dI)) (ci := 12) (v := .ref mz) (C := RX12) (T := TX12) (N := 24) hx hb hts iw_m_nextOrder_X12 hown hK hP 0 rfl rfl 13 (by decide) (hts (.fieldLink RX12 34 "ThriceCountedModel" "order" "[I") (by decide +kernel)) (fun _ h9 => h9) rfl dX12_nextOrder_76 ?_
                              refine lv_iload_n hx hb dX12_nextOrder_79 rfl (lv_at hl 2 rfl) ?_
                              refine lv_aload_n hx hb dX12_nextOrder_80 rfl (lv_at hl 3 rfl) ?_
                              refine va_get (D := (dC, dI)) (ci := 12) (v := .ref mz) (C := RX12) (T := TX12) (N := 24) hx hb hts iw_m_nextOrder_X12 hown hK hP 0 rfl rfl 13 (by decide) (hts (.fieldLink RX12 34 "ThriceCountedModel" "order" "[I") (by decide +kernel)) (fun _ h9 => h9) rfl dX12_nextOrder_81 ?_
                              refine lv_iload_n hx hb dX12_nextOrder_84 rfl (lv_at hl 1 rfl) ?_
                              refine va_iald hx hb hK hP 1 0 rfl rfl (show ¬ ((4 : Int32) < 0 ∨ 6 ≤ (4 : Int32).toNatClampNeg) by decide) dX12_nextOrder_85 ?_
                              refine tz_i (fz_ 4) rfl ?_
                              refine va_iast hx hb hK hP hD hS 1 0 rfl rfl (show ¬ ((0 : Int32) < 0 ∨ 6 ≤ (0 : Int32).toNatClampNeg) by decide) dX12_nextOrder_86 (fun H locs hP hD hS => ?_)
                              have hP : va_P (dC, dI) vwCl [(mo, .inr (12, [.ref nw, .ref kp, .ref ik, .ref mr, .long la_, .long lb_, .ref mw, .long lc_, .int ti_, .int cb_, .long ld_, .long le_, .ref mq, .ref mz, .ref my, .int 6, .ref mb, .int bl_, .int ta_, .int tl_, .int tk_, .int vl_, .ref mx, .ref mv])), (mz, .inl (cz_, 6, .inl (upd fz_ (Int32.toNatClampNeg 0) (fz_ 4))))] H := hP
                              have hD : va_D A [(mo, .inr (12, [.ref nw, .ref kp, .ref ik, .ref mr, .long la_, .long lb_, .ref mw, .long lc_, .int ti_, .int cb_, .long ld_, .long le_, .ref mq, .ref mz, .ref my, .int 6, .ref mb, .int bl_, .int ta_, .int tl_, .int tk_, .int vl_, .ref mx, .ref mv])), (mz, .inl (cz_, 6, .inl (upd fz_ (Int32.toNatClampNeg 0) (fz_ 4))))] := hD
                              refine lv_aload_n hx hb dX12_nextOrder_87 rfl (lv_at hl 3 rfl) ?_
                              refine va_get (D := (dC, dI)) (ci := 12) (v := .ref mz) (C := RX12) (T := TX12) (N := 24) hx hb hts iw_m_nextOrder_X12 hown hK hP 0 rfl rfl 13 (by decide) (hts (.fieldLink RX12 34 "ThriceCountedModel" "order" "[I") (by decide +kernel)) (fun _ h9 => h9) rfl dX12_nextOrder_88 ?_
                              refine lv_iload_n hx hb dX12_nextOrder_91 rfl (lv_at hl 1 rfl) ?_
                              refine lv_iload_n hx hb dX12_nextOrder_92 rfl (lv_at hl 0 rfl) ?_
                              refine va_iast hx hb hK hP hD hS 1 0 rfl rfl (show ¬ ((4 : Int32) < 0 ∨ 6 ≤ (4 : Int32).toNatClampNeg) by decide) dX12_nextOrder_93 (fun H locs hP hD hS => ?_)
                              have hP : va_P (dC, dI) vwCl [(mo, .inr (12, [.ref nw, .ref kp, .ref ik, .ref mr, .long la_, .long lb_, .ref mw, .long lc_, .int ti_, .int cb_, .long ld_, .long le_, .ref mq, .ref mz, .ref my, .int 6, .ref mb, .int bl_, .int ta_, .int tl_, .int tk_, .int vl_, .ref mx, .ref mv])), (mz, .inl (cz_, 6, .inl (upd (upd fz_ (Int32.toNatClampNeg 0) (fz_ 4)) (Int32.toNatClampNeg 4) (fz_ 0))))] H := hP
                              have hD : va_D A [(mo, .inr (12, [.ref nw, .ref kp, .ref ik, .ref mr, .long la_, .long lb_, .ref mw, .long lc_, .int ti_, .int cb_, .long ld_, .long le_, .ref mq, .ref mz, .ref my, .int 6, .ref mb, .int bl_, .int ta_, .int tl_, .int tk_, .int vl_, .ref mx, .ref mv])), (mz, .inl (cz_, 6, .inl (upd (upd fz_ (Int32.toNatClampNeg 0) (fz_ 4)) (Int32.toNatClampNeg 4) (fz_ 0))))] := hD
                              refine lv_iload_n hx hb dX12_nextOrder_94 rfl (lv_at hl 2 rfl) ?_
                              refine lv_iconst (v := 1) hx hb dX12_nextOrder_95 (by decide) ?_
                              refine lv_iadd hx hb dX12_nextOrder_96 ?_
                              refine tz_i 1 (by decide) ?_
                              refine lv_istore (lv' := [(4, .int 1), (3, .int (fz_ 0)), (2, .int 4), (1, .int 0), (0, .ref mo)]) hx hb dX12_nextOrder_97 hl (by decide) rfl (fun ls hl => ?_)
                              refine lv_aload_n hx hb dX12_nextOrder_99 rfl (lv_at hl 4 rfl) ?_
                              refine va_get (D := (dC, dI)) (ci := 12) (v := .int 6) (C := RX12) (T := TX12) (N := 24) hx hb hts iw_m_nextOrder_X12 hown hK hP 0 rfl rfl 15 (by decide) (hts (.fieldLink RX12 218 "ThriceCountedModel" "soughtMany" "I") (by decide +kernel)) (fun _ h9 => h9) rfl dX12_nextOrder_100 ?_
                              refine lv_iconst (v := 1) hx hb dX12_nextOrder_103 (by decide) ?_
                              refine lv_isub hx hb dX12_nextOrder_104 ?_
                              refine tz_i 5 (by decide) ?_
                              refine lv_istore (lv' := [(5, .int 5), (4, .int 1), (3, .int (fz_ 0)), (2, .int 4), (1, .int 0), (0, .ref mo)]) hx hb dX12_nextOrder_105 hl (by decide) rfl (fun ls hl => ?_)
                              refine lv_iload hx hb dX12_nextOrder_107 (lv_at hl 1 rfl) ?_
                              refine lv_iload hx hb dX12_nextOrder_109 (lv_at hl 0 rfl) ?_
                              refine lv_icmp_ge (tgt := 155) hx hb dX12_nextOrder_111 (by decide) (fun c_565 => ?_) (fun c_565 => ?_)
                              · exact absurd c_565 (by decide)
                              · refine lv_aload_n hx hb dX12_nextOrder_114 rfl (lv_at hl 5 rfl) ?_
                                refine va_get (D := (dC, dI)) (ci := 12) (v := .ref mz) (C := RX12) (T := TX12) (N := 24) hx hb hts iw_m_nextOrder_X12 hown hK hP 0 rfl rfl 13 (by decide) (hts (.fieldLink RX12 34 "ThriceCountedModel" "order" "[I") (by decide +kernel)) (fun _ h9 => h9) rfl dX12_nextOrder_115 ?_
                                refine lv_iload hx hb dX12_nextOrder_118 (lv_at hl 1 rfl) ?_
                                refine va_iald hx hb hK hP 1 0 rfl rfl (show ¬ ((1 : Int32) < 0 ∨ 6 ≤ (1 : Int32).toNatClampNeg) by decide) dX12_nextOrder_120 ?_
                                refine tz_i (fz_ 1) rfl ?_
                                refine lv_istore (lv' := [(6, .int (fz_ 1)), (5, .int 5), (4, .int 1), (3, .int (fz_ 0)), (2, .int 4), (1, .int 0), (0, .ref mo)]) hx hb dX12_nextOrder_121 hl (by decide) rfl (fun ls hl => ?_)
                                refine lv_aload_n hx hb dX12_nextOrder_123 rfl (lv_at hl 6 rfl) ?_
                                refine va_get (D := (dC, dI)) (ci := 12) (v := .ref mz) (C := RX12) (T := TX12) (N := 24) hx hb hts iw_m_nextOrder_X12 hown hK hP 0 rfl rfl 13 (by decide) (hts (.fieldLink RX12 34 "ThriceCountedModel" "order" "[I") (by decide +kernel)) (fun _ h9 => h9) rfl dX12_nextOrder_124 ?_
                                refine lv_iload hx hb dX12_nextOrder_127 (lv_at hl 2 rfl) ?_
                                refine lv_aload_n hx hb dX12_nextOrder_129 rfl (lv_at hl 6 rfl) ?_
                                refine va_get (D := (dC, dI)) (ci := 12) (v := .ref mz) (C := RX12) (T := TX12) (N := 24) hx hb hts iw_m_nextOrder_X12 hown hK hP 0 rfl rfl 13 (by decide) (hts (.fieldLink RX12 34 "ThriceCountedModel" "order" "[I") (by decide +kernel)) (fun _ h9 => h9) rfl dX12_nextOrder_130 ?_
                                refine lv_iload hx hb dX12_nextOrder_133 (lv_at hl 1 rfl) ?_
                                refine va_iald hx hb hK hP 1 0 rfl rfl (show ¬ ((5 : Int32) < 0 ∨ 6 ≤ (5 : Int32).toNatClampNeg) by decide) dX12_nextOrder_135 ?_
                                refine tz_i (fz_ 5) rfl ?_
                                refine va_iast hx hb hK hP hD hS 1 0 rfl rfl (show ¬ ((1 : Int32) < 0 ∨ 6 ≤ (1 : Int32).toNatClampNeg) by decide) dX12_nextOrder_136 (fun H locs hP hD hS => ?_)
                                have hP : va_P (dC, dI) vwCl [(mo, .inr (12, [.ref nw, .ref kp, .ref ik, .ref mr, .long la_, .long lb_, .ref mw, .long lc_, .int ti_, .int cb_, .long ld_, .long le_, .ref mq, .ref mz, .ref my, .int 6, .ref mb, .int bl_, .int ta_, .int tl_, .int tk_, .int vl_, .ref mx, .ref mv])), (mz, .inl (cz_, 6, .inl (upd (upd (upd fz_ (Int32.toNatClampNeg 0) (fz_ 4)) (Int32.toNatClampNeg 4) (fz_ 0)) (Int32.toNatClampNeg 1) (fz_ 5))))] H := hP
                                have hD : va_D A [(mo, .inr (12, [.ref nw, .ref kp, .ref ik, .ref mr, .long la_, .long lb_, .ref mw, .long lc_, .int ti_, .int cb_, .long ld_, .long le_, .ref mq, .ref mz, .ref my, .int 6, .ref mb, .int bl_, .int ta_, .int tl_, .int tk_, .int vl_, .ref mx, .ref mv])), (mz, .inl (cz_, 6, .inl (upd (upd (upd fz_ (Int32.toNatClampNeg 0) (fz_ 4)) (Int32.toNatClampNeg 4) (fz_ 0)) (Int32.toNatClampNeg 1) (fz_ 5))))] := hD
                                refine lv_aload_n hx hb dX12_nextOrder_137 rfl (lv_at hl 6 rfl) ?_
                                refine va_get (D := (dC, dI)) (ci := 12) (v := .ref mz) (C := RX12) (T := TX12) (N := 24) hx hb hts iw_m_nextOrder_X12 hown hK hP 0 rfl rfl 13 (by decide) (hts (.fieldLink RX12 34 "ThriceCountedModel" "order" "[I") (by decide +kernel)) (fun _ h9 => h9) rfl dX12_nextOrder_138 ?_
                                refine lv_iload hx hb dX12_nextOrder_141 (lv_at hl 1 rfl) ?_
                                refine lv_iload hx hb dX12_nextOrder_143 (lv_at hl 0 rfl) ?_
                                refine va_iast hx hb hK hP hD hS 1 0 rfl rfl (show ¬ ((5 : Int32) < 0 ∨ 6 ≤ (5 : Int32).toNatClampNeg) by decide) dX12_nextOrder_145 (fun H locs hP hD hS => ?_)
                                have hP : va_P (dC, dI) vwCl [(mo, .inr (12, [.ref nw, .ref kp, .ref ik, .ref mr, .long la_, .long lb_, .ref mw, .long lc_, .int ti_, .int cb_, .long ld_, .long le_, .ref mq, .ref mz, .ref my, .int 6, .ref mb, .int bl_, .int ta_, .int tl_, .int tk_, .int vl_, .ref mx, .ref mv])), (mz, .inl (cz_, 6, .inl (upd (upd (upd (upd fz_ (Int32.toNatClampNeg 0) (fz_ 4)) (Int32.toNatClampNeg 4) (fz_ 0)) (Int32.toNatClampNeg 1) (fz_ 5)) (Int32.toNatClampNeg 5) (fz_ 1))))] H := hP
                                have hD : va_D A [(mo, .inr (12, [.ref nw, .ref kp, .ref ik, .ref mr, .long la_, .long lb_, .ref mw, .long lc_, .int ti_, .int cb_, .long ld_, .long le_, .ref mq, .ref mz, .ref my, .int 6, .ref mb, .int bl_, .int ta_, .int tl_, .int tk_, .int vl_, .ref mx, .ref mv])), (mz, .inl (cz_, 6, .inl (upd (upd (upd (upd fz_ (Int32.toNatClampNeg 0) (fz_ 4)) (Int32.toNatClampNeg 4) (fz_ 0)) (Int32.toNatClampNeg 1) (fz_ 5)) (Int32.toNatClampNeg 5) (fz_ 1))))] := hD
                                refine lv_iinc (v := 2) (lv' := [(4, .int 2), (6, .int (fz_ 1)), (5, .int 5), (3, .int (fz_ 0)), (2, .int 4), (1, .int 0), (0, .ref mo)]) hx hb dX12_nextOrder_146 hl (k := 2) rfl (by decide) (by decide) rfl (fun ls hl => ?_)
                                refine lv_iinc (v := 4) (lv' := [(5, .int 4), (4, .int 2), (6, .int (fz_ 1)), (3, .int (fz_ 0)), (2, .int 4), (1, .int 0), (0, .ref mo)]) hx hb dX12_nextOrder_149 hl (k := 2) rfl (by decide) (by decide) rfl (fun ls hl => ?_)
                                refine lv_goto (tgt := 107) hx hb dX12_nextOrder_152 (by decide) ?_
                                refine lv_iload hx hb dX12_nextOrder_107 (lv_at hl 1 rfl) ?_
                                refine lv_iload hx hb dX12_nextOrder_109 (lv_at hl 0 rfl) ?_
                                refine lv_icmp_ge (tgt := 155) hx hb dX12_nextOrder_111 (by decide) (fun c_568 => ?_) (fun c_568 => ?_)
                                · exact absurd c_568 (by decide)
                                · refine lv_aload_n hx hb dX12_nextOrder_114 rfl (lv_at hl 6 rfl) ?_
                                  refine va_get (D := (dC, dI)) (ci := 12) (v := .ref mz) (C := RX12) (T := TX12) (N := 24) hx hb hts iw_m_nextOrder_X12 hown hK hP 0 rfl rfl 13 (by decide) (hts (.fieldLink RX12 34 "ThriceCountedModel" "order" "[I") (by decide +kernel)) (fun _ h9 => h9) rfl dX12_nextOrder_115 ?_
                                  refine lv_iload hx hb dX12_nextOrder_118 (lv_at hl 1 rfl) ?_
                                  refine va_iald hx hb hK hP 1 0 rfl rfl (show ¬ ((2 : Int32) < 0 ∨ 6 ≤ (2 : Int32).toNatClampNeg) by decide) dX12_nextOrder_120 ?_
                                  refine tz_i (fz_ 2) rfl ?_
                                  refine lv_istore (lv' := [(6, .int (fz_ 2)), (5, .int 4), (4, .int 2), (3, .int (fz_ 0)), (2, .int 4), (1, .int 0), (0, .ref mo)]) hx hb dX12_nextOrder_121 hl (by decide) rfl (fun ls hl => ?_)
                                  refine lv_aload_n hx hb dX12_nextOrder_123 rfl (lv_at hl 6 rfl) ?_
                                  refine va_get (D := (dC, dI)) (ci := 12) (v := .ref mz) (C := RX12) (T := TX12) (N := 24) hx hb hts iw_m_nextOrder_X12 hown hK hP 0 rfl rfl 13 (by decide) (hts (.fieldLink RX12 34 "ThriceCountedModel" "order" "[I") (by decide +kernel)) (fun _ h9 => h9) rfl dX12_nextOrder_124 ?_
                                  refine lv_iload hx hb dX12_nextOrder_127 (lv_at hl 2 rfl) ?_
                                  refine lv_aload_n hx hb dX12_nextOrder_129 rfl (lv_at hl 6 rfl) ?_
                                  refine va_get (D := (dC, dI)) (ci := 12) (v := .ref mz) (C := RX12) (T := TX12) (N := 24) hx hb hts iw_m_nextOrder_X12 hown hK hP 0 rfl rfl 13 (by decide) (hts (.fieldLink RX12 34 "ThriceCountedModel" "order" "[I") (by decide +kernel)) (fun _ h9 => h9) rfl dX12_nextOrder_130 ?_
                                  refine lv_iload hx hb dX12_nextOrder_133 (lv_at hl 1 rfl) ?_
                                  refine va_iald hx hb hK hP 1 0 rfl rfl (show ¬ ((4 : Int32) < 0 ∨ 6 ≤ (4 : Int32).toNatClampNeg) by decide) dX12_nextOrder_135 ?_
                                  refine tz_i (fz_ 0) rfl ?_
                                  refine va_iast hx hb hK hP hD hS 1 0 rfl rfl (show ¬ ((2 : Int32) < 0 ∨ 6 ≤ (2 : Int32).toNatClampNeg) by decide) dX12_nextOrder_136 (fun H locs hP hD hS => ?_)
                                  have hP : va_P (dC, dI) vwCl [(mo, .inr (12, [.ref nw, .ref kp, .ref ik, .ref mr, .long la_, .long lb_, .ref mw, .long lc_, .int ti_, .int cb_, .long ld_, .long le_, .ref mq, .ref mz, .ref my, .int 6, .ref mb, .int bl_, .int ta_, .int tl_, .int tk_, .int vl_, .ref mx, .ref mv])), (mz, .inl (cz_, 6, .inl (upd (upd (upd (upd (upd fz_ (Int32.toNatClampNeg 0) (fz_ 4)) (Int32.toNatClampNeg 4) (fz_ 0)) (Int32.toNatClampNeg 1) (fz_ 5)) (Int32.toNatClampNeg 5) (fz_ 1)) (Int32.toNatClampNeg 2) (fz_ 0))))] H := hP
                                  have hD : va_D A [(mo, .inr (12, [.ref nw, .ref kp, .ref ik, .ref mr, .long la_, .long lb_, .ref mw, .long lc_, .int ti_, .int cb_, .long ld_, .long le_, .ref mq, .ref mz, .ref my, .int 6, .ref mb, .int bl_, .int ta_, .int tl_, .int tk_, .int vl_, .ref mx, .ref mv])), (mz, .inl (cz_, 6, .inl (upd (upd (upd (upd (upd fz_ (Int32.toNatClampNeg 0) (fz_ 4)) (Int32.toNatClampNeg 4) (fz_ 0)) (Int32.toNatClampNeg 1) (fz_ 5)) (Int32.toNatClampNeg 5) (fz_ 1)) (Int32.toNatClampNeg 2) (fz_ 0))))] := hD
                                  refine lv_aload_n hx hb dX12_nextOrder_137 rfl (lv_at hl 6 rfl) ?_
                                  refine va_get (D := (dC, dI)) (ci := 12) (v := .ref mz) (C := RX12) (T := TX12) (N := 24) hx hb hts iw_m_nextOrder_X12 hown hK hP 0 rfl rfl 13 (by decide) (hts (.fieldLink RX12 34 "ThriceCountedModel" "order" "[I") (by decide +kernel)) (fun _ h9 => h9) rfl dX12_nextOrder_138 ?_
                                  refine lv_iload hx hb dX12_nextOrder_141 (lv_at hl 1 rfl) ?_
                                  refine lv_iload hx hb dX12_nextOrder_143 (lv_at hl 0 rfl) ?_
                                  refine va_iast hx hb hK hP hD hS 1 0 rfl rfl (show ¬ ((4 : Int32) < 0 ∨ 6 ≤ (4 : Int32).toNatClampNeg) by decide) dX12_nextOrder_145 (fun H locs hP hD hS => ?_)
                                  have hP : va_P (dC, dI) vwCl [(mo, .inr (12, [.ref nw, .ref kp, .ref ik, .ref mr, .long la_, .long lb_, .ref mw, .long lc_, .int ti_, .int cb_, .long ld_, .long le_, .ref mq, .ref mz, .ref my, .int 6, .ref mb, .int bl_, .int ta_, .int tl_, .int tk_, .int vl_, .ref mx, .ref mv])), (mz, .inl (cz_, 6, .inl (upd (upd (upd (upd (upd (upd fz_ (Int32.toNatClampNeg 0) (fz_ 4)) (Int32.toNatClampNeg 4) (fz_ 0)) (Int32.toNatClampNeg 1) (fz_ 5)) (Int32.toNatClampNeg 5) (fz_ 1)) (Int32.toNatClampNeg 2) (fz_ 0)) (Int32.toNatClampNeg 4) (fz_ 2))))] H := hP
                                  have hD : va_D A [(mo, .inr (12, [.ref nw, .ref kp, .ref ik, .ref mr, .long la_, .long lb_, .ref mw, .long lc_, .int ti_, .int cb_, .long ld_, .long le_, .ref mq, .ref mz, .ref my, .int 6, .ref mb, .int bl_, .int ta_, .int tl_, .int tk_, .int vl_, .ref mx, .ref mv])), (mz, .inl (cz_, 6, .inl (upd (upd (upd (upd (upd (upd fz_ (Int32.toNatClampNeg 0) (fz_ 4)) (Int32.toNatClampNeg 4) (fz_ 0)) (Int32.toNatClampNeg 1) (fz_ 5)) (Int32.toNatClampNeg 5) (fz_ 1)) (Int32.toNatClampNeg 2) (fz_ 0)) (Int32.toNatClampNeg 4) (fz_ 2))))] := hD
                                  refine lv_iinc (v := 3) (lv' := [(4, .int 3), (6, .int (fz_ 2)), (5, .int 4), (3, .int (fz_ 0)), (2, .int 4), (1, .int 0), (0, .ref mo)]) hx hb dX12_nextOrder_146 hl (k := 2) rfl (by decide) (by decide) rfl (fun ls hl => ?_)
                                  refine lv_iinc (v := 3) (lv' := [(5, .int 3), (4, .int 3), (6, .int (fz_ 2)), (3, .int (fz_ 0)), (2, .int 4), (1, .int 0), (0, .ref mo)]) hx hb dX12_nextOrder_149 hl (k := 2) rfl (by decide) (by decide) rfl (fun ls hl => ?_)
                                  refine lv_goto (tgt := 107) hx hb dX12_nextOrder_152 (by decide) ?_
                                  refine lv_iload hx hb dX12_nextOrder_107 (lv_at hl 1 rfl) ?_
                                  refine lv_iload hx hb dX12_nextOrder_109 (lv_at hl 0 rfl) ?_
                                  refine lv_icmp_ge (tgt := 155) hx hb dX12_nextOrder_111 (by decide) (fun c_571 => ?_) (fun c_571 => ?_)
                                  · refine lv_iconst (v := 1) hx hb dX12_nextOrder_155 (by decide) ?_
                                    have hP9 := hP.sub (ws' := [(mo, .inr (12, [.ref nw, .ref kp, .ref ik, .ref mr, .long la_, .long lb_, .ref mw, .long lc_, .int ti_, .int cb_, .long ld_, .long le_, .ref mq, .ref mz, .ref my, .int (nI 6), .ref mb, .int bl_, .int ta_, .int tl_, .int tk_, .int vl_, .ref mx, .ref mv])), (mz, .inl (cz_, 6, .inl (upd (upd (upd (upd (upd (upd fz_ (Int32.toNatClampNeg 0) (fz_ 4)) (Int32.toNatClampNeg 4) (fz_ 0)) (Int32.toNatClampNeg 1) (fz_ 5)) (Int32.toNatClampNeg 5) (fz_ 1)) (Int32.toNatClampNeg 2) (fz_ 0)) (Int32.toNatClampNeg 4) (fz_ 2))))]) [0, 1] rfl
                                    have hD9 := hD.sub (ws' := [(mo, .inr (12, [.ref nw, .ref kp, .ref ik, .ref mr, .long la_, .long lb_, .ref mw, .long lc_, .int ti_, .int cb_, .long ld_, .long le_, .ref mq, .ref mz, .ref my, .int (nI 6), .ref mb, .int bl_, .int ta_, .int tl_, .int tk_, .int vl_, .ref mx, .ref mv])), (mz, .inl (cz_, 6, .inl (upd (upd (upd (upd (upd (upd fz_ (Int32.toNatClampNeg 0) (fz_ 4)) (Int32.toNatClampNeg 4) (fz_ 0)) (Int32.toNatClampNeg 1) (fz_ 5)) (Int32.toNatClampNeg 5) (fz_ 1)) (Int32.toNatClampNeg 2) (fz_ 0)) (Int32.toNatClampNeg 4) (fz_ 2))))]) [0, 1] (by decide) rfl
                                    have hK9 := hK.sub (tys' := [(cz_, .int)]) [0] rfl
                                    have hlt_572 : (fz_ 0).toInt < (fz_ 4).toInt := tz_ltt2 c_562 (hdi.2 0 4 (by omega) (by omega))
                                    have hb_573 := hdi.1 0 (by omega)
                                    have hb_574 := hdi.1 1 (by omega)
                                    have hb_575 := hdi.1 2 (by omega)
                                    have hb_576 := hdi.1 3 (by omega)
                                    have hb_577 := hdi.1 4 (by omega)
                                    have hb_578 := hdi.1 5 (by omega)
                                    have ev_579 : tz_val 6 fz_ = 7776 * (fz_ 0).toInt + 1296 * (fz_ 1).toInt + 216 * (fz_ 2).toInt + 36 * (fz_ 3).toInt + 6 * (fz_ 4).toInt + (fz_ 5).toInt := rfl
                                    have eg_580 : tz_val 6 (upd (upd (upd (upd (upd (upd fz_ (Int32.toNatClampNeg 0) (fz_ 4)) (Int32.toNatClampNeg 4) (fz_ 0)) (Int32.toNatClampNeg 1) (fz_ 5)) (Int32.toNatClampNeg 5) (fz_ 1)) (Int32.toNatClampNeg 2) (fz_ 0)) (Int32.toNatClampNeg 4) (fz_ 2)) = 7776 * (fz_ 4).toInt + 1296 * (fz_ 5).toInt + 216 * (fz_ 0).toInt + 36 * (fz_ 3).toInt + 6 * (fz_ 2).toInt + (fz_ 1).toInt := rfl
                                    have hp_581 : tz_Di 6 (upd (upd (upd (upd (upd (upd fz_ (Int32.toNatClampNeg 0) (fz_ 4)) (Int32.toNatClampNeg 4) (fz_ 0)) (Int32.toNatClampNeg 1) (fz_ 5)) (Int32.toNatClampNeg 5) (fz_ 1)) (Int32.toNatClampNeg 2) (fz_ 0)) (Int32.toNatClampNeg 4) (fz_ 2)) := hdi.perm (fun a => ([4, 5, 0, 3, 2, 1] : List Nat).getD a 0) (fun a ha => by
                                      rcases (show a = 0 ∨ a = 1 ∨ a = 2 ∨ a = 3 ∨ a = 4 ∨ a = 5 by omega) with rfl | rfl | rfl | rfl | rfl | rfl <;> exact ⟨by decide, rfl⟩) (by decide)
                                    exact W.zret (v := 1) hx hb hr (by decide) (fun t ht hW => ⟨⟨1, (), rfl, Or.inr ⟨rfl, 0, by omega, tz_nle_of c_540⟩, (upd (upd (upd (upd (upd (upd fz_ (Int32.toNatClampNeg 0) (fz_ 4)) (Int32.toNatClampNeg 4) (fz_ 0)) (Int32.toNatClampNeg 1) (fz_ 5)) (Int32.toNatClampNeg 5) (fz_ 1)) (Int32.toNatClampNeg 2) (fz_ 0)) (Int32.toNatClampNeg 4) (fz_ 2)), hp_581, by rw [ev_579, eg_580]; omega, fun _ => by rw [ev_579, eg_580]; omega, by rw [ht]; exact hP9, va_K.moved hW.alike hK9, hD9⟩, hS.F ht⟩) hS.2.2 dX12_nextOrder_156
                                  · exact absurd c_571 (by decide)
                            · refine lv_iinc (v := 3) (lv' := [(2, .int 3), (1, .int 0), (0, .ref mo)]) hx hb dX12_nextOrder_62 hl (k := 0) rfl (by decide) (by decide) rfl (fun ls hl => ?_)
                              refine lv_goto (tgt := 47) hx hb dX12_nextOrder_65 (by decide) ?_
                              refine lv_aload_n hx hb dX12_nextOrder_47 rfl (lv_at hl 2 rfl) ?_
                              refine va_get (D := (dC, dI)) (ci := 12) (v := .ref mz) (C := RX12) (T := TX12) (N := 24) hx hb hts iw_m_nextOrder_X12 hown hK hP 0 rfl rfl 13 (by decide) (hts (.fieldLink RX12 34 "ThriceCountedModel" "order" "[I") (by decide +kernel)) (fun _ h9 => h9) rfl dX12_nextOrder_48 ?_
                              refine lv_iload_n hx hb dX12_nextOrder_51 rfl (lv_at hl 0 rfl) ?_
                              refine va_iald hx hb hK hP 1 0 rfl rfl (show ¬ ((3 : Int32) < 0 ∨ 6 ≤ (3 : Int32).toNatClampNeg) by decide) dX12_nextOrder_52 ?_
                              refine tz_i (fz_ 3) rfl ?_
                              refine lv_aload_n hx hb dX12_nextOrder_53 rfl (lv_at hl 2 rfl) ?_
                              refine va_get (D := (dC, dI)) (ci := 12) (v := .ref mz) (C := RX12) (T := TX12) (N := 24) hx hb hts iw_m_nextOrder_X12 hown hK hP 0 rfl rfl 13 (by decide) (hts (.fieldLink RX12 34 "ThriceCountedModel" "order" "[I") (by decide +kernel)) (fun _ h9 => h9) rfl dX12_nextOrder_54 ?_
                              refine lv_iload_n hx hb dX12_nextOrder_57 rfl (lv_at hl 1 rfl) ?_
                              refine va_iald hx hb hK hP 1 0 rfl rfl (show ¬ ((0 : Int32) < 0 ∨ 6 ≤ (0 : Int32).toNatClampNeg) by decide) dX12_nextOrder_58 ?_
                              refine tz_i (fz_ 0) rfl ?_
                              refine lv_icmp_ge (tgt := 68) hx hb dX12_nextOrder_59 (by decide) (fun c_582 => ?_) (fun c_582 => ?_)
                              · refine lv_aload_n hx hb dX12_nextOrder_68 rfl (lv_at hl 2 rfl) ?_
                                refine va_get (D := (dC, dI)) (ci := 12) (v := .ref mz) (C := RX12) (T := TX12) (N := 24) hx hb hts iw_m_nextOrder_X12 hown hK hP 0 rfl rfl 13 (by decide) (hts (.fieldLink RX12 34 "ThriceCountedModel" "order" "[I") (by decide +kernel)) (fun _ h9 => h9) rfl dX12_nextOrder_69 ?_
                                refine lv_iload_n hx hb dX12_nextOrder_72 rfl (lv_at hl 1 rfl) ?_
                                refine va_iald hx hb hK hP 1 0 rfl rfl (show ¬ ((0 : Int32) < 0 ∨ 6 ≤ (0 : Int32).toNatClampNeg) by decide) dX12_nextOrder_73 ?_
                                refine tz_i (fz_ 0) rfl ?_
                                refine lv_istore_n (lv' := [(3, .int (fz_ 0)), (2, .int 3), (1, .int 0), (0, .ref mo)]) hx hb dX12_nextOrder_74 rfl hl (by decide) rfl (fun ls hl => ?_)
                                refine lv_aload_n hx hb dX12_nextOrder_75 rfl (lv_at hl 3 rfl) ?_
                                refine va_get (D := (dC, dI)) (ci := 12) (v := .ref mz) (C := RX12) (T := TX12) (N := 24) hx hb hts iw_m_nextOrder_X12 hown hK hP 0 rfl rfl 13 (by decide) (hts (.fieldLink RX12 34 "ThriceCountedModel" "order" "[I") (by decide +kernel)) (fun _ h9 => h9) rfl dX12_nextOrder_76 ?_
                                refine lv_iload_n hx hb dX12_nextOrder_79 rfl (lv_at hl 2 rfl) ?_
                                refine lv_aload_n hx hb dX12_nextOrder_80 rfl (lv_at hl 3 rfl) ?_
                                refine va_get (D := (dC, dI)) (ci := 12) (v := .ref mz) (C := RX12) (T := TX12) (N := 24) hx hb hts iw_m_nextOrder_X12 hown hK hP 0 rfl rfl 13 (by decide) (hts (.fieldLink RX12 34 "ThriceCountedModel" "order" "[I") (by decide +kernel)) (fun _ h9 => h9) rfl dX12_nextOrder_81 ?_
                                refine lv_iload_n hx hb dX12_nextOrder_84 rfl (lv_at hl 1 rfl) ?_
                                refine va_iald hx hb hK hP 1 0 rfl rfl (show ¬ ((3 : Int32) < 0 ∨ 6 ≤ (3 : Int32).toNatClampNeg) by decide) dX12_nextOrder_85 ?_
                                refine tz_i (fz_ 3) rfl ?_
                                refine va_iast hx hb hK hP hD hS 1 0 rfl rfl (show ¬ ((0 : Int32) < 0 ∨ 6 ≤ (0 : Int32).toNatClampNeg) by decide) dX12_nextOrder_86 (fun H locs hP hD hS => ?_)
                                have hP : va_P (dC, dI) vwCl [(mo, .inr (12, [.ref nw, .ref kp, .ref ik, .ref mr, .long la_, .long lb_, .ref mw, .long lc_, .int ti_, .int cb_, .long ld_, .long le_, .ref mq, .ref mz, .ref my, .int 6, .ref mb, .int bl_, .int ta_, .int tl_, .int tk_, .int vl_, .ref mx, .ref mv])), (mz, .inl (cz_, 6, .inl (upd fz_ (Int32.toNatClampNeg 0) (fz_ 3))))] H := hP
                                have hD : va_D A [(mo, .inr (12, [.ref nw, .ref kp, .ref ik, .ref mr, .long la_, .long lb_, .ref mw, .long lc_, .int ti_, .int cb_, .long ld_, .long le_, .ref mq, .ref mz, .ref my, .int 6, .ref mb, .int bl_, .int ta_, .int tl_, .int tk_, .int vl_, .ref mx, .ref mv])), (mz, .inl (cz_, 6, .inl (upd fz_ (Int32.toNatClampNeg 0) (fz_ 3))))] := hD
                                refine lv_aload_n hx hb dX12_nextOrder_87 rfl (lv_at hl 3 rfl) ?_
                                refine va_get (D := (dC, dI)) (ci := 12) (v := .ref mz) (C := RX12) (T := TX12) (N := 24) hx hb hts iw_m_nextOrder_X12 hown hK hP 0 rfl rfl 13 (by decide) (hts (.fieldLink RX12 34 "ThriceCountedModel" "order" "[I") (by decide +kernel)) (fun _ h9 => h9) rfl dX12_nextOrder_88 ?_
                                refine lv_iload_n hx hb dX12_nextOrder_91 rfl (lv_at hl 1 rfl) ?_
                                refine lv_iload_n hx hb dX12_nextOrder_92 rfl (lv_at hl 0 rfl) ?_
                                refine va_iast hx hb hK hP hD hS 1 0 rfl rfl (show ¬ ((3 : Int32) < 0 ∨ 6 ≤ (3 : Int32).toNatClampNeg) by decide) dX12_nextOrder_93 (fun H locs hP hD hS => ?_)
                                have hP : va_P (dC, dI) vwCl [(mo, .inr (12, [.ref nw, .ref kp, .ref ik, .ref mr, .long la_, .long lb_, .ref mw, .long lc_, .int ti_, .int cb_, .long ld_, .long le_, .ref mq, .ref mz, .ref my, .int 6, .ref mb, .int bl_, .int ta_, .int tl_, .int tk_, .int vl_, .ref mx, .ref mv])), (mz, .inl (cz_, 6, .inl (upd (upd fz_ (Int32.toNatClampNeg 0) (fz_ 3)) (Int32.toNatClampNeg 3) (fz_ 0))))] H := hP
                                have hD : va_D A [(mo, .inr (12, [.ref nw, .ref kp, .ref ik, .ref mr, .long la_, .long lb_, .ref mw, .long lc_, .int ti_, .int cb_, .long ld_, .long le_, .ref mq, .ref mz, .ref my, .int 6, .ref mb, .int bl_, .int ta_, .int tl_, .int tk_, .int vl_, .ref mx, .ref mv])), (mz, .inl (cz_, 6, .inl (upd (upd fz_ (Int32.toNatClampNeg 0) (fz_ 3)) (Int32.toNatClampNeg 3) (fz_ 0))))] := hD
                                refine lv_iload_n hx hb dX12_nextOrder_94 rfl (lv_at hl 2 rfl) ?_
                                refine lv_iconst (v := 1) hx hb dX12_nextOrder_95 (by decide) ?_
                                refine lv_iadd hx hb dX12_nextOrder_96 ?_
                                refine tz_i 1 (by decide) ?_
                                refine lv_istore (lv' := [(4, .int 1), (3, .int (fz_ 0)), (2, .int 3), (1, .int 0), (0, .ref mo)]) hx hb dX12_nextOrder_97 hl (by decide) rfl (fun ls hl => ?_)
                                refine lv_aload_n hx hb dX12_nextOrder_99 rfl (lv_at hl 4 rfl) ?_
                                refine va_get (D := (dC, dI)) (ci := 12) (v := .int 6) (C := RX12) (T := TX12) (N := 24) hx hb hts iw_m_nextOrder_X12 hown hK hP 0 rfl rfl 15 (by decide) (hts (.fieldLink RX12 218 "ThriceCountedModel" "soughtMany" "I") (by decide +kernel)) (fun _ h9 => h9) rfl dX12_nextOrder_100 ?_
                                refine lv_iconst (v := 1) hx hb dX12_nextOrder_103 (by decide) ?_
                                refine lv_isub hx hb dX12_nextOrder_104 ?_
                                refine tz_i 5 (by decide) ?_
                                refine lv_istore (lv' := [(5, .int 5), (4, .int 1), (3, .int (fz_ 0)), (2, .int 3), (1, .int 0), (0, .ref mo)]) hx hb dX12_nextOrder_105 hl (by decide) rfl (fun ls hl => ?_)
                                refine lv_iload hx hb dX12_nextOrder_107 (lv_at hl 1 rfl) ?_
                                refine lv_iload hx hb dX12_nextOrder_109 (lv_at hl 0 rfl) ?_
                                refine lv_icmp_ge (tgt := 155) hx hb dX12_nextOrder_111 (by decide) (fun c_585 => ?_) (fun c_585 => ?_)
                                · exact absurd c_585 (by decide)
                                · refine lv_aload_n hx hb dX12_nextOrder_114 rfl (lv_at hl 5 rfl) ?_
                                  refine va_get (D := (dC, dI)) (ci := 12) (v := .ref mz) (C := RX12) (T := TX12) (N := 24) hx hb hts iw_m_nextOrder_X12 hown hK hP 0 rfl rfl 13 (by decide) (hts (.fieldLink RX12 34 "ThriceCountedModel" "order" "[I") (by decide +kernel)) (fun _ h9 => h9) rfl dX12_nextOrder_115 ?_
                                  refine lv_iload hx hb dX12_nextOrder_118 (lv_at hl 1 rfl) ?_
                                  refine va_iald hx hb hK hP 1 0 rfl rfl (show ¬ ((1 : Int32) < 0 ∨ 6 ≤ (1 : Int32).toNatClampNeg) by decide) dX12_nextOrder_120 ?_
                                  refine tz_i (fz_ 1) rfl ?_
                                  refine lv_istore (lv' := [(6, .int (fz_ 1)), (5, .int 5), (4, .int 1), (3, .int (fz_ 0)), (2, .int 3), (1, .int 0), (0, .ref mo)]) hx hb dX12_nextOrder_121 hl (by decide) rfl (fun ls hl => ?_)
                                  refine lv_aload_n hx hb dX12_nextOrder_123 rfl (lv_at hl 6 rfl) ?_
                                  refine va_get (D := (dC, dI)) (ci := 12) (v := .ref mz) (C := RX12) (T := TX12) (N := 24) hx hb hts iw_m_nextOrder_X12 hown hK hP 0 rfl rfl 13 (by decide) (hts (.fieldLink RX12 34 "ThriceCountedModel" "order" "[I") (by decide +kernel)) (fun _ h9 => h9) rfl dX12_nextOrder_124 ?_
                                  refine lv_iload hx hb dX12_nextOrder_127 (lv_at hl 2 rfl) ?_
                                  refine lv_aload_n hx hb dX12_nextOrder_129 rfl (lv_at hl 6 rfl) ?_
                                  refine va_get (D := (dC, dI)) (ci := 12) (v := .ref mz) (C := RX12) (T := TX12) (N := 24) hx hb hts iw_m_nextOrder_X12 hown hK hP 0 rfl rfl 13 (by decide) (hts (.fieldLink RX12 34 "ThriceCountedModel" "order" "[I") (by decide +kernel)) (fun _ h9 => h9) rfl dX12_nextOrder_130 ?_
                                  refine lv_iload hx hb dX12_nextOrder_133 (lv_at hl 1 rfl) ?_
                                  refine va_iald hx hb hK hP 1 0 rfl rfl (show ¬ ((5 : Int32) < 0 ∨ 6 ≤ (5 : Int32).toNatClampNeg) by decide) dX12_nextOrder_135 ?_
                                  refine tz_i (fz_ 5) rfl ?_
                                  refine va_iast hx hb hK hP hD hS 1 0 rfl rfl (show ¬ ((1 : Int32) < 0 ∨ 6 ≤ (1 : Int32).toNatClampNeg) by decide) dX12_nextOrder_136 (fun H locs hP hD hS => ?_)
                                  have hP : va_P (dC, dI) vwCl [(mo, .inr (12, [.ref nw, .ref kp, .ref ik, .ref mr, .long la_, .long lb_, .ref mw, .long lc_, .int ti_, .int cb_, .long ld_, .long le_, .ref mq, .ref mz, .ref my, .int 6, .ref mb, .int bl_, .int ta_, .int tl_, .int tk_, .int vl_, .ref mx, .ref mv])), (mz, .inl (cz_, 6, .inl (upd (upd (upd fz_ (Int32.toNatClampNeg 0) (fz_ 3)) (Int32.toNatClampNeg 3) (fz_ 0)) (Int32.toNatClampNeg 1) (fz_ 5))))] H := hP
                                  have hD : va_D A [(mo, .inr (12, [.ref nw, .ref kp, .ref ik, .ref mr, .long la_, .long lb_, .ref mw, .long lc_, .int ti_, .int cb_, .long ld_, .long le_, .ref mq, .ref mz, .ref my, .int 6, .ref mb, .int bl_, .int ta_, .int tl_, .int tk_, .int vl_, .ref mx, .ref mv])), (mz, .inl (cz_, 6, .inl (upd (upd (upd fz_ (Int32.toNatClampNeg 0) (fz_ 3)) (Int32.toNatClampNeg 3) (fz_ 0)) (Int32.toNatClampNeg 1) (fz_ 5))))] := hD
                                  refine lv_aload_n hx hb dX12_nextOrder_137 rfl (lv_at hl 6 rfl) ?_
                                  refine va_get (D := (dC, dI)) (ci := 12) (v := .ref mz) (C := RX12) (T := TX12) (N := 24) hx hb hts iw_m_nextOrder_X12 hown hK hP 0 rfl rfl 13 (by decide) (hts (.fieldLink RX12 34 "ThriceCountedModel" "order" "[I") (by decide +kernel)) (fun _ h9 => h9) rfl dX12_nextOrder_138 ?_
                                  refine lv_iload hx hb dX12_nextOrder_141 (lv_at hl 1 rfl) ?_
                                  refine lv_iload hx hb dX12_nextOrder_143 (lv_at hl 0 rfl) ?_
                                  refine va_iast hx hb hK hP hD hS 1 0 rfl rfl (show ¬ ((5 : Int32) < 0 ∨ 6 ≤ (5 : Int32).toNatClampNeg) by decide) dX12_nextOrder_145 (fun H locs hP hD hS => ?_)
                                  have hP : va_P (dC, dI) vwCl [(mo, .inr (12, [.ref nw, .ref kp, .ref ik, .ref mr, .long la_, .long lb_, .ref mw, .long lc_, .int ti_, .int cb_, .long ld_, .long le_, .ref mq, .ref mz, .ref my, .int 6, .ref mb, .int bl_, .int ta_, .int tl_, .int tk_, .int vl_, .ref mx, .ref mv])), (mz, .inl (cz_, 6, .inl (upd (upd (upd (upd fz_ (Int32.toNatClampNeg 0) (fz_ 3)) (Int32.toNatClampNeg 3) (fz_ 0)) (Int32.toNatClampNeg 1) (fz_ 5)) (Int32.toNatClampNeg 5) (fz_ 1))))] H := hP
                                  have hD : va_D A [(mo, .inr (12, [.ref nw, .ref kp, .ref ik, .ref mr, .long la_, .long lb_, .ref mw, .long lc_, .int ti_, .int cb_, .long ld_, .long le_, .ref mq, .ref mz, .ref my, .int 6, .ref mb, .int bl_, .int ta_, .int tl_, .int tk_, .int vl_, .ref mx, .ref mv])), (mz, .inl (cz_, 6, .inl (upd (upd (upd (upd fz_ (Int32.toNatClampNeg 0) (fz_ 3)) (Int32.toNatClampNeg 3) (fz_ 0)) (Int32.toNatClampNeg 1) (fz_ 5)) (Int32.toNatClampNeg 5) (fz_ 1))))] := hD
                                  refine lv_iinc (v := 2) (lv' := [(4, .int 2), (6, .int (fz_ 1)), (5, .int 5), (3, .int (fz_ 0)), (2, .int 3), (1, .int 0), (0, .ref mo)]) hx hb dX12_nextOrder_146 hl (k := 2) rfl (by decide) (by decide) rfl (fun ls hl => ?_)
                                  refine lv_iinc (v := 4) (lv' := [(5, .int 4), (4, .int 2), (6, .int (fz_ 1)), (3, .int (fz_ 0)), (2, .int 3), (1, .int 0), (0, .ref mo)]) hx hb dX12_nextOrder_149 hl (k := 2) rfl (by decide) (by decide) rfl (fun ls hl => ?_)
                                  refine lv_goto (tgt := 107) hx hb dX12_nextOrder_152 (by decide) ?_
                                  refine lv_iload hx hb dX12_nextOrder_107 (lv_at hl 1 rfl) ?_
                                  refine lv_iload hx hb dX12_nextOrder_109 (lv_at hl 0 rfl) ?_
                                  refine lv_icmp_ge (tgt := 155) hx hb dX12_nextOrder_111 (by decide) (fun c_588 => ?_) (fun c_588 => ?_)
                                  · exact absurd c_588 (by decide)
                                  · refine lv_aload_n hx hb dX12_nextOrder_114 rfl (lv_at hl 6 rfl) ?_
                                    refine va_get (D := (dC, dI)) (ci := 12) (v := .ref mz) (C := RX12) (T := TX12) (N := 24) hx hb hts iw_m_nextOrder_X12 hown hK hP 0 rfl rfl 13 (by decide) (hts (.fieldLink RX12 34 "ThriceCountedModel" "order" "[I") (by decide +kernel)) (fun _ h9 => h9) rfl dX12_nextOrder_115 ?_
                                    refine lv_iload hx hb dX12_nextOrder_118 (lv_at hl 1 rfl) ?_
                                    refine va_iald hx hb hK hP 1 0 rfl rfl (show ¬ ((2 : Int32) < 0 ∨ 6 ≤ (2 : Int32).toNatClampNeg) by decide) dX12_nextOrder_120 ?_
                                    refine tz_i (fz_ 2) rfl ?_
                                    refine lv_istore (lv' := [(6, .int (fz_ 2)), (5, .int 4), (4, .int 2), (3, .int (fz_ 0)), (2, .int 3), (1, .int 0), (0, .ref mo)]) hx hb dX12_nextOrder_121 hl (by decide) rfl (fun ls hl => ?_)
                                    refine lv_aload_n hx hb dX12_nextOrder_123 rfl (lv_at hl 6 rfl) ?_
                                    refine va_get (D := (dC, dI)) (ci := 12) (v := .ref mz) (C := RX12) (T := TX12) (N := 24) hx hb hts iw_m_nextOrder_X12 hown hK hP 0 rfl rfl 13 (by decide) (hts (.fieldLink RX12 34 "ThriceCountedModel" "order" "[I") (by decide +kernel)) (fun _ h9 => h9) rfl dX12_nextOrder_124 ?_
                                    refine lv_iload hx hb dX12_nextOrder_127 (lv_at hl 2 rfl) ?_
                                    refine lv_aload_n hx hb dX12_nextOrder_129 rfl (lv_at hl 6 rfl) ?_
                                    refine va_get (D := (dC, dI)) (ci := 12) (v := .ref mz) (C := RX12) (T := TX12) (N := 24) hx hb hts iw_m_nextOrder_X12 hown hK hP 0 rfl rfl 13 (by decide) (hts (.fieldLink RX12 34 "ThriceCountedModel" "order" "[I") (by decide +kernel)) (fun _ h9 => h9) rfl dX12_nextOrder_130 ?_
                                    refine lv_iload hx hb dX12_nextOrder_133 (lv_at hl 1 rfl) ?_
                                    refine va_iald hx hb hK hP 1 0 rfl rfl (show ¬ ((4 : Int32) < 0 ∨ 6 ≤ (4 : Int32).toNatClampNeg) by decide) dX12_nextOrder_135 ?_
                                    refine tz_i (fz_ 4) rfl ?_
                                    refine va_iast hx hb hK hP hD hS 1 0 rfl rfl (show ¬ ((2 : Int32) < 0 ∨ 6 ≤ (2 : Int32).toNatClampNeg) by decide) dX12_nextOrder_136 (fun H locs hP hD hS => ?_)
                                    have hP : va_P (dC, dI) vwCl [(mo, .inr (12, [.ref nw, .ref kp, .ref ik, .ref mr, .long la_, .long lb_, .ref mw, .long lc_, .int ti_, .int cb_, .long ld_, .long le_, .ref mq, .ref mz, .ref my, .int 6, .ref mb, .int bl_, .int ta_, .int tl_, .int tk_, .int vl_, .ref mx, .ref mv])), (mz, .inl (cz_, 6, .inl (upd (upd (upd (upd (upd fz_ (Int32.toNatClampNeg 0) (fz_ 3)) (Int32.toNatClampNeg 3) (fz_ 0)) (Int32.toNatClampNeg 1) (fz_ 5)) (Int32.toNatClampNeg 5) (fz_ 1)) (Int32.toNatClampNeg 2) (fz_ 4))))] H := hP
                                    have hD : va_D A [(mo, .inr (12, [.ref nw, .ref kp, .ref ik, .ref mr, .long la_, .long lb_, .ref mw, .long lc_, .int ti_, .int cb_, .long ld_, .long le_, .ref mq, .ref mz, .ref my, .int 6, .ref mb, .int bl_, .int ta_, .int tl_, .int tk_, .int vl_, .ref mx, .ref mv])), (mz, .inl (cz_, 6, .inl (upd (upd (upd (upd (upd fz_ (Int32.toNatClampNeg 0) (fz_ 3)) (Int32.toNatClampNeg 3) (fz_ 0)) (Int32.toNatClampNeg 1) (fz_ 5)) (Int32.toNatClampNeg 5) (fz_ 1)) (Int32.toNatClampNeg 2) (fz_ 4))))] := hD
                                    refine lv_aload_n hx hb dX12_nextOrder_137 rfl (lv_at hl 6 rfl) ?_
                                    refine va_get (D := (dC, dI)) (ci := 12) (v := .ref mz) (C := RX12) (T := TX12) (N := 24) hx hb hts iw_m_nextOrder_X12 hown hK hP 0 rfl rfl 13 (by decide) (hts (.fieldLink RX12 34 "ThriceCountedModel" "order" "[I") (by decide +kernel)) (fun _ h9 => h9) rfl dX12_nextOrder_138 ?_
                                    refine lv_iload hx hb dX12_nextOrder_141 (lv_at hl 1 rfl) ?_
                                    refine lv_iload hx hb dX12_nextOrder_143 (lv_at hl 0 rfl) ?_
                                    refine va_iast hx hb hK hP hD hS 1 0 rfl rfl (show ¬ ((4 : Int32) < 0 ∨ 6 ≤ (4 : Int32).toNatClampNeg) by decide) dX12_nextOrder_145 (fun H locs hP hD hS => ?_)
                                    have hP : va_P (dC, dI) vwCl [(mo, .inr (12, [.ref nw, .ref kp, .ref ik, .ref mr, .long la_, .long lb_, .ref mw, .long lc_, .int ti_, .int cb_, .long ld_, .long le_, .ref mq, .ref mz, .ref my, .int 6, .ref mb, .int bl_, .int ta_, .int tl_, .int tk_, .int vl_, .ref mx, .ref mv])), (mz, .inl (cz_, 6, .inl (upd (upd (upd (upd (upd (upd fz_ (Int32.toNatClampNeg 0) (fz_ 3)) (Int32.toNatClampNeg 3) (fz_ 0)) (Int32.toNatClampNeg 1) (fz_ 5)) (Int32.toNatClampNeg 5) (fz_ 1)) (Int32.toNatClampNeg 2) (fz_ 4)) (Int32.toNatClampNeg 4) (fz_ 2))))] H := hP
                                    have hD : va_D A [(mo, .inr (12, [.ref nw, .ref kp, .ref ik, .ref mr, .long la_, .long lb_, .ref mw, .long lc_, .int ti_, .int cb_, .long ld_, .long le_, .ref mq, .ref mz, .ref my, .int 6, .ref mb, .int bl_, .int ta_, .int tl_, .int tk_, .int vl_, .ref mx, .ref mv])), (mz, .inl (cz_, 6, .inl (upd (upd (upd (upd (upd (upd fz_ (Int32.toNatClampNeg 0) (fz_ 3)) (Int32.toNatClampNeg 3) (fz_ 0)) (Int32.toNatClampNeg 1) (fz_ 5)) (Int32.toNatClampNeg 5) (fz_ 1)) (Int32.toNatClampNeg 2) (fz_ 4)) (Int32.toNatClampNeg 4) (fz_ 2))))] := hD
                                    refine lv_iinc (v := 3) (lv' := [(4, .int 3), (6, .int (fz_ 2)), (5, .int 4), (3, .int (fz_ 0)), (2, .int 3), (1, .int 0), (0, .ref mo)]) hx hb dX12_nextOrder_146 hl (k := 2) rfl (by decide) (by decide) rfl (fun ls hl => ?_)
                                    refine lv_iinc (v := 3) (lv' := [(5, .int 3), (4, .int 3), (6, .int (fz_ 2)), (3, .int (fz_ 0)), (2, .int 3), (1, .int 0), (0, .ref mo)]) hx hb dX12_nextOrder_149 hl (k := 2) rfl (by decide) (by decide) rfl (fun ls hl => ?_)
                                    refine lv_goto (tgt := 107) hx hb dX12_nextOrder_152 (by decide) ?_
                                    refine lv_iload hx hb dX12_nextOrder_107 (lv_at hl 1 rfl) ?_
                                    refine lv_iload hx hb dX12_nextOrder_109 (lv_at hl 0 rfl) ?_
                                    refine lv_icmp_ge (tgt := 155) hx hb dX12_nextOrder_111 (by decide) (fun c_591 => ?_) (fun c_591 => ?_)
                                    · refine lv_iconst (v := 1) hx hb dX12_nextOrder_155 (by decide) ?_
                                      have hP9 := hP.sub (ws' := [(mo, .inr (12, [.ref nw, .ref kp, .ref ik, .ref mr, .long la_, .long lb_, .ref mw, .long lc_, .int ti_, .int cb_, .long ld_, .long le_, .ref mq, .ref mz, .ref my, .int (nI 6), .ref mb, .int bl_, .int ta_, .int tl_, .int tk_, .int vl_, .ref mx, .ref mv])), (mz, .inl (cz_, 6, .inl (upd (upd (upd (upd (upd (upd fz_ (Int32.toNatClampNeg 0) (fz_ 3)) (Int32.toNatClampNeg 3) (fz_ 0)) (Int32.toNatClampNeg 1) (fz_ 5)) (Int32.toNatClampNeg 5) (fz_ 1)) (Int32.toNatClampNeg 2) (fz_ 4)) (Int32.toNatClampNeg 4) (fz_ 2))))]) [0, 1] rfl
                                      have hD9 := hD.sub (ws' := [(mo, .inr (12, [.ref nw, .ref kp, .ref ik, .ref mr, .long la_, .long lb_, .ref mw, .long lc_, .int ti_, .int cb_, .long ld_, .long le_, .ref mq, .ref mz, .ref my, .int (nI 6), .ref mb, .int bl_, .int ta_, .int tl_, .int tk_, .int vl_, .ref mx, .ref mv])), (mz, .inl (cz_, 6, .inl (upd (upd (upd (upd (upd (upd fz_ (Int32.toNatClampNeg 0) (fz_ 3)) (Int32.toNatClampNeg 3) (fz_ 0)) (Int32.toNatClampNeg 1) (fz_ 5)) (Int32.toNatClampNeg 5) (fz_ 1)) (Int32.toNatClampNeg 2) (fz_ 4)) (Int32.toNatClampNeg 4) (fz_ 2))))]) [0, 1] (by decide) rfl
                                      have hK9 := hK.sub (tys' := [(cz_, .int)]) [0] rfl
                                      have hlt_592 : (fz_ 0).toInt < (fz_ 3).toInt := tz_ltt2 c_582 (hdi.2 0 3 (by omega) (by omega))
                                      have hb_593 := hdi.1 0 (by omega)
                                      have hb_594 := hdi.1 1 (by omega)
                                      have hb_595 := hdi.1 2 (by omega)
                                      have hb_596 := hdi.1 3 (by omega)
                                      have hb_597 := hdi.1 4 (by omega)
                                      have hb_598 := hdi.1 5 (by omega)
                                      have ev_599 : tz_val 6 fz_ = 7776 * (fz_ 0).toInt + 1296 * (fz_ 1).toInt + 216 * (fz_ 2).toInt + 36 * (fz_ 3).toInt + 6 * (fz_ 4).toInt + (fz_ 5).toInt := rfl
                                      have eg_600 : tz_val 6 (upd (upd (upd (upd (upd (upd fz_ (Int32.toNatClampNeg 0) (fz_ 3)) (Int32.toNatClampNeg 3) (fz_ 0)) (Int32.toNatClampNeg 1) (fz_ 5)) (Int32.toNatClampNeg 5) (fz_ 1)) (Int32.toNatClampNeg 2) (fz_ 4)) (Int32.toNatClampNeg 4) (fz_ 2)) = 7776 * (fz_ 3).toInt + 1296 * (fz_ 5).toInt + 216 * (fz_ 4).toInt + 36 * (fz_ 0).toInt + 6 * (fz_ 2).toInt + (fz_ 1).toInt := rfl
                                      have hp_601 : tz_Di 6 (upd (upd (upd (upd (upd (upd fz_ (Int32.toNatClampNeg 0) (fz_ 3)) (Int32.toNatClampNeg 3) (fz_ 0)) (Int32.toNatClampNeg 1) (fz_ 5)) (Int32.toNatClampNeg 5) (fz_ 1)) (Int32.toNatClampNeg 2) (fz_ 4)) (Int32.toNatClampNeg 4) (fz_ 2)) := hdi.perm (fun a => ([3, 5, 4, 0, 2, 1] : List Nat).getD a 0) (fun a ha => by
                                        rcases (show a = 0 ∨ a = 1 ∨ a = 2 ∨ a = 3 ∨ a = 4 ∨ a = 5 by omega) with rfl | rfl | rfl | rfl | rfl | rfl <;> exact ⟨by decide, rfl⟩) (by decide)
                                      exact W.zret (v := 1) hx hb hr (by decide) (fun t ht hW => ⟨⟨1, (), rfl, Or.inr ⟨rfl, 0, by omega, tz_nle_of c_540⟩, (upd (upd (upd (upd (upd (upd fz_ (Int32.toNatClampNeg 0) (fz_ 3)) (Int32.toNatClampNeg 3) (fz_ 0)) (Int32.toNatClampNeg 1) (fz_ 5)) (Int32.toNatClampNeg 5) (fz_ 1)) (Int32.toNatClampNeg 2) (fz_ 4)) (Int32.toNatClampNeg 4) (fz_ 2)), hp_601, by rw [ev_599, eg_600]; omega, fun _ => by rw [ev_599, eg_600]; omega, by rw [ht]; exact hP9, va_K.moved hW.alike hK9, hD9⟩, hS.F ht⟩) hS.2.2 dX12_nextOrder_156
                                    · exact absurd c_591 (by decide)
                              · refine lv_iinc (v := 2) (lv' := [(2, .int 2), (1, .int 0), (0, .ref mo)]) hx hb dX12_nextOrder_62 hl (k := 0) rfl (by decide) (by decide) rfl (fun ls hl => ?_)
                                refine lv_goto (tgt := 47) hx hb dX12_nextOrder_65 (by decide) ?_
                                refine lv_aload_n hx hb dX12_nextOrder_47 rfl (lv_at hl 2 rfl) ?_
                                refine va_get (D := (dC, dI)) (ci := 12) (v := .ref mz) (C := RX12) (T := TX12) (N := 24) hx hb hts iw_m_nextOrder_X12 hown hK hP 0 rfl rfl 13 (by decide) (hts (.fieldLink RX12 34 "ThriceCountedModel" "order" "[I") (by decide +kernel)) (fun _ h9 => h9) rfl dX12_nextOrder_48 ?_
                                refine lv_iload_n hx hb dX12_nextOrder_51 rfl (lv_at hl 0 rfl) ?_
                                refine va_iald hx hb hK hP 1 0 rfl rfl (show ¬ ((2 : Int32) < 0 ∨ 6 ≤ (2 : Int32).toNatClampNeg) by decide) dX12_nextOrder_52 ?_
                                refine tz_i (fz_ 2) rfl ?_
                                refine lv_aload_n hx hb dX12_nextOrder_53 rfl (lv_at hl 2 rfl) ?_
                                refine va_get (D := (dC, dI)) (ci := 12) (v := .ref mz) (C := RX12) (T := TX12) (N := 24) hx hb hts iw_m_nextOrder_X12 hown hK hP 0 rfl rfl 13 (by decide) (hts (.fieldLink RX12 34 "ThriceCountedModel" "order" "[I") (by decide +kernel)) (fun _ h9 => h9) rfl dX12_nextOrder_54 ?_
                                refine lv_iload_n hx hb dX12_nextOrder_57 rfl (lv_at hl 1 rfl) ?_
                                refine va_iald hx hb hK hP 1 0 rfl rfl (show ¬ ((0 : Int32) < 0 ∨ 6 ≤ (0 : Int32).toNatClampNeg) by decide) dX12_nextOrder_58 ?_
                                refine tz_i (fz_ 0) rfl ?_
                                refine lv_icmp_ge (tgt := 68) hx hb dX12_nextOrder_59 (by decide) (fun c_602 => ?_) (fun c_602 => ?_)
                                · refine lv_aload_n hx hb dX12_nextOrder_68 rfl (lv_at hl 2 rfl) ?_
                                  refine va_get (D := (dC, dI)) (ci := 12) (v := .ref mz) (C := RX12) (T := TX12) (N := 24) hx hb hts iw_m_nextOrder_X12 hown hK hP 0 rfl rfl 13 (by decide) (hts (.fieldLink RX12 34 "ThriceCountedModel" "order" "[I") (by decide +kernel)) (fun _ h9 => h9) rfl dX12_nextOrder_69 ?_
                                  refine lv_iload_n hx hb dX12_nextOrder_72 rfl (lv_at hl 1 rfl) ?_
                                  refine va_iald hx hb hK hP 1 0 rfl rfl (show ¬ ((0 : Int32) < 0 ∨ 6 ≤ (0 : Int32).toNatClampNeg) by decide) dX12_nextOrder_73 ?_
                                  refine tz_i (fz_ 0) rfl ?_
                                  refine lv_istore_n (lv' := [(3, .int (fz_ 0)), (2, .int 2), (1, .int 0), (0, .ref mo)]) hx hb dX12_nextOrder_74 rfl hl (by decide) rfl (fun ls hl => ?_)
                                  refine lv_aload_n hx hb dX12_nextOrder_75 rfl (lv_at hl 3 rfl) ?_
                                  refine va_get (D := (dC, dI)) (ci := 12) (v := .ref mz) (C := RX12) (T := TX12) (N := 24) hx hb hts iw_m_nextOrder_X12 hown hK hP 0 rfl rfl 13 (by decide) (hts (.fieldLink RX12 34 "ThriceCountedModel" "order" "[I") (by decide +kernel)) (fun _ h9 => h9) rfl dX12_nextOrder_76 ?_
                                  refine lv_iload_n hx hb dX12_nextOrder_79 rfl (lv_at hl 2 rfl) ?_
                                  refine lv_aload_n hx hb dX12_nextOrder_80 rfl (lv_at hl 3 rfl) ?_
                                  refine va_get (D := (dC, dI)) (ci := 12) (v := .ref mz) (C := RX12) (T := TX12) (N := 24) hx hb hts iw_m_nextOrder_X12 hown hK hP 0 rfl rfl 13 (by decide) (hts (.fieldLink RX12 34 "ThriceCountedModel" "order" "[I") (by decide +kernel)) (fun _ h9 => h9) rfl dX12_nextOrder_81 ?_
                                  refine lv_iload_n hx hb dX12_nextOrder_84 rfl (lv_at hl 1 rfl) ?_
                                  refine va_iald hx hb hK hP 1 0 rfl rfl (show ¬ ((2 : Int32) < 0 ∨ 6 ≤ (2 : Int32).toNatClampNeg) by decide) dX12_nextOrder_85 ?_
                                  refine tz_i (fz_ 2) rfl ?_
                                  refine va_iast hx hb hK hP hD hS 1 0 rfl rfl (show ¬ ((0 : Int32) < 0 ∨ 6 ≤ (0 : Int32).toNatClampNeg) by decide) dX12_nextOrder_86 (fun H locs hP hD hS => ?_)
                                  have hP : va_P (dC, dI) vwCl [(mo, .inr (12, [.ref nw, .ref kp, .ref ik, .ref mr, .long la_, .long lb_, .ref mw, .long lc_, .int ti_, .int cb_, .long ld_, .long le_, .ref mq, .ref mz, .ref my, .int 6, .ref mb, .int bl_, .int ta_, .int tl_, .int tk_, .int vl_, .ref mx, .ref mv])), (mz, .inl (cz_, 6, .inl (upd fz_ (Int32.toNatClampNeg 0) (fz_ 2))))] H := hP
                                  have hD : va_D A [(mo, .inr (12, [.ref nw, .ref kp, .ref ik, .ref mr, .long la_, .long lb_, .ref mw, .long lc_, .int ti_, .int cb_, .long ld_, .long le_, .ref mq, .ref mz, .ref my, .int 6, .ref mb, .int bl_, .int ta_, .int tl_, .int tk_, .int vl_, .ref mx, .ref mv])), (mz, .inl (cz_, 6, .inl (upd fz_ (Int32.toNatClampNeg 0) (fz_ 2))))] := hD
                                  refine lv_aload_n hx hb dX12_nextOrder_87 rfl (lv_at hl 3 rfl) ?_
                                  refine va_get (D := (dC, dI)) (ci := 12) (v := .ref mz) (C := RX12) (T := TX12) (N := 24) hx hb hts iw_m_nextOrder_X12 hown hK hP 0 rfl rfl 13 (by decide) (hts (.fieldLink RX12 34 "ThriceCountedModel" "order" "[I") (by decide +kernel)) (fun _ h9 => h9) rfl dX12_nextOrder_88 ?_
                                  refine lv_iload_n hx hb dX12_nextOrder_91 rfl (lv_at hl 1 rfl) ?_
                                  refine lv_iload_n hx hb dX12_nextOrder_92 rfl (lv_at hl 0 rfl) ?_
                                  refine va_iast hx hb hK hP hD hS 1 0 rfl rfl (show ¬ ((2 : Int32) < 0 ∨ 6 ≤ (2 : Int32).toNatClampNeg) by decide) dX12_nextOrder_93 (fun H locs hP hD hS => ?_)
                                  have hP : va_P (dC, dI) vwCl [(mo, .inr (12, [.ref nw, .ref kp, .ref ik, .ref mr, .long la_, .long lb_, .ref mw, .long lc_, .int ti_, .int cb_, .long ld_, .long le_, .ref mq, .ref mz, .ref my, .int 6, .ref mb, .int bl_, .int ta_, .int tl_, .int tk_, .int vl_, .ref mx, .ref mv])), (mz, .inl (cz_, 6, .inl (upd (upd fz_ (Int32.toNatClampNeg 0) (fz_ 2)) (Int32.toNatClampNeg 2) (fz_ 0))))] H := hP
                                  have hD : va_D A [(mo, .inr (12, [.ref nw, .ref kp, .ref ik, .ref mr, .long la_, .long lb_, .ref mw, .long lc_, .int ti_, .int cb_, .long ld_, .long le_, .ref mq, .ref mz, .ref my, .int 6, .ref mb, .int bl_, .int ta_, .int tl_, .int tk_, .int vl_, .ref mx, .ref mv])), (mz, .inl (cz_, 6, .inl (upd (upd fz_ (Int32.toNatClampNeg 0) (fz_ 2)) (Int32.toNatClampNeg 2) (fz_ 0))))] := hD
                                  refine lv_iload_n hx hb dX12_nextOrder_94 rfl (lv_at hl 2 rfl) ?_
                                  refine lv_iconst (v := 1) hx hb dX12_nextOrder_95 (by decide) ?_
                                  refine lv_iadd hx hb dX12_nextOrder_96 ?_
                                  refine tz_i 1 (by decide) ?_
                                  refine lv_istore (lv' := [(4, .int 1), (3, .int (fz_ 0)), (2, .int 2), (1, .int 0), (0, .ref mo)]) hx hb dX12_nextOrder_97 hl (by decide) rfl (fun ls hl => ?_)
                                  refine lv_aload_n hx hb dX12_nextOrder_99 rfl (lv_at hl 4 rfl) ?_
                                  refine va_get (D := (dC, dI)) (ci := 12) (v := .int 6) (C := RX12) (T := TX12) (N := 24) hx hb hts iw_m_nextOrder_X12 hown hK hP 0 rfl rfl 15 (by decide) (hts (.fieldLink RX12 218 "ThriceCountedModel" "soughtMany" "I") (by decide +kernel)) (fun _ h9 => h9) rfl dX12_nextOrder_100 ?_
                                  refine lv_iconst (v := 1) hx hb dX12_nextOrder_103 (by decide) ?_
                                  refine lv_isub hx hb dX12_nextOrder_104 ?_
                                  refine tz_i 5 (by decide) ?_
                                  refine lv_istore (lv' := [(5, .int 5), (4, .int 1), (3, .int (fz_ 0)), (2, .int 2), (1, .int 0), (0, .ref mo)]) hx hb dX12_nextOrder_105 hl (by decide) rfl (fun ls hl => ?_)
                                  refine lv_iload hx hb dX12_nextOrder_107 (lv_at hl 1 rfl) ?_
                                  refine lv_iload hx hb dX12_nextOrder_109 (lv_at hl 0 rfl) ?_
                                  refine lv_icmp_ge (tgt := 155) hx hb dX12_nextOrder_111 (by decide) (fun c_605 => ?_) (fun c_605 => ?_)
                                  · exact absurd c_605 (by decide)
                                  · refine lv_aload_n hx hb dX12_nextOrder_114 rfl (lv_at hl 5 rfl) ?_
                                    refine va_get (D := (dC, dI)) (ci := 12) (v := .ref mz) (C := RX12) (T := TX12) (N := 24) hx hb hts iw_m_nextOrder_X12 hown hK hP 0 rfl rfl 13 (by decide) (hts (.fieldLink RX12 34 "ThriceCountedModel" "order" "[I") (by decide +kernel)) (fun _ h9 => h9) rfl dX12_nextOrder_115 ?_
                                    refine lv_iload hx hb dX12_nextOrder_118 (lv_at hl 1 rfl) ?_
                                    refine va_iald hx hb hK hP 1 0 rfl rfl (show ¬ ((1 : Int32) < 0 ∨ 6 ≤ (1 : Int32).toNatClampNeg) by decide) dX12_nextOrder_120 ?_
                                    refine tz_i (fz_ 1) rfl ?_
                                    refine lv_istore (lv' := [(6, .int (fz_ 1)), (5, .int 5), (4, .int 1), (3, .int (fz_ 0)), (2, .int 2), (1, .int 0), (0, .ref mo)]) hx hb dX12_nextOrder_121 hl (by decide) rfl (fun ls hl => ?_)
                                    refine lv_aload_n hx hb dX12_nextOrder_123 rfl (lv_at hl 6 rfl) ?_
                                    refine va_get (D := (dC, dI)) (ci := 12) (v := .ref mz) (C := RX12) (T := TX12) (N := 24) hx hb hts iw_m_nextOrder_X12 hown hK hP 0 rfl rfl 13 (by decide) (hts (.fieldLink RX12 34 "ThriceCountedModel" "order" "[I") (by decide +kernel)) (fun _ h9 => h9) rfl dX12_nextOrder_124 ?_
                                    refine lv_iload hx hb dX12_nextOrder_127 (lv_at hl 2 rfl) ?_
                                    refine lv_aload_n hx hb dX12_nextOrder_129 rfl (lv_at hl 6 rfl) ?_
                                    refine va_get (D := (dC, dI)) (ci := 12) (v := .ref mz) (C := RX12) (T := TX12) (N := 24) hx hb hts iw_m_nextOrder_X12 hown hK hP 0 rfl rfl 13 (by decide) (hts (.fieldLink RX12 34 "ThriceCountedModel" "order" "[I") (by decide +kernel)) (fun _ h9 => h9) rfl dX12_nextOrder_130 ?_
                                    refine lv_iload hx hb dX12_nextOrder_133 (lv_at hl 1 rfl) ?_
                                    refine va_iald hx hb hK hP 1 0 rfl rfl (show ¬ ((5 : Int32) < 0 ∨ 6 ≤ (5 : Int32).toNatClampNeg) by decide) dX12_nextOrder_135 ?_
                                    refine tz_i (fz_ 5) rfl ?_
                                    refine va_iast hx hb hK hP hD hS 1 0 rfl rfl (show ¬ ((1 : Int32) < 0 ∨ 6 ≤ (1 : Int32).toNatClampNeg) by decide) dX12_nextOrder_136 (fun H locs hP hD hS => ?_)
                                    have hP : va_P (dC, dI) vwCl [(mo, .inr (12, [.ref nw, .ref kp, .ref ik, .ref mr, .long la_, .long lb_, .ref mw, .long lc_, .int ti_, .int cb_, .long ld_, .long le_, .ref mq, .ref mz, .ref my, .int 6, .ref mb, .int bl_, .int ta_, .int tl_, .int tk_, .int vl_, .ref mx, .ref mv])), (mz, .inl (cz_, 6, .inl (upd (upd (upd fz_ (Int32.toNatClampNeg 0) (fz_ 2)) (Int32.toNatClampNeg 2) (fz_ 0)) (Int32.toNatClampNeg 1) (fz_ 5))))] H := hP
                                    have hD : va_D A [(mo, .inr (12, [.ref nw, .ref kp, .ref ik, .ref mr, .long la_, .long lb_, .ref mw, .long lc_, .int ti_, .int cb_, .long ld_, .long le_, .ref mq, .ref mz, .ref my, .int 6, .ref mb, .int bl_, .int ta_, .int tl_, .int tk_, .int vl_, .ref mx, .ref mv])), (mz, .inl (cz_, 6, .inl (upd (upd (upd fz_ (Int32.toNatClampNeg 0) (fz_ 2)) (Int32.toNatClampNeg 2) (fz_ 0)) (Int32.toNatClampNeg 1) (fz_ 5))))] := hD
                                    refine lv_aload_n hx hb dX12_nextOrder_137 rfl (lv_at hl 6 rfl) ?_
                                    refine va_get (D := (dC, dI)) (ci := 12) (v := .ref mz) (C := RX12) (T := TX12) (N := 24) hx hb hts iw_m_nextOrder_X12 hown hK hP 0 rfl rfl 13 (by decide) (hts (.fieldLink RX12 34 "ThriceCountedModel" "order" "[I") (by decide +kernel)) (fun _ h9 => h9) rfl dX12_nextOrder_138 ?_
                                    refine lv_iload hx hb dX12_nextOrder_141 (lv_at hl 1 rfl) ?_
                                    refine lv_iload hx hb dX12_nextOrder_143 (lv_at hl 0 rfl) ?_
                                    refine va_iast hx hb hK hP hD hS 1 0 rfl rfl (show ¬ ((5 : Int32) < 0 ∨ 6 ≤ (5 : Int32).toNatClampNeg) by decide) dX12_nextOrder_145 (fun H locs hP hD hS => ?_)
                                    have hP : va_P (dC, dI) vwCl [(mo, .inr (12, [.ref nw, .ref kp, .ref ik, .ref mr, .long la_, .long lb_, .ref mw, .long lc_, .int ti_, .int cb_, .long ld_, .long le_, .ref mq, .ref mz, .ref my, .int 6, .ref mb, .int bl_, .int ta_, .int tl_, .int tk_, .int vl_, .ref mx, .ref mv])), (mz, .inl (cz_, 6, .inl (upd (upd (upd (upd fz_ (Int32.toNatClampNeg 0) (fz_ 2)) (Int32.toNatClampNeg 2) (fz_ 0)) (Int32.toNatClampNeg 1) (fz_ 5)) (Int32.toNatClampNeg 5) (fz_ 1))))] H := hP
                                    have hD : va_D A [(mo, .inr (12, [.ref nw, .ref kp, .ref ik, .ref mr, .long la_, .long lb_, .ref mw, .long lc_, .int ti_, .int cb_, .long ld_, .long le_, .ref mq, .ref mz, .ref my, .int 6, .ref mb, .int bl_, .int ta_, .int tl_, .int tk_, .int vl_, .ref mx, .ref mv])), (mz, .inl (cz_, 6, .inl (upd (upd (upd (upd fz_ (Int32.toNatClampNeg 0) (fz_ 2)) (Int32.toNatClampNeg 2) (fz_ 0)) (Int32.toNatClampNeg 1) (fz_ 5)) (Int32.toNatClampNeg 5) (fz_ 1))))] := hD
                                    refine lv_iinc (v := 2) (lv' := [(4, .int 2), (6, .int (fz_ 1)), (5, .int 5), (3, .int (fz_ 0)), (2, .int 2), (1, .int 0), (0, .ref mo)]) hx hb dX12_nextOrder_146 hl (k := 2) rfl (by decide) (by decide) rfl (fun ls hl => ?_)
                                    refine lv_iinc (v := 4) (lv' := [(5, .int 4), (4, .int 2), (6, .int (fz_ 1)), (3, .int (fz_ 0)), (2, .int 2), (1, .int 0), (0, .ref mo)]) hx hb dX12_nextOrder_149 hl (k := 2) rfl (by decide) (by decide) rfl (fun ls hl => ?_)
                                    refine lv_goto (tgt := 107) hx hb dX12_nextOrder_152 (by decide) ?_
                                    refine lv_iload hx hb dX12_nextOrder_107 (lv_at hl 1 rfl) ?_
                                    refine lv_iload hx hb dX12_nextOrder_109 (lv_at hl 0 rfl) ?_
                                    refine lv_icmp_ge (tgt := 155) hx hb dX12_nextOrder_111 (by decide) (fun c_608 => ?_) (fun c_608 => ?_)
                                    · exact absurd c_608 (by decide)
                                    · refine lv_aload_n hx hb dX12_nextOrder_114 rfl (lv_at hl 6 rfl) ?_
                                      refine va_get (D := (dC, dI)) (ci := 12) (v := .ref mz) (C := RX12) (T := TX12) (N := 24) hx hb hts iw_m_nextOrder_X12 hown hK hP 0 rfl rfl 13 (by decide) (hts (.fieldLink RX12 34 "ThriceCountedModel" "order" "[I") (by decide +kernel)) (fun _ h9 => h9) rfl dX12_nextOrder_115 ?_
                                      refine lv_iload hx hb dX12_nextOrder_118 (lv_at hl 1 rfl) ?_
                                      refine va_iald hx hb hK hP 1 0 rfl rfl (show ¬ ((2 : Int32) < 0 ∨ 6 ≤ (2 : Int32).toNatClampNeg) by decide) dX12_nextOrder_120 ?_
                                      refine tz_i (fz_ 0) rfl ?_
                                      refine lv_istore (lv' := [(6, .int (fz_ 0)), (5, .int 4), (4, .int 2), (3, .int (fz_ 0)), (2, .int 2), (1, .int 0), (0, .ref mo)]) hx hb dX12_nextOrder_121 hl (by decide) rfl (fun ls hl => ?_)
                                      refine lv_aload_n hx hb dX12_nextOrder_123 rfl (lv_at hl 6 rfl) ?_
                                      refine va_get (D := (dC, dI)) (ci := 12) (v := .ref mz) (C := RX12) (T := TX12) (N := 24) hx hb hts iw_m_nextOrder_X12 hown hK hP 0 rfl rfl 13 (by decide) (hts (.fieldLink RX12 34 "ThriceCountedModel" "order" "[I") (by decide +kernel)) (fun _ h9 => h9) rfl dX12_nextOrder_124 ?_
                                      refine lv_iload hx hb dX12_nextOrder_127 (lv_at hl 2 rfl) ?_
                                      refine lv_aload_n hx hb dX12_nextOrder_129 rfl (lv_at hl 6 rfl) ?_
                                      refine va_get (D := (dC, dI)) (ci := 12) (v := .ref mz) (C := RX12) (T := TX12) (N := 24) hx hb hts iw_m_nextOrder_X12 hown hK hP 0 rfl rfl 13 (by decide) (hts (.fieldLink RX12 34 "ThriceCountedModel" "order" "[I") (by decide +kernel)) (fun _ h9 => h9) rfl dX12_nextOrder_130 ?_
                                      refine lv_iload hx hb dX12_nextOrder_133 (lv_at hl 1 rfl) ?_
                                      refine va_iald hx hb hK hP 1 0 rfl rfl (show ¬ ((4 : Int32) < 0 ∨ 6 ≤ (4 : Int32).toNatClampNeg) by decide) dX12_nextOrder_135 ?_
                                      refine tz_i (fz_ 4) rfl ?_
                                      refine va_iast hx hb hK hP hD hS 1 0 rfl rfl (show ¬ ((2 : Int32) < 0 ∨ 6 ≤ (2 : Int32).toNatClampNeg) by decide) dX12_nextOrder_136 (fun H locs hP hD hS => ?_)
                                      have hP : va_P (dC, dI) vwCl [(mo, .inr (12, [.ref nw, .ref kp, .ref ik, .ref mr, .long la_, .long lb_, .ref mw, .long lc_, .int ti_, .int cb_, .long ld_, .long le_, .ref mq, .ref mz, .ref my, .int 6, .ref mb, .int bl_, .int ta_, .int tl_, .int tk_, .int vl_, .ref mx, .ref mv])), (mz, .inl (cz_, 6, .inl (upd (upd (upd (upd (upd fz_ (Int32.toNatClampNeg 0) (fz_ 2)) (Int32.toNatClampNeg 2) (fz_ 0)) (Int32.toNatClampNeg 1) (fz_ 5)) (Int32.toNatClampNeg 5) (fz_ 1)) (Int32.toNatClampNeg 2) (fz_ 4))))] H := hP
                                      have hD : va_D A [(mo, .inr (12, [.ref nw, .ref kp, .ref ik, .ref mr, .long la_, .long lb_, .ref mw, .long lc_, .int ti_, .int cb_, .long ld_, .long le_, .ref mq, .ref mz, .ref my, .int 6, .ref mb, .int bl_, .int ta_, .int tl_, .int tk_, .int vl_, .ref mx, .ref mv])), (mz, .inl (cz_, 6, .inl (upd (upd (upd (upd (upd fz_ (Int32.toNatClampNeg 0) (fz_ 2)) (Int32.toNatClampNeg 2) (fz_ 0)) (Int32.toNatClampNeg 1) (fz_ 5)) (Int32.toNatClampNeg 5) (fz_ 1)) (Int32.toNatClampNeg 2) (fz_ 4))))] := hD
                                      refine lv_aload_n hx hb dX12_nextOrder_137 rfl (lv_at hl 6 rfl) ?_
                                      refine va_get (D := (dC, dI)) (ci := 12) (v := .ref mz) (C := RX12) (T := TX12) (N := 24) hx hb hts iw_m_nextOrder_X12 hown hK hP 0 rfl rfl 13 (by decide) (hts (.fieldLink RX12 34 "ThriceCountedModel" "order" "[I") (by decide +kernel)) (fun _ h9 => h9) rfl dX12_nextOrder_138 ?_
                                      refine lv_iload hx hb dX12_nextOrder_141 (lv_at hl 1 rfl) ?_
                                      refine lv_iload hx hb dX12_nextOrder_143 (lv_at hl 0 rfl) ?_
                                      refine va_iast hx hb hK hP hD hS 1 0 rfl rfl (show ¬ ((4 : Int32) < 0 ∨ 6 ≤ (4 : Int32).toNatClampNeg) by decide) dX12_nextOrder_145 (fun H locs hP hD hS => ?_)
                                      have hP : va_P (dC, dI) vwCl [(mo, .inr (12, [.ref nw, .ref kp, .ref ik, .ref mr, .long la_, .long lb_, .ref mw, .long lc_, .int ti_, .int cb_, .long ld_, .long le_, .ref mq, .ref mz, .ref my, .int 6, .ref mb, .int bl_, .int ta_, .int tl_, .int tk_, .int vl_, .ref mx, .ref mv])), (mz, .inl (cz_, 6, .inl (upd (upd (upd (upd (upd (upd fz_ (Int32.toNatClampNeg 0) (fz_ 2)) (Int32.toNatClampNeg 2) (fz_ 0)) (Int32.toNatClampNeg 1) (fz_ 5)) (Int32.toNatClampNeg 5) (fz_ 1)) (Int32.toNatClampNeg 2) (fz_ 4)) (Int32.toNatClampNeg 4) (fz_ 0))))] H := hP
                                      have hD : va_D A [(mo, .inr (12, [.ref nw, .ref kp, .ref ik, .ref mr, .long la_, .long lb_, .ref mw, .long lc_, .int ti_, .int cb_, .long ld_, .long le_, .ref mq, .ref mz, .ref my, .int 6, .ref mb, .int bl_, .int ta_, .int tl_, .int tk_, .int vl_, .ref mx, .ref mv])), (mz, .inl (cz_, 6, .inl (upd (upd (upd (upd (upd (upd fz_ (Int32.toNatClampNeg 0) (fz_ 2)) (Int32.toNatClampNeg 2) (fz_ 0)) (Int32.toNatClampNeg 1) (fz_ 5)) (Int32.toNatClampNeg 5) (fz_ 1)) (Int32.toNatClampNeg 2) (fz_ 4)) (Int32.toNatClampNeg 4) (fz_ 0))))] := hD
                                      refine lv_iinc (v := 3) (lv' := [(4, .int 3), (6, .int (fz_ 0)), (5, .int 4), (3, .int (fz_ 0)), (2, .int 2), (1, .int 0), (0, .ref mo)]) hx hb dX12_nextOrder_146 hl (k := 2) rfl (by decide) (by decide) rfl (fun ls hl => ?_)
                                      refine lv_iinc (v := 3) (lv' := [(5, .int 3), (4, .int 3), (6, .int (fz_ 0)), (3, .int (fz_ 0)), (2, .int 2), (1, .int 0), (0, .ref mo)]) hx hb dX12_nextOrder_149 hl (k := 2) rfl (by decide) (by decide) rfl (fun ls hl => ?_)
                                      refine lv_goto (tgt := 107) hx hb dX12_nextOrder_152 (by decide) ?_
                                      refine lv_iload hx hb dX12_nextOrder_107 (lv_at hl 1 rfl) ?_
                                      refine lv_iload hx hb dX12_nextOrder_109 (lv_at hl 0 rfl) ?_
                                      refine lv_icmp_ge (tgt := 155) hx hb dX12_nextOrder_111 (by decide) (fun c_611 => ?_) (fun c_611 => ?_)
                                      · refine lv_iconst (v := 1) hx hb dX12_nextOrder_155 (by decide) ?_
                                        have hP9 := hP.sub (ws' := [(mo, .inr (12, [.ref nw, .ref kp, .ref ik, .ref mr, .long la_, .long lb_, .ref mw, .long lc_, .int ti_, .int cb_, .long ld_, .long le_, .ref mq, .ref mz, .ref my, .int (nI 6), .ref mb, .int bl_, .int ta_, .int tl_, .int tk_, .int vl_, .ref mx, .ref mv])), (mz, .inl (cz_, 6, .inl (upd (upd (upd (upd (upd (upd fz_ (Int32.toNatClampNeg 0) (fz_ 2)) (Int32.toNatClampNeg 2) (fz_ 0)) (Int32.toNatClampNeg 1) (fz_ 5)) (Int32.toNatClampNeg 5) (fz_ 1)) (Int32.toNatClampNeg 2) (fz_ 4)) (Int32.toNatClampNeg 4) (fz_ 0))))]) [0, 1] rfl
                                        have hD9 := hD.sub (ws' := [(mo, .inr (12, [.ref nw, .ref kp, .ref ik, .ref mr, .long la_, .long lb_, .ref mw, .long lc_, .int ti_, .int cb_, .long ld_, .long le_, .ref mq, .ref mz, .ref my, .int (nI 6), .ref mb, .int bl_, .int ta_, .int tl_, .int tk_, .int vl_, .ref mx, .ref mv])), (mz, .inl (cz_, 6, .inl (upd (upd (upd (upd (upd (upd fz_ (Int32.toNatClampNeg 0) (fz_ 2)) (Int32.toNatClampNeg 2) (fz_ 0)) (Int32.toNatClampNeg 1) (fz_ 5)) (Int32.toNatClampNeg 5) (fz_ 1)) (Int32.toNatClampNeg 2) (fz_ 4)) (Int32.toNatClampNeg 4) (fz_ 0))))]) [0, 1] (by decide) rfl
                                        have hK9 := hK.sub (tys' := [(cz_, .int)]) [0] rfl
                                        have hlt_612 : (fz_ 0).toInt < (fz_ 2).toInt := tz_ltt2 c_602 (hdi.2 0 2 (by omega) (by omega))
                                        have hb_613 := hdi.1 0 (by omega)
                                        have hb_614 := hdi.1 1 (by omega)
                                        have hb_615 := hdi.1 2 (by omega)
                                        have hb_616 := hdi.1 3 (by omega)
                                        have hb_617 := hdi.1 4 (by omega)
                                        have hb_618 := hdi.1 5 (by omega)
                                        have ev_619 : tz_val 6 fz_ = 7776 * (fz_ 0).toInt + 1296 * (fz_ 1).toInt + 216 * (fz_ 2).toInt + 36 * (fz_ 3).toInt + 6 * (fz_ 4).toInt + (fz_ 5).toInt := rfl
                                        have eg_620 : tz_val 6 (upd (upd (upd (upd (upd (upd fz_ (Int32.toNatClampNeg 0) (fz_ 2)) (Int32.toNatClampNeg 2) (fz_ 0)) (Int32.toNatClampNeg 1) (fz_ 5)) (Int32.toNatClampNeg 5) (fz_ 1)) (Int32.toNatClampNeg 2) (fz_ 4)) (Int32.toNatClampNeg 4) (fz_ 0)) = 7776 * (fz_ 2).toInt + 1296 * (fz_ 5).toInt + 216 * (fz_ 4).toInt + 36 * (fz_ 3).toInt + 6 * (fz_ 0).toInt + (fz_ 1).toInt := rfl
                                        have hp_621 : tz_Di 6 (upd (upd (upd (upd (upd (upd fz_ (Int32.toNatClampNeg 0) (fz_ 2)) (Int32.toNatClampNeg 2) (fz_ 0)) (Int32.toNatClampNeg 1) (fz_ 5)) (Int32.toNatClampNeg 5) (fz_ 1)) (Int32.toNatClampNeg 2) (fz_ 4)) (Int32.toNatClampNeg 4) (fz_ 0)) := hdi.perm (fun a => ([2, 5, 4, 3, 0, 1] : List Nat).getD a 0) (fun a ha => by
                                          rcases (show a = 0 ∨ a = 1 ∨ a = 2 ∨ a = 3 ∨ a = 4 ∨ a = 5 by omega) with rfl | rfl | rfl | rfl | rfl | rfl <;> exact ⟨by decide, rfl⟩) (by decide)
                                        exact W.zret (v := 1) hx hb hr (by decide) (fun t ht hW => ⟨⟨1, (), rfl, Or.inr ⟨rfl, 0, by omega, tz_nle_of c_540⟩, (upd (upd (upd (upd (upd (upd fz_ (Int32.toNatClampNeg 0) (fz_ 2)) (Int32.toNatClampNeg 2) (fz_ 0)) (Int32.toNatClampNeg 1) (fz_ 5)) (Int32.toNatClampNeg 5) (fz_ 1)) (Int32.toNatClampNeg 2) (fz_ 4)) (Int32.toNatClampNeg 4) (fz_ 0)), hp_621, by rw [ev_619, eg_620]; omega, fun _ => by rw [ev_619, eg_620]; omega, by rw [ht]; exact hP9, va_K.moved hW.alike hK9, hD9⟩, hS.F ht⟩) hS.2.2 dX12_nextOrder_156
                                      · exact absurd c_611 (by decide)
                                · refine lv_iinc (v := 1) (lv' := [(2, .int 1), (1, .int 0), (0, .ref mo)]) hx hb dX12_nextOrder_62 hl (k := 0) rfl (by decide) (by decide) rfl (fun ls hl => ?_)
                                  refine lv_goto (tgt := 47) hx hb dX12_nextOrder_65 (by decide) ?_
                                  refine lv_aload_n hx hb dX12_nextOrder_47 rfl (lv_at hl 2 rfl) ?_
                                  refine va_get (D := (dC, dI)) (ci := 12) (v := .ref mz) (C := RX12) (T := TX12) (N := 24) hx hb hts iw_m_nextOrder_X12 hown hK hP 0 rfl rfl 13 (by decide) (hts (.fieldLink RX12 34 "ThriceCountedModel" "order" "[I") (by decide +kernel)) (fun _ h9 => h9) rfl dX12_nextOrder_48 ?_
                                  refine lv_iload_n hx hb dX12_nextOrder_51 rfl (lv_at hl 0 rfl) ?_
                                  refine va_iald hx hb hK hP 1 0 rfl rfl (show ¬ ((1 : Int32) < 0 ∨ 6 ≤ (1 : Int32).toNatClampNeg) by decide) dX12_nextOrder_52 ?_
                                  refine tz_i (fz_ 1) rfl ?_
                                  refine lv_aload_n hx hb dX12_nextOrder_53 rfl (lv_at hl 2 rfl) ?_
                                  refine va_get (D := (dC, dI)) (ci := 12) (v := .ref mz) (C := RX12) (T := TX12) (N := 24) hx hb hts iw_m_nextOrder_X12 hown hK hP 0 rfl rfl 13 (by decide) (hts (.fieldLink RX12 34 "ThriceCountedModel" "order" "[I") (by decide +kernel)) (fun _ h9 => h9) rfl dX12_nextOrder_54 ?_
                                  refine lv_iload_n hx hb dX12_nextOrder_57 rfl (lv_at hl 1 rfl) ?_
                                  refine va_iald hx hb hK hP 1 0 rfl rfl (show ¬ ((0 : Int32) < 0 ∨ 6 ≤ (0 : Int32).toNatClampNeg) by decide) dX12_nextOrder_58 ?_
                                  refine tz_i (fz_ 0) rfl ?_
                                  refine lv_icmp_ge (tgt := 68) hx hb dX12_nextOrder_59 (by decide) (fun c_622 => ?_) (fun c_622 => ?_)
                                  · refine lv_aload_n hx hb dX12_nextOrder_68 rfl (lv_at hl 2 rfl) ?_
                                    refine va_get (D := (dC, dI)) (ci := 12) (v := .ref mz) (C := RX12) (T := TX12) (N := 24) hx hb hts iw_m_nextOrder_X12 hown hK hP 0 rfl rfl 13 (by decide) (hts (.fieldLink RX12 34 "ThriceCountedModel" "order" "[I") (by decide +kernel)) (fun _ h9 => h9) rfl dX12_nextOrder_69 ?_
                                    refine lv_iload_n hx hb dX12_nextOrder_72 rfl (lv_at hl 1 rfl) ?_
                                    refine va_iald hx hb hK hP 1 0 rfl rfl (show ¬ ((0 : Int32) < 0 ∨ 6 ≤ (0 : Int32).toNatClampNeg) by decide) dX12_nextOrder_73 ?_
                                    refine tz_i (fz_ 0) rfl ?_
                                    refine lv_istore_n (lv' := [(3, .int (fz_ 0)), (2, .int 1), (1, .int 0), (0, .ref mo)]) hx hb dX12_nextOrder_74 rfl hl (by decide) rfl (fun ls hl => ?_)
                                    refine lv_aload_n hx hb dX12_nextOrder_75 rfl (lv_at hl 3 rfl) ?_
                                    refine va_get (D := (dC, dI)) (ci := 12) (v := .ref mz) (C := RX12) (T := TX12) (N := 24) hx hb hts iw_m_nextOrder_X12 hown hK hP 0 rfl rfl 13 (by decide) (hts (.fieldLink RX12 34 "ThriceCountedModel" "order" "[I") (by decide +kernel)) (fun _ h9 => h9) rfl dX12_nextOrder_76 ?_
                                    refine lv_iload_n hx hb dX12_nextOrder_79 rfl (lv_at hl 2 rfl) ?_
                                    refine lv_aload_n hx hb dX12_nextOrder_80 rfl (lv_at hl 3 rfl) ?_
                                    refine va_get (D := (dC, dI)) (ci := 12) (v := .ref mz) (C := RX12) (T := TX12) (N := 24) hx hb hts iw_m_nextOrder_X12 hown hK hP 0 rfl rfl 13 (by decide) (hts (.fieldLink RX12 34 "ThriceCountedModel" "order" "[I") (by decide +kernel)) (fun _ h9 => h9) rfl dX12_nextOrder_81 ?_
                                    refine lv_iload_n hx hb dX12_nextOrder_84 rfl (lv_at hl 1 rfl) ?_
                                    refine va_iald hx hb hK hP 1 0 rfl rfl (show ¬ ((1 : Int32) < 0 ∨ 6 ≤ (1 : Int32).toNatClampNeg) by decide) dX12_nextOrder_85 ?_
                                    refine tz_i (fz_ 1) rfl ?_
                                    refine va_iast hx hb hK hP hD hS 1 0 rfl rfl (show ¬ ((0 : Int32) < 0 ∨ 6 ≤ (0 : Int32).toNatClampNeg) by decide) dX12_nextOrder_86 (fun H locs hP hD hS => ?_)
                                    have hP : va_P (dC, dI) vwCl [(mo, .inr (12, [.ref nw, .ref kp, .ref ik, .ref mr, .long la_, .long lb_, .ref mw, .long lc_, .int ti_, .int cb_, .long ld_, .long le_, .ref mq, .ref mz, .ref my, .int 6, .ref mb, .int bl_, .int ta_, .int tl_, .int tk_, .int vl_, .ref mx, .ref mv])), (mz, .inl (cz_, 6, .inl (upd fz_ (Int32.toNatClampNeg 0) (fz_ 1))))] H := hP
                                    have hD : va_D A [(mo, .inr (12, [.ref nw, .ref kp, .ref ik, .ref mr, .long la_, .long lb_, .ref mw, .long lc_, .int ti_, .int cb_, .long ld_, .long le_, .ref mq, .ref mz, .ref my, .int 6, .ref mb, .int bl_, .int ta_, .int tl_, .int tk_, .int vl_, .ref mx, .ref mv])), (mz, .inl (cz_, 6, .inl (upd fz_ (Int32.toNatClampNeg 0) (fz_ 1))))] := hD
                                    refine lv_aload_n hx hb dX12_nextOrder_87 rfl (lv_at hl 3 rfl) ?_
                                    refine va_get (D := (dC, dI)) (ci := 12) (v := .ref mz) (C := RX12) (T := TX12) (N := 24) hx hb hts iw_m_nextOrder_X12 hown hK hP 0 rfl rfl 13 (by decide) (hts (.fieldLink RX12 34 "ThriceCountedModel" "order" "[I") (by decide +kernel)) (fun _ h9 => h9) rfl dX12_nextOrder_88 ?_
                                    refine lv_iload_n hx hb dX12_nextOrder_91 rfl (lv_at hl 1 rfl) ?_
                                    refine lv_iload_n hx hb dX12_nextOrder_92 rfl (lv_at hl 0 rfl) ?_
                                    refine va_iast hx hb hK hP hD hS 1 0 rfl rfl (show ¬ ((1 : Int32) < 0 ∨ 6 ≤ (1 : Int32).toNatClampNeg) by decide) dX12_nextOrder_93 (fun H locs hP hD hS => ?_)
                                    have hP : va_P (dC, dI) vwCl [(mo, .inr (12, [.ref nw, .ref kp, .ref ik, .ref mr, .long la_, .long lb_, .ref mw, .long lc_, .int ti_, .int cb_, .long ld_, .long le_, .ref mq, .ref mz, .ref my, .int 6, .ref mb, .int bl_, .int ta_, .int tl_, .int tk_, .int vl_, .ref mx, .ref mv])), (mz, .inl (cz_, 6, .inl (upd (upd fz_ (Int32.toNatClampNeg 0) (fz_ 1)) (Int32.toNatClampNeg 1) (fz_ 0))))] H := hP
                                    have hD : va_D A [(mo, .inr (12, [.ref nw, .ref kp, .ref ik, .ref mr, .long la_, .long lb_, .ref mw, .long lc_, .int ti_, .int cb_, .long ld_, .long le_, .ref mq, .ref mz, .ref my, .int 6, .ref mb, .int bl_, .int ta_, .int tl_, .int tk_, .int vl_, .ref mx, .ref mv])), (mz, .inl (cz_, 6, .inl (upd (upd fz_ (Int32.toNatClampNeg 0) (fz_ 1)) (Int32.toNatClampNeg 1) (fz_ 0))))] := hD
                                    refine lv_iload_n hx hb dX12_nextOrder_94 rfl (lv_at hl 2 rfl) ?_
                                    refine lv_iconst (v := 1) hx hb dX12_nextOrder_95 (by decide) ?_
                                    refine lv_iadd hx hb dX12_nextOrder_96 ?_
                                    refine tz_i 1 (by decide) ?_
                                    refine lv_istore (lv' := [(4, .int 1), (3, .int (fz_ 0)), (2, .int 1), (1, .int 0), (0, .ref mo)]) hx hb dX12_nextOrder_97 hl (by decide) rfl (fun ls hl => ?_)
                                    refine lv_aload_n hx hb dX12_nextOrder_99 rfl (lv_at hl 4 rfl) ?_
                                    refine va_get (D := (dC, dI)) (ci := 12) (v := .int 6) (C := RX12) (T := TX12) (N := 24) hx hb hts iw_m_nextOrder_X12 hown hK hP 0 rfl rfl 15 (by decide) (hts (.fieldLink RX12 218 "ThriceCountedModel" "soughtMany" "I") (by decide +kernel)) (fun _ h9 => h9) rfl dX12_nextOrder_100 ?_
                                    refine lv_iconst (v := 1) hx hb dX12_nextOrder_103 (by decide) ?_
                                    refine lv_isub hx hb dX12_nextOrder_104 ?_
                                    refine tz_i 5 (by decide) ?_
                                    refine lv_istore (lv' := [(5, .int 5), (4, .int 1), (3, .int (fz_ 0)), (2, .int 1), (1, .int 0), (0, .ref mo)]) hx hb dX12_nextOrder_105 hl (by decide) rfl (fun ls hl => ?_)
                                    refine lv_iload hx hb dX12_nextOrder_107 (lv_at hl 1 rfl) ?_
                                    refine lv_iload hx hb dX12_nextOrder_109 (lv_at hl 0 rfl) ?_
                                    refine lv_icmp_ge (tgt := 155) hx hb dX12_nextOrder_111 (by decide) (fun c_625 => ?_) (fun c_625 => ?_)
                                    · exact absurd c_625 (by decide)
                                    · refine lv_aload_n hx hb dX12_nextOrder_114 rfl (lv_at hl 5 rfl) ?_
                                      refine va_get (D := (dC, dI)) (ci := 12) (v := .ref mz) (C := RX12) (T := TX12) (N := 24) hx hb hts iw_m_nextOrder_X12 hown hK hP 0 rfl rfl 13 (by decide) (hts (.fieldLink RX12 34 "ThriceCountedModel" "order" "[I") (by decide +kernel)) (fun _ h9 => h9) rfl dX12_nextOrder_115 ?_
                                      refine lv_iload hx hb dX12_nextOrder_118 (lv_at hl 1 rfl) ?_
                                      refine va_iald hx hb hK hP 1 0 rfl rfl (show ¬ ((1 : Int32) < 0 ∨ 6 ≤ (1 : Int32).toNatClampNeg) by decide) dX12_nextOrder_120 ?_
                                      refine tz_i (fz_ 0) rfl ?_
                                      refine lv_istore (lv' := [(6, .int (fz_ 0)), (5, .int 5), (4, .int 1), (3, .int (fz_ 0)), (2, .int 1), (1, .int 0), (0, .ref mo)]) hx hb dX12_nextOrder_121 hl (by decide) rfl (fun ls hl => ?_)
                                      refine lv_aload_n hx hb dX12_nextOrder_123 rfl (lv_at hl 6 rfl) ?_
                                      refine va_get (D := (dC, dI)) (ci := 12) (v := .ref mz) (C := RX12) (T := TX12) (N := 24) hx hb hts iw_m_nextOrder_X12 hown hK hP 0 rfl rfl 13 (by decide) (hts (.fieldLink RX12 34 "ThriceCountedModel" "order" "[I") (by decide +kernel)) (fun _ h9 => h9) rfl dX12_nextOrder_124 ?_
                                      refine lv_iload hx hb dX12_nextOrder_127 (lv_at hl 2 rfl) ?_
                                      refine lv_aload_n hx hb dX12_nextOrder_129 rfl (lv_at hl 6 rfl) ?_
                                      refine va_get (D := (dC, dI)) (ci := 12) (v := .ref mz) (C := RX12) (T := TX12) (N := 24) hx hb hts iw_m_nextOrder_X12 hown hK hP 0 rfl rfl 13 (by decide) (hts (.fieldLink RX12 34 "ThriceCountedModel" "order" "[I") (by decide +kernel)) (fun _ h9 => h9) rfl dX12_nextOrder_130 ?_
                                      refine lv_iload hx hb dX12_nextOrder_133 (lv_at hl 1 rfl) ?_
                                      refine va_iald hx hb hK hP 1 0 rfl rfl (show ¬ ((5 : Int32) < 0 ∨ 6 ≤ (5 : Int32).toNatClampNeg) by decide) dX12_nextOrder_135 ?_
                                      refine tz_i (fz_ 5) rfl ?_
                                      refine va_iast hx hb hK hP hD hS 1 0 rfl rfl (show ¬ ((1 : Int32) < 0 ∨ 6 ≤ (1 : Int32).toNatClampNeg) by decide) dX12_nextOrder_136 (fun H locs hP hD hS => ?_)
                                      have hP : va_P (dC, dI) vwCl [(mo, .inr (12, [.ref nw, .ref kp, .ref ik, .ref mr, .long la_, .long lb_, .ref mw, .long lc_, .int ti_, .int cb_, .long ld_, .long le_, .ref mq, .ref mz, .ref my, .int 6, .ref mb, .int bl_, .int ta_, .int tl_, .int tk_, .int vl_, .ref mx, .ref mv])), (mz, .inl (cz_, 6, .inl (upd (upd (upd fz_ (Int32.toNatClampNeg 0) (fz_ 1)) (Int32.toNatClampNeg 1) (fz_ 0)) (Int32.toNatClampNeg 1) (fz_ 5))))] H := hP
                                      have hD : va_D A [(mo, .inr (12, [.ref nw, .ref kp, .ref ik, .ref mr, .long la_, .long lb_, .ref mw, .long lc_, .int ti_, .int cb_, .long ld_, .long le_, .ref mq, .ref mz, .ref my, .int 6, .ref mb, .int bl_, .int ta_, .int tl_, .int tk_, .int vl_, .ref mx, .ref mv])), (mz, .inl (cz_, 6, .inl (upd (upd (upd fz_ (Int32.toNatClampNeg 0) (fz_ 1)) (Int32.toNatClampNeg 1) (fz_ 0)) (Int32.toNatClampNeg 1) (fz_ 5))))] := hD
                                      refine lv_aload_n hx hb dX12_nextOrder_137 rfl (lv_at hl 6 rfl) ?_
                                      refine va_get (D := (dC, dI)) (ci := 12) (v := .ref mz) (C := RX12) (T := TX12) (N := 24) hx hb hts iw_m_nextOrder_X12 hown hK hP 0 rfl rfl 13 (by decide) (hts (.fieldLink RX12 34 "ThriceCountedModel" "order" "[I") (by decide +kernel)) (fun _ h9 => h9) rfl dX12_nextOrder_138 ?_
                                      refine lv_iload hx hb dX12_nextOrder_141 (lv_at hl 1 rfl) ?_
                                      refine lv_iload hx hb dX12_nextOrder_143 (lv_at hl 0 rfl) ?_
                                      refine va_iast hx hb hK hP hD hS 1 0 rfl rfl (show ¬ ((5 : Int32) < 0 ∨ 6 ≤ (5 : Int32).toNatClampNeg) by decide) dX12_nextOrder_145 (fun H locs hP hD hS => ?_)
                                      have hP : va_P (dC, dI) vwCl [(mo, .inr (12, [.ref nw, .ref kp, .ref ik, .ref mr, .long la_, .long lb_, .ref mw, .long lc_, .int ti_, .int cb_, .long ld_, .long le_, .ref mq, .ref mz, .ref my, .int 6, .ref mb, .int bl_, .int ta_, .int tl_, .int tk_, .int vl_, .ref mx, .ref mv])), (mz, .inl (cz_, 6, .inl (upd (upd (upd (upd fz_ (Int32.toNatClampNeg 0) (fz_ 1)) (Int32.toNatClampNeg 1) (fz_ 0)) (Int32.toNatClampNeg 1) (fz_ 5)) (Int32.toNatClampNeg 5) (fz_ 0))))] H := hP
                                      have hD : va_D A [(mo, .inr (12, [.ref nw, .ref kp, .ref ik, .ref mr, .long la_, .long lb_, .ref mw, .long lc_, .int ti_, .int cb_, .long ld_, .long le_, .ref mq, .ref mz, .ref my, .int 6, .ref mb, .int bl_, .int ta_, .int tl_, .int tk_, .int vl_, .ref mx, .ref mv])), (mz, .inl (cz_, 6, .inl (upd (upd (upd (upd fz_ (Int32.toNatClampNeg 0) (fz_ 1)) (Int32.toNatClampNeg 1) (fz_ 0)) (Int32.toNatClampNeg 1) (fz_ 5)) (Int32.toNatClampNeg 5) (fz_ 0))))] := hD
                                      refine lv_iinc (v := 2) (lv' := [(4, .int 2), (6, .int (fz_ 0)), (5, .int 5), (3, .int (fz_ 0)), (2, .int 1), (1, .int 0), (0, .ref mo)]) hx hb dX12_nextOrder_146 hl (k := 2) rfl (by decide) (by decide) rfl (fun ls hl => ?_)
                                      refine lv_iinc (v := 4) (lv' := [(5, .int 4), (4, .int 2), (6, .int (fz_ 0)), (3, .int (fz_ 0)), (2, .int 1), (1, .int 0), (0, .ref mo)]) hx hb dX12_nextOrder_149 hl (k := 2) rfl (by decide) (by decide) rfl (fun ls hl => ?_)
                                      refine lv_goto (tgt := 107) hx hb dX12_nextOrder_152 (by decide) ?_
                                      refine lv_iload hx hb dX12_nextOrder_107 (lv_at hl 1 rfl) ?_
                                      refine lv_iload hx hb dX12_nextOrder_109 (lv_at hl 0 rfl) ?_
                                      refine lv_icmp_ge (tgt := 155) hx hb dX12_nextOrder_111 (by decide) (fun c_628 => ?_) (fun c_628 => ?_)
                                      · exact absurd c_628 (by decide)
                                      · refine lv_aload_n hx hb dX12_nextOrder_114 rfl (lv_at hl 6 rfl) ?_
                                        refine va_get (D := (dC, dI)) (ci := 12) (v := .ref mz) (C := RX12) (T := TX12) (N := 24) hx hb hts iw_m_nextOrder_X12 hown hK hP 0 rfl rfl 13 (by decide) (hts (.fieldLink RX12 34 "ThriceCountedModel" "order" "[I") (by decide +kernel)) (fun _ h9 => h9) rfl dX12_nextOrder_115 ?_
                                        refine lv_iload hx hb dX12_nextOrder_118 (lv_at hl 1 rfl) ?_
                                        refine va_iald hx hb hK hP 1 0 rfl rfl (show ¬ ((2 : Int32) < 0 ∨ 6 ≤ (2 : Int32).toNatClampNeg) by decide) dX12_nextOrder_120 ?_
                                        refine tz_i (fz_ 2) rfl ?_
                                        refine lv_istore (lv' := [(6, .int (fz_ 2)), (5, .int 4), (4, .int 2), (3, .int (fz_ 0)), (2, .int 1), (1, .int 0), (0, .ref mo)]) hx hb dX12_nextOrder_121 hl (by decide) rfl (fun ls hl => ?_)
                                        refine lv_aload_n hx hb dX12_nextOrder_123 rfl (lv_at hl 6 rfl) ?_
                                        refine va_get (D := (dC, dI)) (ci := 12) (v := .ref mz) (C := RX12) (T := TX12) (N := 24) hx hb hts iw_m_nextOrder_X12 hown hK hP 0 rfl rfl 13 (by decide) (hts (.fieldLink RX12 34 "ThriceCountedModel" "order" "[I") (by decide +kernel)) (fun _ h9 => h9) rfl dX12_nextOrder_124 ?_
                                        refine lv_iload hx hb dX12_nextOrder_127 (lv_at hl 2 rfl) ?_
                                        refine lv_aload_n hx hb dX12_nextOrder_129 rfl (lv_at hl 6 rfl) ?_
                                        refine va_get (D := (dC, dI)) (ci := 12) (v := .ref mz) (C := RX12) (T := TX12) (N := 24) hx hb hts iw_m_nextOrder_X12 hown hK hP 0 rfl rfl 13 (by decide) (hts (.fieldLink RX12 34 "ThriceCountedModel" "order" "[I") (by decide +kernel)) (fun _ h9 => h9) rfl dX12_nextOrder_130 ?_
                                        refine lv_iload hx hb dX12_nextOrder_133 (lv_at hl 1 rfl) ?_
                                        refine va_iald hx hb hK hP 1 0 rfl rfl (show ¬ ((4 : Int32) < 0 ∨ 6 ≤ (4 : Int32).toNatClampNeg) by decide) dX12_nextOrder_135 ?_
                                        refine tz_i (fz_ 4) rfl ?_
                                        refine va_iast hx hb hK hP hD hS 1 0 rfl rfl (show ¬ ((2 : Int32) < 0 ∨ 6 ≤ (2 : Int32).toNatClampNeg) by decide) dX12_nextOrder_136 (fun H locs hP hD hS => ?_)
                                        have hP : va_P (dC, dI) vwCl [(mo, .inr (12, [.ref nw, .ref kp, .ref ik, .ref mr, .long la_, .long lb_, .ref mw, .long lc_, .int ti_, .int cb_, .long ld_, .long le_, .ref mq, .ref mz, .ref my, .int 6, .ref mb, .int bl_, .int ta_, .int tl_, .int tk_, .int vl_, .ref mx, .ref mv])), (mz, .inl (cz_, 6, .inl (upd (upd (upd (upd (upd fz_ (Int32.toNatClampNeg 0) (fz_ 1)) (Int32.toNatClampNeg 1) (fz_ 0)) (Int32.toNatClampNeg 1) (fz_ 5)) (Int32.toNatClampNeg 5) (fz_ 0)) (Int32.toNatClampNeg 2) (fz_ 4))))] H := hP
                                        have hD : va_D A [(mo, .inr (12, [.ref nw, .ref kp, .ref ik, .ref mr, .long la_, .long lb_, .ref mw, .long lc_, .int ti_, .int cb_, .long ld_, .long le_, .ref mq, .ref mz, .ref my, .int 6, .ref mb, .int bl_, .int ta_, .int tl_, .int tk_, .int vl_, .ref mx, .ref mv])), (mz, .inl (cz_, 6, .inl (upd (upd (upd (upd (upd fz_ (Int32.toNatClampNeg 0) (fz_ 1)) (Int32.toNatClampNeg 1) (fz_ 0)) (Int32.toNatClampNeg 1) (fz_ 5)) (Int32.toNatClampNeg 5) (fz_ 0)) (Int32.toNatClampNeg 2) (fz_ 4))))] := hD
                                        refine lv_aload_n hx hb dX12_nextOrder_137 rfl (lv_at hl 6 rfl) ?_
                                        refine va_get (D := (dC, dI)) (ci := 12) (v := .ref mz) (C := RX12) (T := TX12) (N := 24) hx hb hts iw_m_nextOrder_X12 hown hK hP 0 rfl rfl 13 (by decide) (hts (.fieldLink RX12 34 "ThriceCountedModel" "order" "[I") (by decide +kernel)) (fun _ h9 => h9) rfl dX12_nextOrder_138 ?_
                                        refine lv_iload hx hb dX12_nextOrder_141 (lv_at hl 1 rfl) ?_
                                        refine lv_iload hx hb dX12_nextOrder_143 (lv_at hl 0 rfl) ?_
                                        refine va_iast hx hb hK hP hD hS 1 0 rfl rfl (show ¬ ((4 : Int32) < 0 ∨ 6 ≤ (4 : Int32).toNatClampNeg) by decide) dX12_nextOrder_145 (fun H locs hP hD hS => ?_)
                                        have hP : va_P (dC, dI) vwCl [(mo, .inr (12, [.ref nw, .ref kp, .ref ik, .ref mr, .long la_, .long lb_, .ref mw, .long lc_, .int ti_, .int cb_, .long ld_, .long le_, .ref mq, .ref mz, .ref my, .int 6, .ref mb, .int bl_, .int ta_, .int tl_, .int tk_, .int vl_, .ref mx, .ref mv])), (mz, .inl (cz_, 6, .inl (upd (upd (upd (upd (upd (upd fz_ (Int32.toNatClampNeg 0) (fz_ 1)) (Int32.toNatClampNeg 1) (fz_ 0)) (Int32.toNatClampNeg 1) (fz_ 5)) (Int32.toNatClampNeg 5) (fz_ 0)) (Int32.toNatClampNeg 2) (fz_ 4)) (Int32.toNatClampNeg 4) (fz_ 2))))] H := hP
                                        have hD : va_D A [(mo, .inr (12, [.ref nw, .ref kp, .ref ik, .ref mr, .long la_, .long lb_, .ref mw, .long lc_, .int ti_, .int cb_, .long ld_, .long le_, .ref mq, .ref mz, .ref my, .int 6, .ref mb, .int bl_, .int ta_, .int tl_, .int tk_, .int vl_, .ref mx, .ref mv])), (mz, .inl (cz_, 6, .inl (upd (upd (upd (upd (upd (upd fz_ (Int32.toNatClampNeg 0) (fz_ 1)) (Int32.toNatClampNeg 1) (fz_ 0)) (Int32.toNatClampNeg 1) (fz_ 5)) (Int32.toNatClampNeg 5) (fz_ 0)) (Int32.toNatClampNeg 2) (fz_ 4)) (Int32.toNatClampNeg 4) (fz_ 2))))] := hD
                                        refine lv_iinc (v := 3) (lv' := [(4, .int 3), (6, .int (fz_ 2)), (5, .int 4), (3, .int (fz_ 0)), (2, .int 1), (1, .int 0), (0, .ref mo)]) hx hb dX12_nextOrder_146 hl (k := 2) rfl (by decide) (by decide) rfl (fun ls hl => ?_)
                                        refine lv_iinc (v := 3) (lv' := [(5, .int 3), (4, .int 3), (6, .int (fz_ 2)), (3, .int (fz_ 0)), (2, .int 1), (1, .int 0), (0, .ref mo)]) hx hb dX12_nextOrder_149 hl (k := 2) rfl (by decide) (by decide) rfl (fun ls hl => ?_)
                                        refine lv_goto (tgt := 107) hx hb dX12_nextOrder_152 (by decide) ?_
                                        refine lv_iload hx hb dX12_nextOrder_107 (lv_at hl 1 rfl) ?_
                                        refine lv_iload hx hb dX12_nextOrder_109 (lv_at hl 0 rfl) ?_
                                        refine lv_icmp_ge (tgt := 155) hx hb dX12_nextOrder_111 (by decide) (fun c_631 => ?_) (fun c_631 => ?_)
                                        · refine lv_iconst (v := 1) hx hb dX12_nextOrder_155 (by decide) ?_
                                          have hP9 := hP.sub (ws' := [(mo, .inr (12, [.ref nw, .ref kp, .ref ik, .ref mr, .long la_, .long lb_, .ref mw, .long lc_, .int ti_, .int cb_, .long ld_, .long le_, .ref mq, .ref mz, .ref my, .int (nI 6), .ref mb, .int bl_, .int ta_, .int tl_, .int tk_, .int vl_, .ref mx, .ref mv])), (mz, .inl (cz_, 6, .inl (upd (upd (upd (upd (upd (upd fz_ (Int32.toNatClampNeg 0) (fz_ 1)) (Int32.toNatClampNeg 1) (fz_ 0)) (Int32.toNatClampNeg 1) (fz_ 5)) (Int32.toNatClampNeg 5) (fz_ 0)) (Int32.toNatClampNeg 2) (fz_ 4)) (Int32.toNatClampNeg 4) (fz_ 2))))]) [0, 1] rfl
                                          have hD9 := hD.sub (ws' := [(mo, .inr (12, [.ref nw, .ref kp, .ref ik, .ref mr, .long la_, .long lb_, .ref mw, .long lc_, .int ti_, .int cb_, .long ld_, .long le_, .ref mq, .ref mz, .ref my, .int (nI 6), .ref mb, .int bl_, .int ta_, .int tl_, .int tk_, .int vl_, .ref mx, .ref mv])), (mz, .inl (cz_, 6, .inl (upd (upd (upd (upd (upd (upd fz_ (Int32.toNatClampNeg 0) (fz_ 1)) (Int32.toNatClampNeg 1) (fz_ 0)) (Int32.toNatClampNeg 1) (fz_ 5)) (Int32.toNatClampNeg 5) (fz_ 0)) (Int32.toNatClampNeg 2) (fz_ 4)) (Int32.toNatClampNeg 4) (fz_ 2))))]) [0, 1] (by decide) rfl
                                          have hK9 := hK.sub (tys' := [(cz_, .int)]) [0] rfl
                                          have hlt_632 : (fz_ 0).toInt < (fz_ 1).toInt := tz_ltt2 c_622 (hdi.2 0 1 (by omega) (by omega))
                                          have hb_633 := hdi.1 0 (by omega)
                                          have hb_634 := hdi.1 1 (by omega)
                                          have hb_635 := hdi.1 2 (by omega)
                                          have hb_636 := hdi.1 3 (by omega)
                                          have hb_637 := hdi.1 4 (by omega)
                                          have hb_638 := hdi.1 5 (by omega)
                                          have ev_639 : tz_val 6 fz_ = 7776 * (fz_ 0).toInt + 1296 * (fz_ 1).toInt + 216 * (fz_ 2).toInt + 36 * (fz_ 3).toInt + 6 * (fz_ 4).toInt + (fz_ 5).toInt := rfl
                                          have eg_640 : tz_val 6 (upd (upd (upd (upd (upd (upd fz_ (Int32.toNatClampNeg 0) (fz_ 1)) (Int32.toNatClampNeg 1) (fz_ 0)) (Int32.toNatClampNeg 1) (fz_ 5)) (Int32.toNatClampNeg 5) (fz_ 0)) (Int32.toNatClampNeg 2) (fz_ 4)) (Int32.toNatClampNeg 4) (fz_ 2)) = 7776 * (fz_ 1).toInt + 1296 * (fz_ 5).toInt + 216 * (fz_ 4).toInt + 36 * (fz_ 3).toInt + 6 * (fz_ 2).toInt + (fz_ 0).toInt := rfl
                                          have hp_641 : tz_Di 6 (upd (upd (upd (upd (upd (upd fz_ (Int32.toNatClampNeg 0) (fz_ 1)) (Int32.toNatClampNeg 1) (fz_ 0)) (Int32.toNatClampNeg 1) (fz_ 5)) (Int32.toNatClampNeg 5) (fz_ 0)) (Int32.toNatClampNeg 2) (fz_ 4)) (Int32.toNatClampNeg 4) (fz_ 2)) := hdi.perm (fun a => ([1, 5, 4, 3, 2, 0] : List Nat).getD a 0) (fun a ha => by
                                            rcases (show a = 0 ∨ a = 1 ∨ a = 2 ∨ a = 3 ∨ a = 4 ∨ a = 5 by omega) with rfl | rfl | rfl | rfl | rfl | rfl <;> exact ⟨by decide, rfl⟩) (by decide)
                                          exact W.zret (v := 1) hx hb hr (by decide) (fun t ht hW => ⟨⟨1, (), rfl, Or.inr ⟨rfl, 0, by omega, tz_nle_of c_622⟩, (upd (upd (upd (upd (upd (upd fz_ (Int32.toNatClampNeg 0) (fz_ 1)) (Int32.toNatClampNeg 1) (fz_ 0)) (Int32.toNatClampNeg 1) (fz_ 5)) (Int32.toNatClampNeg 5) (fz_ 0)) (Int32.toNatClampNeg 2) (fz_ 4)) (Int32.toNatClampNeg 4) (fz_ 2)), hp_641, by rw [ev_639, eg_640]; omega, fun _ => by rw [ev_639, eg_640]; omega, by rw [ht]; exact hP9, va_K.moved hW.alike hK9, hD9⟩, hS.F ht⟩) hS.2.2 dX12_nextOrder_156
                                        · exact absurd c_631 (by decide)
                                  · exact absurd c_540 c_622
                        · exact absurd c_541 (by decide)
                      · refine lv_iinc (v := (-1)) (lv' := [(1, .int (-1)), (0, .ref mo)]) hx hb dX12_nextOrder_28 hl (k := 0) rfl (by decide) (by decide) rfl (fun ls hl => ?_)
                        refine lv_goto (tgt := 7) hx hb dX12_nextOrder_31 (by decide) ?_
                        refine lv_iload_n hx hb dX12_nextOrder_7 rfl (lv_at hl 0 rfl) ?_
                        refine lv_if_lt (tgt := 34) hx hb dX12_nextOrder_8 (by decide) (fun c_642 => ?_) (fun c_642 => ?_)
                        · refine lv_iload_n hx hb dX12_nextOrder_34 rfl (lv_at hl 0 rfl) ?_
                          refine lv_if_ge (tgt := 40) hx hb dX12_nextOrder_35 (by decide) (fun c_643 => ?_) (fun c_643 => ?_)
                          · exact absurd c_643 (by decide)
                          · refine lv_iconst (v := 0) hx hb dX12_nextOrder_38 (by decide) ?_
                            have hP9 := hP.sub (ws' := [(mo, .inr (12, [.ref nw, .ref kp, .ref ik, .ref mr, .long la_, .long lb_, .ref mw, .long lc_, .int ti_, .int cb_, .long ld_, .long le_, .ref mq, .ref mz, .ref my, .int (nI 6), .ref mb, .int bl_, .int ta_, .int tl_, .int tk_, .int vl_, .ref mx, .ref mv])), (mz, .inl (cz_, 6, .inl fz_))]) [0, 1] rfl
                            have hD9 := hD.sub (ws' := [(mo, .inr (12, [.ref nw, .ref kp, .ref ik, .ref mr, .long la_, .long lb_, .ref mw, .long lc_, .int ti_, .int cb_, .long ld_, .long le_, .ref mq, .ref mz, .ref my, .int (nI 6), .ref mb, .int bl_, .int ta_, .int tl_, .int tk_, .int vl_, .ref mx, .ref mv])), (mz, .inl (cz_, 6, .inl fz_))]) [0, 1] (by decide) rfl
                            have hK9 := hK.sub (tys' := [(cz_, .int)]) [0] rfl
                            exact W.zret (v := 0) hx hb hr (by decide) (fun t ht hW => ⟨⟨0, (), rfl, Or.inl rfl, fz_, hdi, Int.le_refl _, fun ⟨k, hk, hle⟩ => by
                                rcases (show k = 0 ∨ k = 1 ∨ k = 2 ∨ k = 3 ∨ k = 4 by omega) with rfl | rfl | rfl | rfl | rfl
                                · exact (hle (tz_gt_of c_540)).elim
                                · exact (hle (tz_gt_of c_457)).elim
                                · exact (hle (tz_gt_of c_403)).elim
                                · exact (hle (tz_gt_of c_366)).elim
                                · exact (hle (tz_gt_of c_349)).elim, by rw [ht]; exact hP9, va_K.moved hW.alike hK9, hD9⟩, hS.F ht⟩) hS.2.2 dX12_nextOrder_39
                        · exact absurd c_642 (by decide)
set_option maxRecDepth 20000 in
theorem ggX12_look_X12_isOff : GoodIn wsX12_look wsX12_isOff := goodIn_r _ [9, 10, 11, 12, 13, 8, 14] (by decide +kernel) (by decide +kernel)
set_option maxRecDepth 20000 in
theorem gX12_look_X12_isOff : GoodIn wsX12_look (va_wsS RX12 212 yX12_isOff wsX12_isOff) := goodIn_app (goodIn_of _ (by decide +kernel)) ggX12_look_X12_isOff
set_option maxRecDepth 20000 in
theorem ggX12_look_X12_laySought : GoodIn wsX12_look wsX12_laySought := goodIn_r _ [23, 1, 24, 25, 4, 26, 27, 28, 8, 29, 48, 49, 50, 51, 52, 53, 54, 55, 56, 57, 58, 59, 60, 61, 62, 63, 64, 65, 66, 67, 68, 69, 70, 71] (by decide +kernel) (by decide +kernel)
set_option maxRecDepth 20000 in
theorem gX12_look_X12_laySought : GoodIn wsX12_look (wsV RX12 221 RX12 yX12_laySought wsX12_laySought) := goodIn_app (goodIn_of _ (by decide +kernel)) ggX12_look_X12_laySought
set_option maxRecDepth 20000 in
theorem ggX12_look_X12_meanOf : GoodIn wsX12_look wsX12_meanOf := goodIn_r _ [33, 1, 4, 26, 27, 28, 8, 29, 24, 48, 49, 50, 51, 52, 53, 54, 55, 56, 57, 58, 59, 60, 61, 62, 63, 64, 65, 66, 67, 68, 69, 70, 71] (by decide +kernel) (by decide +kernel)
set_option maxRecDepth 20000 in
theorem gX12_look_X12_meanOf : GoodIn wsX12_look (wsV RX12 226 RX12 yX12_meanOf wsX12_meanOf) := goodIn_app (goodIn_of _ (by decide +kernel)) ggX12_look_X12_meanOf
set_option maxRecDepth 20000 in
theorem ggX12_look_X12_nextOrder : GoodIn wsX12_look wsX12_nextOrder := goodIn_r _ [37, 1, 4, 48, 49, 50, 51, 52, 53, 54, 55, 56, 57, 58, 59, 60, 61, 62, 63, 64, 65, 66, 67, 68, 69, 70, 71] (by decide +kernel) (by decide +kernel)
set_option maxRecDepth 20000 in
theorem gX12_look_X12_nextOrder : GoodIn wsX12_look (wsV RX12 230 RX12 yX12_nextOrder wsX12_nextOrder) := goodIn_app (goodIn_of _ (by decide +kernel)) ggX12_look_X12_nextOrder
set_option maxRecDepth 20000 in
theorem ggX12_look_X12_allOdds : GoodIn wsX12_look wsX12_allOdds := goodIn_r _ [41, 1, 25, 26, 27, 28, 8, 29, 24, 48, 49, 50, 51, 52, 53, 54, 55, 56, 57, 58, 59, 60, 61, 62, 63, 64, 65, 66, 67, 68, 69, 70, 71] (by decide +kernel) (by decide +kernel)
set_option maxRecDepth 20000 in
theorem gX12_look_X12_allOdds : GoodIn wsX12_look (wsV RX12 234 RX12 yX12_allOdds wsX12_allOdds) := goodIn_app (goodIn_of _ (by decide +kernel)) ggX12_look_X12_allOdds
set_option maxRecDepth 20000 in
theorem ggX12_look_X12_fraction : GoodIn wsX12_look wsX12_fraction := goodIn_r _ [45, 46, 47, 48, 49, 50, 51, 52, 53, 54, 55, 56, 57, 58, 59, 60, 61, 62, 63, 64, 65, 66, 67, 68, 69, 70, 71] (by decide +kernel) (by decide +kernel)
set_option maxRecDepth 20000 in
theorem gX12_look_X12_fraction : GoodIn wsX12_look (wsV RX12 169 RX12 yX12_fraction wsX12_fraction) := goodIn_app (goodIn_of _ (by decide +kernel)) ggX12_look_X12_fraction
set_option maxRecDepth 20000 in
theorem ggX12_look_X12_bad : GoodIn wsX12_look wsX12_bad := goodIn_r _ [18, 19, 48, 49, 50, 51, 52, 53, 54, 55, 56, 57, 58, 59, 60, 61, 62, 63, 64, 65, 66, 67, 68, 69, 70, 71] (by decide +kernel) (by decide +kernel)
set_option maxRecDepth 20000 in
theorem gX12_look_X12_bad : GoodIn wsX12_look (wsV RX12 61 RX12 yX12_bad wsX12_bad) := goodIn_app (goodIn_of _ (by decide +kernel)) ggX12_look_X12_bad
theorem dX12_look_0 : decode cX12_look 0 = .ok (.iload_n 1, 1) := by decide +kernel
theorem dX12_look_1 : decode cX12_look 1 = .ok (.invokestatic 212, 3) := by decide +kernel
theorem dX12_look_4 : decode cX12_look 4 = .ok (.ifCond .eq 7, 3) := by decide +kernel
theorem dX12_look_7 : decode cX12_look 7 = .ok (.iload_n 2, 1) := by decide +kernel
theorem dX12_look_8 : decode cX12_look 8 = .ok (.ifCond .ge 10, 3) := by decide +kernel
theorem dX12_look_18 : decode cX12_look 18 = .ok (.aload_n 0, 1) := by decide +kernel
theorem dX12_look_19 : decode cX12_look 19 = .ok (.iload_n 1, 1) := by decide +kernel
theorem dX12_look_20 : decode cX12_look 20 = .ok (.invokevirtual 221, 3) := by decide +kernel
theorem dX12_look_23 : decode cX12_look 23 = .ok (.iload_n 2, 1) := by decide +kernel
theorem dX12_look_24 : decode cX12_look 24 = .ok (.aload_n 0, 1) := by decide +kernel
theorem dX12_look_25 : decode cX12_look 25 = .ok (.getfield 218, 3) := by decide +kernel
theorem dX12_look_28 : decode cX12_look 28 = .ok (.if_icmp .lt 6, 3) := by decide +kernel
theorem dX12_look_34 : decode cX12_look 34 = .ok (.ldc2_w 224, 3) := by decide +kernel
theorem dX12_look_37 : decode cX12_look 37 = .ok (.lstore_n 3, 1) := by decide +kernel
theorem dX12_look_38 : decode cX12_look 38 = .ok (.iconst 1, 1) := by decide +kernel
theorem dX12_look_39 : decode cX12_look 39 = .ok (.istore 5, 2) := by decide +kernel
theorem dX12_look_41 : decode cX12_look 41 = .ok (.iload 5, 2) := by decide +kernel
theorem dX12_look_43 : decode cX12_look 43 = .ok (.ifCond .eq 68, 3) := by decide +kernel
theorem dX12_look_46 : decode cX12_look 46 = .ok (.aload_n 0, 1) := by decide +kernel
theorem dX12_look_47 : decode cX12_look 47 = .ok (.invokevirtual 226, 3) := by decide +kernel
theorem dX12_look_50 : decode cX12_look 50 = .ok (.lstore 6, 2) := by decide +kernel
theorem dX12_look_52 : decode cX12_look 52 = .ok (.lload_n 3, 1) := by decide +kernel
theorem dX12_look_53 : decode cX12_look 53 = .ok (.ldc2_w 224, 3) := by decide +kernel
theorem dX12_look_56 : decode cX12_look 56 = .ok (.lcmp, 1) := by decide +kernel
theorem dX12_look_57 : decode cX12_look 57 = .ok (.ifCond .eq 10, 3) := by decide +kernel
theorem dX12_look_67 : decode cX12_look 67 = .ok (.lload 6, 2) := by decide +kernel
theorem dX12_look_69 : decode cX12_look 69 = .ok (.lstore_n 3, 1) := by decide +kernel
theorem dX12_look_70 : decode cX12_look 70 = .ok (.iconst 0, 1) := by decide +kernel
theorem dX12_look_71 : decode cX12_look 71 = .ok (.istore 8, 2) := by decide +kernel
theorem dX12_look_73 : decode cX12_look 73 = .ok (.iload 8, 2) := by decide +kernel
theorem dX12_look_75 : decode cX12_look 75 = .ok (.aload_n 0, 1) := by decide +kernel
theorem dX12_look_76 : decode cX12_look 76 = .ok (.getfield 218, 3) := by decide +kernel
theorem dX12_look_79 : decode cX12_look 79 = .ok (.if_icmp .ge 23, 3) := by decide +kernel
theorem dX12_look_82 : decode cX12_look 82 = .ok (.aload_n 0, 1) := by decide +kernel
theorem dX12_look_83 : decode cX12_look 83 = .ok (.getfield 37, 3) := by decide +kernel
theorem dX12_look_86 : decode cX12_look 86 = .ok (.iload 8, 2) := by decide +kernel
theorem dX12_look_88 : decode cX12_look 88 = .ok (.aload_n 0, 1) := by decide +kernel
theorem dX12_look_89 : decode cX12_look 89 = .ok (.getfield 34, 3) := by decide +kernel
theorem dX12_look_92 : decode cX12_look 92 = .ok (.iload 8, 2) := by decide +kernel
theorem dX12_look_94 : decode cX12_look 94 = .ok (.iaload, 1) := by decide +kernel
theorem dX12_look_95 : decode cX12_look 95 = .ok (.iastore, 1) := by decide +kernel
theorem dX12_look_96 : decode cX12_look 96 = .ok (.iinc 8 1, 3) := by decide +kernel
theorem dX12_look_99 : decode cX12_look 99 = .ok (.goto (-26), 3) := by decide +kernel
theorem dX12_look_102 : decode cX12_look 102 = .ok (.aload_n 0, 1) := by decide +kernel
theorem dX12_look_103 : decode cX12_look 103 = .ok (.invokevirtual 230, 3) := by decide +kernel
theorem dX12_look_106 : decode cX12_look 106 = .ok (.istore 5, 2) := by decide +kernel
theorem dX12_look_108 : decode cX12_look 108 = .ok (.goto (-67), 3) := by decide +kernel
theorem dX12_look_60 : decode cX12_look 60 = .ok (.lload 6, 2) := by decide +kernel
theorem dX12_look_62 : decode cX12_look 62 = .ok (.lload_n 3, 1) := by decide +kernel
theorem dX12_look_63 : decode cX12_look 63 = .ok (.lcmp, 1) := by decide +kernel
theorem dX12_look_64 : decode cX12_look 64 = .ok (.ifCond .ge 38, 3) := by decide +kernel
theorem dX12_look_111 : decode cX12_look 111 = .ok (.aload_n 0, 1) := by decide +kernel
theorem dX12_look_112 : decode cX12_look 112 = .ok (.lload_n 3, 1) := by decide +kernel
theorem dX12_look_113 : decode cX12_look 113 = .ok (.ldc2_w 59, 3) := by decide +kernel
theorem dX12_look_116 : decode cX12_look 116 = .ok (.aload_n 0, 1) := by decide +kernel
theorem dX12_look_117 : decode cX12_look 117 = .ok (.invokevirtual 234, 3) := by decide +kernel
theorem dX12_look_120 : decode cX12_look 120 = .ok (.i2l, 1) := by decide +kernel
theorem dX12_look_121 : decode cX12_look 121 = .ok (.lmul, 1) := by decide +kernel
theorem dX12_look_122 : decode cX12_look 122 = .ok (.invokevirtual 169, 3) := by decide +kernel
theorem dX12_look_125 : decode cX12_look 125 = .ok (.aload_n 0, 1) := by decide +kernel
theorem dX12_look_126 : decode cX12_look 126 = .ok (.getfield 37, 3) := by decide +kernel
theorem dX12_look_129 : decode cX12_look 129 = .ok (.iload_n 2, 1) := by decide +kernel
theorem dX12_look_130 : decode cX12_look 130 = .ok (.iaload, 1) := by decide +kernel
theorem dX12_look_131 : decode cX12_look 131 = .ok (.ireturn, 1) := by decide +kernel
theorem dX12_look_31 : decode cX12_look 31 = .ok (.bipush (-5), 2) := by decide +kernel
theorem dX12_look_33 : decode cX12_look 33 = .ok (.ireturn, 1) := by decide +kernel
theorem dX12_look_11 : decode cX12_look 11 = .ok (.aload_n 0, 1) := by decide +kernel
theorem dX12_look_12 : decode cX12_look 12 = .ok (.bipush (-10), 2) := by decide +kernel
theorem dX12_look_14 : decode cX12_look 14 = .ok (.invokevirtual 61, 3) := by decide +kernel
theorem dX12_look_17 : decode cX12_look 17 = .ok (.ireturn, 1) := by decide +kernel
set_option maxRecDepth 20000 in
theorem iw_m_look_X12 : ∀ w ∈ wsX120, w ∈ wsX12_look := by decide +kernel
set_option maxHeartbeats 4000000 in
set_option maxRecDepth 100000 in
theorem m_look (l : Launch) (dC : Nat → ClassId) (dI : Nat → Nat → Nat) (mo : Nat) (nw : Nat) (kp : Nat) (ik : Nat) (mr : Nat) (la_ : Int64) (lb_ : Int64) (mw : Nat) (lc_ : Int64) (ti_ : Int32) (cb_ : Int32) (ld_ : Int64) (le_ : Int64) (mq : Nat) (mz : Nat) (my : Nat) (sm_ : Int32) (mb : Nat) (bl_ : Int32) (ta_ : Int32) (tl_ : Int32) (tk_ : Int32) (vl_ : Int32) (mx : Nat) (mv : Nat) (cn_ : ClassId) (fn : Nat → Int32) (cs_ : ClassId) (fs_ : Nat → Int32) (cz_ : ClassId) (fz_ : Nat → Int32) (cy_ : ClassId) (fb_ : Nat → Int32) (cr_ : ClassId) (fr_ : Nat → Int32) (na : Int32) (nb : Int32) (sz : Nat) (hOn : tz_OK 350 fn) : Met l yX12_look wsX12_look ({ frames := 2, cells := 0, slots := 0, locals := 48 }) (va_Pc [.ref mo, .int na, .int nb] (fun U => U.heap.size = sz ∧ va_P (dC, dI) vwCl [(mo, .inr (12, [.ref nw, .ref kp, .ref ik, .ref mr, .long la_, .long lb_, .ref mw, .long lc_, .int ti_, .int cb_, .long ld_, .long le_, .ref mq, .ref mz, .ref my, .int sm_, .ref mb, .int bl_, .int ta_, .int tl_, .int tk_, .int vl_, .ref mx, .ref mv])), (nw, .inl (cn_, 350, .inl fn)), (mq, .inl (cs_, 6, .inl fs_)), (mz, .inl (cz_, 6, .inl fz_)), (my, .inl (cy_, 6, .inl fb_)), (mr, .inl (cr_, 3, .inl fr_))] U.heap ∧ va_K (dC, dI) vwCl [(cn_, .int), (cs_, .int), (cz_, .int), (cy_, .int), (cr_, .int)] U ∧ va_D (fun _ => True) [(mo, .inr (12, [.ref nw, .ref kp, .ref ik, .ref mr, .long la_, .long lb_, .ref mw, .long lc_, .int ti_, .int cb_, .long ld_, .long le_, .ref mq, .ref mz, .ref my, .int sm_, .ref mb, .int bl_, .int ta_, .int tl_, .int tk_, .int vl_, .ref mx, .ref mv])), (nw, .inl (cn_, 350, .inl fn)), (mq, .inl (cs_, 6, .inl fs_)), (mz, .inl (cz_, 6, .inl fz_)), (my, .inl (cy_, 6, .inl fb_)), (mr, .inl (cr_, 3, .inl fr_))])) (va_Qi (fun (r : Int32) (_ : Unit) => True) (fun _ t => ∃ (h_above : Int64) (h_below : Int64) (gs_ : Nat → Int32) (gz_ : Nat → Int32) (gb_ : Nat → Int32) (gr_ : Nat → Int32) (sg_ : Int32), va_P (dC, dI) vwCl [(mo, .inr (12, [.ref nw, .ref kp, .ref ik, .ref mr, .long h_above, .long h_below, .ref mw, .long lc_, .int ti_, .int cb_, .long ld_, .long le_, .ref mq, .ref mz, .ref my, .int sg_, .ref mb, .int bl_, .int ta_, .int tl_, .int tk_, .int vl_, .ref mx, .ref mv])), (nw, .inl (cn_, 350, .inl fn)), (mq, .inl (cs_, 6, .inl gs_)), (mz, .inl (cz_, 6, .inl gz_)), (my, .inl (cy_, 6, .inl gb_)), (mr, .inl (cr_, 3, .inl gr_))] t.heap ∧ va_K (dC, dI) vwCl [(cn_, .int), (cs_, .int), (cz_, .int), (cy_, .int), (cr_, .int)] t ∧ va_D (va_A [(mo, .inr (12, [.ref nw, .ref kp, .ref ik, .ref mr, .long la_, .long lb_, .ref mw, .long lc_, .int ti_, .int cb_, .long ld_, .long le_, .ref mq, .ref mz, .ref my, .int sm_, .ref mb, .int bl_, .int ta_, .int tl_, .int tk_, .int vl_, .ref mx, .ref mv])), (nw, .inl (cn_, 350, .inl fn)), (mq, .inl (cs_, 6, .inl fs_)), (mz, .inl (cz_, 6, .inl fz_)), (my, .inl (cy_, 6, .inl fb_)), (mr, .inl (cr_, 3, .inl fr_))] sz) [(mo, .inr (12, [.ref nw, .ref kp, .ref ik, .ref mr, .long h_above, .long h_below, .ref mw, .long lc_, .int ti_, .int cb_, .long ld_, .long le_, .ref mq, .ref mz, .ref my, .int sg_, .ref mb, .int bl_, .int ta_, .int tl_, .int tk_, .int vl_, .ref mx, .ref mv])), (nw, .inl (cn_, 350, .inl fn)), (mq, .inl (cs_, 6, .inl gs_)), (mz, .inl (cz_, 6, .inl gz_)), (my, .inl (cy_, 6, .inl gb_)), (mr, .inl (cr_, 3, .inl gr_))]) (va_A [(mo, .inr (12, [.ref nw, .ref kp, .ref ik, .ref mr, .long la_, .long lb_, .ref mw, .long lc_, .int ti_, .int cb_, .long ld_, .long le_, .ref mq, .ref mz, .ref my, .int sm_, .ref mb, .int bl_, .int ta_, .int tl_, .int tk_, .int vl_, .ref mx, .ref mv])), (nw, .inl (cn_, 350, .inl fn)), (mq, .inl (cs_, 6, .inl fs_)), (mz, .inl (cz_, 6, .inl fz_)), (my, .inl (cy_, 6, .inl fb_)), (mr, .inl (cr_, 3, .inl fr_))] sz)) 0 0 (va_A [(mo, .inr (12, [.ref nw, .ref kp, .ref ik, .ref mr, .long la_, .long lb_, .ref mw, .long lc_, .int ti_, .int cb_, .long ld_, .long le_, .ref mq, .ref mz, .ref my, .int sm_, .ref mb, .int bl_, .int ta_, .int tl_, .int tk_, .int vl_, .ref mx, .ref mv])), (nw, .inl (cn_, 350, .inl fn)), (mq, .inl (cs_, 6, .inl fs_)), (mz, .inl (cz_, 6, .inl fz_)), (my, .inl (cy_, 6, .inl fb_)), (mr, .inl (cr_, 3, .inl fr_))] sz) := by
  refine Met.ofW (cc := cX12_look) (maxL := 9) (ret := (some .int)) (by decide) rfl ?_
  intro p e s m args below meth c s₁ B hml hv
  obtain ⟨rfl, hsz, hP, hK, hD0⟩ := hv
  have hx := B.exec
  have hb := B.bytes
  have hr := B.returns
  have hts := atoms_spec (ws := wsX12_look) B.pre
  have hown : s.vm.findClass RX12 = some m.cls := findClass_of_methodNamed B.named
  have hlocks := B.notSynchronized
  subst hsz
  have hD := hD0.self (sz := s.heap.size)
  generalize hAe : va_A [(mo, .inr (12, [.ref nw, .ref kp, .ref ik, .ref mr, .long la_, .long lb_, .ref mw, .long lc_, .int ti_, .int cb_, .long ld_, .long le_, .ref mq, .ref mz, .ref my, .int sm_, .ref mb, .int bl_, .int ta_, .int tl_, .int tk_, .int vl_, .ref mx, .ref mv])), (nw, .inl (cn_, 350, .inl fn)), (mq, .inl (cs_, 6, .inl fs_)), (mz, .inl (cz_, 6, .inl fz_)), (my, .inl (cy_, 6, .inl fb_)), (mr, .inl (cr_, 3, .inl fr_))] s.heap.size = A at hD ⊢
  have hA : ∀ q : Nat, s.heap.size ≤ q → A q := fun q h => by rw [← hAe]; exact Or.inr h
  have hS : va_S A s.heap s.heap [] := va_S.rf
  have hP : va_P (dC, dI) vwCl [(mo, .inr (12, [.ref nw, .ref kp, .ref ik, .ref mr, .long la_, .long lb_, .ref mw, .long lc_, .int ti_, .int cb_, .long ld_, .long le_, .ref mq, .ref mz, .ref my, .int sm_, .ref mb, .int bl_, .int ta_, .int tl_, .int tk_, .int vl_, .ref mx, .ref mv])), (nw, .inl (cn_, 350, .inl fn)), (mq, .inl (cs_, 6, .inl fs_)), (mz, .inl (cz_, 6, .inl fz_)), (my, .inl (cy_, 6, .inl fb_)), (mr, .inl (cr_, 3, .inl fr_))] s.heap := hP
  have hl := lv_entry ([.ref mo, .int na, .int nb]) (n := 9) (Nat.le_of_ble_eq_true rfl)
  rw [lg_entry_eq]
  generalize (lg_sl ([.ref mo, .int na, .int nb]) ++ List.replicate (9 - (lg_sl ([.ref mo, .int na, .int nb])).length) Slot.unset).toArray = ls at hl ⊢
  have hl : lv_has ls 9 [(0, .ref mo), (1, .int na), (2, .int nb)] := hl
  refine lv_iload_n hx hb dX12_look_0 rfl (lv_at hl 1 rfl) ?_
  refine vp_callSi (va_Run.run (va_runS (As := [.int na]) (rest := []) ⟨hx, hb, hml, hown, hts⟩ (m_isOff l dC dI na) (va_cwS 1 hts gX12_look_X12_isOff rfl rfl rfl (by decide +kernel) ⟨Nat.le_of_ble_eq_true rfl, Nat.le_of_ble_eq_true rfl⟩) ⟨fun a U g mk q => ⟨q.1, trivial⟩, fun U hU hW => ⟨rfl, trivial⟩⟩ rfl rfl hl.1 rfl (lv_room (Nat.le_of_ble_eq_true rfl)) dX12_look_1 ⟨Nat.le_of_ble_eq_true rfl, Nat.le_of_ble_eq_true rfl⟩)) (fun r_1 hw_2 => ?_)
  by_cases hc_3 : (-198) ≤ na ∧ na ≤ 198
  · obtain rfl : 1 = r_1 := (hw_2.trans (if_pos hc_3)).symm
    refine lv_if_eq (tgt := 11) hx hb dX12_look_4 (by decide) (fun c_4 => ?_) (fun c_4 => ?_)
    · exact absurd c_4 (by decide)
    · refine lv_iload_n hx hb dX12_look_7 rfl (lv_at hl 2 rfl) ?_
      refine lv_if_ge (tgt := 18) hx hb dX12_look_8 (by decide) (fun c_5 => ?_) (fun c_5 => ?_)
      · refine lv_aload_n hx hb dX12_look_18 rfl (lv_at hl 0 rfl) ?_
        refine lv_iload_n hx hb dX12_look_19 rfl (lv_at hl 1 rfl) ?_
        obtain ⟨j_6, hj_7, ej_8⟩ := hOn.nat (K := 3) (n := 6) (by omega) (show tz_b 3 = (0, 6) from by decide)
        have hPc := hP.sub (ws' := [(mo, .inr (12, [.ref nw, .ref kp, .ref ik, .ref mr, .long la_, .long lb_, .ref mw, .long lc_, .int ti_, .int cb_, .long ld_, .long le_, .ref mq, .ref mz, .ref my, .int sm_, .ref mb, .int bl_, .int ta_, .int tl_, .int tk_, .int vl_, .ref mx, .ref mv])), (nw, .inl (cn_, 350, .inl fn)), (mq, .inl (cs_, 6, .inl fs_)), (mz, .inl (cz_, 6, .inl fz_))]) [0, 1, 2, 3] rfl
        have hDc := hD.sub (ws' := [(mo, .inr (12, [.ref nw, .ref kp, .ref ik, .ref mr, .long la_, .long lb_, .ref mw, .long lc_, .int ti_, .int cb_, .long ld_, .long le_, .ref mq, .ref mz, .ref my, .int sm_, .ref mb, .int bl_, .int ta_, .int tl_, .int tk_, .int vl_, .ref mx, .ref mv])), (nw, .inl (cn_, 350, .inl fn)), (mq, .inl (cs_, 6, .inl fs_)), (mz, .inl (cz_, 6, .inl fz_))]) [0, 1, 2, 3] (by decide) rfl
        have hKc := hK.sub (tys' := [(cn_, .int), (cs_, .int), (cz_, .int)]) [0, 1, 2] rfl
        have hFc := va_free (wc := [(mo, .inr (12, [.ref nw, .ref kp, .ref ik, .ref mr, .long la_, .long lb_, .ref mw, .long lc_, .int ti_, .int cb_, .long ld_, .long le_, .ref mq, .ref mz, .ref my, .int sm_, .ref mb, .int bl_, .int ta_, .int tl_, .int tk_, .int vl_, .ref mx, .ref mv])), (nw, .inl (cn_, 350, .inl fn)), (mq, .inl (cs_, 6, .inl fs_)), (mz, .inl (cz_, 6, .inl fz_))]) hD hS hA [0, 1, 2, 3] rfl
        refine va_callv (va_runV (As := [.int na]) (rest := []) ⟨hx, hb, hml, hown, hts⟩ (m_laySought l dC dI mo nw kp ik mr la_ lb_ mw lc_ ti_ cb_ ld_ le_ mq mz my sm_ mb bl_ ta_ tl_ tk_ vl_ mx mv cn_ fn cs_ fs_ cz_ fz_ na j_6 s.heap.size hOn ej_8 (by omega)) (cwV 1 hts gX12_look_X12_laySought rfl rfl rfl (by decide +kernel) ⟨Nat.le_of_ble_eq_true rfl, Nat.le_of_ble_eq_true rfl⟩) ⟨fun a U g mk q => by obtain ⟨q0, q1, qP, qK, qD⟩ := q; exact ⟨q0, q1, qP, va_K.moved (u := U) (U := U.calling g mk a) (Vm.Alike.refl U.vm) qK, qD⟩, va_recv hK hP (ci := 12) (q0 := 0) rfl rfl, fun U hU hW => ⟨rfl, by rw [hU], by rw [hU]; exact hPc, va_K.moved hW.alike hKc, hDc.weaken (fun _ _ _ _ => trivial)⟩⟩ rfl rfl hl.1 rfl (lv_room (Nat.le_of_ble_eq_true rfl)) dX12_look_20 ⟨Nat.le_of_ble_eq_true rfl, Nat.le_of_ble_eq_true rfl⟩) hS (fun q _ h => hFc q h) hFc (fun u_ t H1 locs ht hvm hw_10 hB hz1 hk1 hS => ?_)
        obtain ⟨gs__11, gz__12, gs_13, hf_14, hf_15, hf_16, hP1, hK1, hD1⟩ := hB
        rw [ht] at hP1
        have hK1 := va_K.moved hvm.symm hK1
        obtain ⟨hP, hD⟩ := va_join (wr := [(my, .inl (cy_, 6, .inl fb_)), (mr, .inl (cr_, 3, .inl fr_))]) (w1 := [(mo, .inr (12, [.ref nw, .ref kp, .ref ik, .ref mr, .long la_, .long lb_, .ref mw, .long lc_, .int ti_, .int cb_, .long ld_, .long le_, .ref mq, .ref mz, .ref my, .int (nI gs_13), .ref mb, .int bl_, .int ta_, .int tl_, .int tk_, .int vl_, .ref mx, .ref mv])), (nw, .inl (cn_, 350, .inl fn)), (mq, .inl (cs_, 6, .inl gs__11)), (mz, .inl (cz_, 6, .inl gz__12))]) hP hD [0, 1, 2, 3] [4, 5] rfl rfl (by decide) (by decide) hk1 hFc hP1 hD1
        generalize H1 = H at hP hS ⊢
        have hP : va_P (dC, dI) vwCl [(my, .inl (cy_, 6, .inl fb_)), (mr, .inl (cr_, 3, .inl fr_)), (mo, .inr (12, [.ref nw, .ref kp, .ref ik, .ref mr, .long la_, .long lb_, .ref mw, .long lc_, .int ti_, .int cb_, .long ld_, .long le_, .ref mq, .ref mz, .ref my, .int (nI gs_13), .ref mb, .int bl_, .int ta_, .int tl_, .int tk_, .int vl_, .ref mx, .ref mv])), (nw, .inl (cn_, 350, .inl fn)), (mq, .inl (cs_, 6, .inl gs__11)), (mz, .inl (cz_, 6, .inl gz__12))] H := hP
        have hD : va_D A [(my, .inl (cy_, 6, .inl fb_)), (mr, .inl (cr_, 3, .inl fr_)), (mo, .inr (12, [.ref nw, .ref kp, .ref ik, .ref mr, .long la_, .long lb_, .ref mw, .long lc_, .int ti_, .int cb_, .long ld_, .long le_, .ref mq, .ref mz, .ref my, .int (nI gs_13), .ref mb, .int bl_, .int ta_, .int tl_, .int tk_, .int vl_, .ref mx, .ref mv])), (nw, .inl (cn_, 350, .inl fn)), (mq, .inl (cs_, 6, .inl gs__11)), (mz, .inl (cz_, 6, .inl gz__12))] := hD
        refine lv_iload_n hx hb dX12_look_23 rfl (lv_at hl 2 rfl) ?_
        refine lv_aload_n hx hb dX12_look_24 rfl (lv_at hl 0 rfl) ?_
        refine va_get (D := (dC, dI)) (ci := 12) (v := .int (nI gs_13)) (C := RX12) (T := TX12) (N := 24) hx hb hts iw_m_look_X12 hown hK hP 2 rfl rfl 15 (by decide) (hts (.fieldLink RX12 218 "ThriceCountedModel" "soughtMany" "I") (by decide +kernel)) (fun _ h9 => h9) rfl dX12_look_25 ?_
        refine lv_icmp_lt (tgt := 34) hx hb dX12_look_28 (by decide) (fun c_17 => ?_) (fun c_17 => ?_)
        · obtain ⟨j_18, hj_19, rfl⟩ := tz_belowI ⟨c_5, c_17⟩ (by omega)
          have hv_20 : tz_Di gs_13 gz__12 := hf_16.di (by omega)
          refine lv_ldc2 hx hb hown (hts (.constantLong RX12 224 (-1)) (by decide +kernel)) dX12_look_34 ?_
          refine lv_lstore_n (lv' := [(3, .long (-1)), (0, .ref mo), (1, .int na), (2, .int (nI j_18))]) hx hb dX12_look_37 rfl hl (by decide) rfl (fun ls hl => ?_)
          refine lv_iconst (v := 1) hx hb dX12_look_38 (by decide) ?_
          refine lv_istore (lv' := [(5, .int 1), (3, .long (-1)), (0, .ref mo), (1, .int na), (2, .int (nI j_18))]) hx hb dX12_look_39 hl (by decide) rfl (fun ls hl => ?_)
          refine tz_while (σ := Int32 × Int64 × (Nat → Int32) × (Nat → Int32) × Heap × List Loc × Array Slot) (fun x => W p l e _ s m _ below meth c x.2.2.2.2.1 x.2.2.2.2.2.1 _ _ _ (F0 m 41 x.2.2.2.2.2.2 [])) (fun x => tz_Di gs_13 x.2.2.2.1 ∧ va_P (dC, dI) vwCl [(my, .inl (cy_, 6, .inl x.2.2.1)), (mr, .inl (cr_, 3, .inl fr_)), (mo, .inr (12, [.ref nw, .ref kp, .ref ik, .ref mr, .long la_, .long lb_, .ref mw, .long lc_, .int ti_, .int cb_, .long ld_, .long le_, .ref mq, .ref mz, .ref my, .int (nI gs_13), .ref mb, .int bl_, .int ta_, .int tl_, .int tk_, .int vl_, .ref mx, .ref mv])), (nw, .inl (cn_, 350, .inl fn)), (mq, .inl (cs_, 6, .inl gs__11)), (mz, .inl (cz_, 6, .inl x.2.2.2.1))] x.2.2.2.2.1 ∧ va_D A [(my, .inl (cy_, 6, .inl x.2.2.1)), (mr, .inl (cr_, 3, .inl fr_)), (mo, .inr (12, [.ref nw, .ref kp, .ref ik, .ref mr, .long la_, .long lb_, .ref mw, .long lc_, .int ti_, .int cb_, .long ld_, .long le_, .ref mq, .ref mz, .ref my, .int (nI gs_13), .ref mb, .int bl_, .int ta_, .int tl_, .int tk_, .int vl_, .ref mx, .ref mv])), (nw, .inl (cn_, 350, .inl fn)), (mq, .inl (cs_, 6, .inl gs__11)), (mz, .inl (cz_, 6, .inl x.2.2.2.1))] ∧ va_S A s.heap x.2.2.2.2.1 x.2.2.2.2.2.1 ∧ lv_has x.2.2.2.2.2.2 9 [(5, .int x.1), (3, .long x.2.1), (0, .ref mo), (1, .int na), (2, .int (nI j_18))]) (fun x => 2 * (46656 - tz_val gs_13 x.2.2.2.1).toNat + tz_fl x.1) ?_ (1, (-1), fb_, gz__12, H, locs, ls) ⟨hv_20, hP, hD, hS, hl⟩
          rintro ⟨v_59, v_60, f_61, f_62, H, locs, ls⟩ ⟨hi_129_0, hP, hD, hS, hl⟩ ih_130
          dsimp only at hi_129_0 hP hD hS hl ih_130 ⊢
          refine lv_iload hx hb dX12_look_41 (lv_at hl 0 rfl) ?_
          refine lv_if_eq (tgt := 111) hx hb dX12_look_43 (by decide) (fun c_131 => ?_) (fun c_131 => ?_)
          · refine lv_aload_n hx hb dX12_look_111 rfl (lv_at hl 2 rfl) ?_
            refine lv_lload_n hx hb dX12_look_112 rfl (lv_at hl 1 rfl) ?_
            refine lv_ldc2 hx hb hown (hts (.constantLong RX12 59 (10)) (by decide +kernel)) dX12_look_113 ?_
            refine lv_aload_n hx hb dX12_look_116 rfl (lv_at hl 2 rfl) ?_
            have hPc_132 := hP.sub (ws' := [(mo, .inr (12, [.ref nw, .ref kp, .ref ik, .ref mr, .long la_, .long lb_, .ref mw, .long lc_, .int ti_, .int cb_, .long ld_, .long le_, .ref mq, .ref mz, .ref my, .int (nI gs_13), .ref mb, .int bl_, .int ta_, .int tl_, .int tk_, .int vl_, .ref mx, .ref mv])), (nw, .inl (cn_, 350, .inl fn)), (mq, .inl (cs_, 6, .inl gs__11))]) [2, 3, 4] rfl
            have hKc_133 := hK.sub (tys' := [(cn_, .int), (cs_, .int)]) [0, 1] rfl
            refine vp_callSi (va_Run.run (va_runV (As := []) (rest := [.long 10, .long v_60, .ref mo]) ⟨hx, hb, hml, hown, hts⟩ (m_allOdds l dC dI mo nw kp ik mr la_ lb_ mw lc_ ti_ cb_ ld_ le_ mq mz my gs_13 mb bl_ ta_ tl_ tk_ vl_ mx mv cn_ fn cs_ gs__11 j_6 hOn ej_8 (by omega) hf_14 hf_15) (cwV 0 hts gX12_look_X12_allOdds rfl rfl rfl (by decide +kernel) ⟨Nat.le_of_ble_eq_true rfl, Nat.le_of_ble_eq_true rfl⟩) ⟨fun a U g mk q => by obtain ⟨q0, qP, qK⟩ := q; exact ⟨q0, qP, va_K.moved (u := U) (U := U.calling g mk a) (Vm.Alike.refl U.vm) qK⟩, va_recv hK hP (ci := 12) (q0 := 2) rfl rfl, fun U hU hW => ⟨rfl, by rw [hU]; exact hPc_132, va_K.moved hW.alike hKc_133⟩⟩ rfl rfl hl.1 rfl (lv_room (Nat.le_of_ble_eq_true rfl)) dX12_look_117 ⟨Nat.le_of_ble_eq_true rfl, Nat.le_of_ble_eq_true rfl⟩)) (fun r_134 hw_135 => ?_)
            refine lv_i2l (v := r_134.toInt64) hx hb dX12_look_120 rfl ?_
            refine lv_lmul hx hb dX12_look_121 ?_
            have hPc := hP.sub (ws' := [(mo, .inr (12, [.ref nw, .ref kp, .ref ik, .ref mr, .long la_, .long lb_, .ref mw, .long lc_, .int ti_, .int cb_, .long ld_, .long le_, .ref mq, .ref mz, .ref my, .int (nI gs_13), .ref mb, .int bl_, .int ta_, .int tl_, .int tk_, .int vl_, .ref mx, .ref mv]))]) [2] rfl
            have hDc := hD.sub (ws' := [(mo, .inr (12, [.ref nw, .ref kp, .ref ik, .ref mr, .long la_, .long lb_, .ref mw, .long lc_, .int ti_, .int cb_, .long ld_, .long le_, .ref mq, .ref mz, .ref my, .int (nI gs_13), .ref mb, .int bl_, .int ta_, .int tl_, .int tk_, .int vl_, .ref mx, .ref mv]))]) [2] (by decide) rfl
            have hKc := hK.sub (tys' := []) [] rfl
            have hFc := va_free (wc := [(mo, .inr (12, [.ref nw, .ref kp, .ref ik, .ref mr, .long la_, .long lb_, .ref mw, .long lc_, .int ti_, .int cb_, .long ld_, .long le_, .ref mq, .ref mz, .ref my, .int (nI gs_13), .ref mb, .int bl_, .int ta_, .int tl_, .int tk_, .int vl_, .ref mx, .ref mv]))]) hD hS hA [2] rfl
            refine va_callv (va_runV (As := [.long v_60, .long (10 * r_134.toInt64)]) (rest := []) ⟨hx, hb, hml, hown, hts⟩ (m_fraction l dC dI mo nw kp ik mr la_ lb_ mw lc_ ti_ cb_ ld_ le_ mq mz my (nI gs_13) mb bl_ ta_ tl_ tk_ vl_ mx mv v_60 (10 * r_134.toInt64) H.size (hw_135.ne (by omega) (by omega))) (cwV 2 hts gX12_look_X12_fraction rfl rfl rfl (by decide +kernel) ⟨Nat.le_of_ble_eq_true rfl, Nat.le_of_ble_eq_true rfl⟩) ⟨fun a U g mk q => by obtain ⟨q0, q1, qP, qK, qD⟩ := q; exact ⟨q0, q1, qP, va_K.moved (u := U) (U := U.calling g mk a) (Vm.Alike.refl U.vm) qK, qD⟩, va_recv hK hP (ci := 12) (q0 := 2) rfl rfl, fun U hU hW => ⟨rfl, by rw [hU], by rw [hU]; exact hPc, va_K.moved hW.alike hKc, hDc.weaken (fun _ _ _ _ => trivial)⟩⟩ rfl rfl hl.1 rfl (lv_room (Nat.le_of_ble_eq_true rfl)) dX12_look_122 ⟨Nat.le_of_ble_eq_true rfl, Nat.le_of_ble_eq_true rfl⟩) hS (fun q _ h => hFc q h) hFc (fun u_ t H1 locs ht hvm hw_137 hB hz1 hk1 hS => ?_)
            obtain ⟨h_above_138, h_below_139, hP1, hK1, hD1⟩ := hB
            rw [ht] at hP1
            have hK1 := va_K.moved hvm.symm hK1
            obtain ⟨hP, hD⟩ := va_join (wr := [(my, .inl (cy_, 6, .inl f_61)), (mr, .inl (cr_, 3, .inl fr_)), (nw, .inl (cn_, 350, .inl fn)), (mq, .inl (cs_, 6, .inl gs__11)), (mz, .inl (cz_, 6, .inl f_62))]) (w1 := [(mo, .inr (12, [.ref nw, .ref kp, .ref ik, .ref mr, .long h_above_138, .long h_below_139, .ref mw, .long lc_, .int ti_, .int cb_, .long ld_, .long le_, .ref mq, .ref mz, .ref my, .int (nI gs_13), .ref mb, .int bl_, .int ta_, .int tl_, .int tk_, .int vl_, .ref mx, .ref mv]))]) hP hD [2] [0, 1, 3, 4, 5] rfl rfl (by decide) (by decide) hk1 hFc hP1 hD1
            generalize H1 = H at hP hS ⊢
            have hP : va_P (dC, dI) vwCl [(my, .inl (cy_, 6, .inl f_61)), (mr, .inl (cr_, 3, .inl fr_)), (nw, .inl (cn_, 350, .inl fn)), (mq, .inl (cs_, 6, .inl gs__11)), (mz, .inl (cz_, 6, .inl f_62)), (mo, .inr (12, [.ref nw, .ref kp, .ref ik, .ref mr, .long h_above_138, .long h_below_139, .ref mw, .long lc_, .int ti_, .int cb_, .long ld_, .long le_, .ref mq, .ref mz, .ref my, .int (nI gs_13), .ref mb, .int bl_, .int ta_, .int tl_, .int tk_, .int vl_, .ref mx, .ref mv]))] H := hP
            have hD : va_D A [(my, .inl (cy_, 6, .inl f_61)), (mr, .inl (cr_, 3, .inl fr_)), (nw, .inl (cn_, 350, .inl fn)), (mq, .inl (cs_, 6, .inl gs__11)), (mz, .inl (cz_, 6, .inl f_62)), (mo, .inr (12, [.ref nw, .ref kp, .ref ik, .ref mr, .long h_above_138, .long h_below_139, .ref mw, .long lc_, .int ti_, .int cb_, .long ld_, .long le_, .ref mq, .ref mz, .ref my, .int (nI gs_13), .ref mb, .int bl_, .int ta_, .int tl_, .int tk_, .int vl_, .ref mx, .ref mv]))] := hD
            refine lv_aload_n hx hb dX12_look_125 rfl (lv_at hl 2 rfl) ?_
            refine va_get (D := (dC, dI)) (ci := 12) (v := .ref my) (C := RX12) (T := TX12) (N := 24) hx hb hts iw_m_look_X12 hown hK hP 5 rfl rfl 14 (by decide) (hts (.fieldLink RX12 37 "ThriceCountedModel" "bestOrder" "[I") (by decide +kernel)) (fun _ h9 => h9) rfl dX12_look_126 ?_
            refine lv_iload_n hx hb dX12_look_129 rfl (lv_at hl 4 rfl) ?_
            refine va_iald hx hb hK hP 0 3 rfl rfl (vp_in_nI (n := j_18) (N := 6) (by omega) (by decide)) dX12_look_130 ?_
            refine lv_topi (fun x_140 _ => ?_)
            have hP9 := hP.sub (ws' := [(mo, .inr (12, [.ref nw, .ref kp, .ref ik, .ref mr, .long h_above_138, .long h_below_139, .ref mw, .long lc_, .int ti_, .int cb_, .long ld_, .long le_, .ref mq, .ref mz, .ref my, .int (nI gs_13), .ref mb, .int bl_, .int ta_, .int tl_, .int tk_, .int vl_, .ref mx, .ref mv])), (nw, .inl (cn_, 350, .inl fn)), (mq, .inl (cs_, 6, .inl gs__11)), (mz, .inl (cz_, 6, .inl f_62)), (my, .inl (cy_, 6, .inl f_61)), (mr, .inl (cr_, 3, .inl fr_))]) [5, 2, 3, 4, 0, 1] rfl
            have hD9 := hD.sub (ws' := [(mo, .inr (12, [.ref nw, .ref kp, .ref ik, .ref mr, .long h_above_138, .long h_below_139, .ref mw, .long lc_, .int ti_, .int cb_, .long ld_, .long le_, .ref mq, .ref mz, .ref my, .int (nI gs_13), .ref mb, .int bl_, .int ta_, .int tl_, .int tk_, .int vl_, .ref mx, .ref mv])), (nw, .inl (cn_, 350, .inl fn)), (mq, .inl (cs_, 6, .inl gs__11)), (mz, .inl (cz_, 6, .inl f_62)), (my, .inl (cy_, 6, .inl f_61)), (mr, .inl (cr_, 3, .inl fr_))]) [5, 2, 3, 4, 0, 1] (by decide) rfl
            have hK9 := hK.sub (tys' := [(cn_, .int), (cs_, .int), (cz_, .int), (cy_, .int), (cr_, .int)]) [0, 1, 2, 3, 4] rfl
            exact W.iret (v := x_140) hx hb hr (fun t ht hW => ⟨⟨x_140, (), rfl, trivial, h_above_138, h_below_139, gs__11, f_62, f_61, fr_, (nI gs_13), by rw [ht]; exact hP9, va_K.moved hW.alike hK9, hD9⟩, hS.F ht⟩) hS.2.2 dX12_look_131
          · refine lv_aload_n hx hb dX12_look_46 rfl (lv_at hl 2 rfl) ?_
            have hPc_141 := hP.sub (ws' := [(mo, .inr (12, [.ref nw, .ref kp, .ref ik, .ref mr, .long la_, .long lb_, .ref mw, .long lc_, .int ti_, .int cb_, .long ld_, .long le_, .ref mq, .ref mz, .ref my, .int (nI gs_13), .ref mb, .int bl_, .int ta_, .int tl_, .int tk_, .int vl_, .ref mx, .ref mv])), (nw, .inl (cn_, 350, .inl fn)), (mz, .inl (cz_, 6, .inl f_62))]) [2, 3, 5] rfl
            have hKc_142 := hK.sub (tys' := [(cn_, .int), (cz_, .int)]) [0, 2] rfl
            refine vp_callSl (va_Run.run (va_runV (As := []) (rest := []) ⟨hx, hb, hml, hown, hts⟩ (m_meanOf l dC dI mo nw kp ik mr la_ lb_ mw lc_ ti_ cb_ ld_ le_ mq mz my gs_13 mb bl_ ta_ tl_ tk_ vl_ mx mv cn_ fn cz_ f_62 hOn hf_14 hi_129_0) (cwV 0 hts gX12_look_X12_meanOf rfl rfl rfl (by decide +kernel) ⟨Nat.le_of_ble_eq_true rfl, Nat.le_of_ble_eq_true rfl⟩) ⟨fun a U g mk q => by obtain ⟨q0, qP, qK⟩ := q; exact ⟨q0, qP, va_K.moved (u := U) (U := U.calling g mk a) (Vm.Alike.refl U.vm) qK⟩, va_recv hK hP (ci := 12) (q0 := 2) rfl rfl, fun U hU hW => ⟨rfl, by rw [hU]; exact hPc_141, va_K.moved hW.alike hKc_142⟩⟩ rfl rfl hl.1 rfl (lv_room (Nat.le_of_ble_eq_true rfl)) dX12_look_47 ⟨Nat.le_of_ble_eq_true rfl, Nat.le_of_ble_eq_true rfl⟩)) (fun r_143 hw_144 => ?_)
            refine lv_lstore (lv' := [(6, .long r_143), (5, .int v_59), (3, .long v_60), (0, .ref mo), (1, .int na), (2, .int (nI j_18))]) hx hb dX12_look_50 hl (by decide) rfl (fun ls hl => ?_)
            refine lv_lload_n hx hb dX12_look_52 rfl (lv_at hl 2 rfl) ?_
            refine lv_ldc2 hx hb hown (hts (.constantLong RX12 224 (-1)) (by decide +kernel)) dX12_look_53 ?_
            refine W.lcmp hx hb dX12_look_56 ?_
            refine lv_if_eq (tgt := 67) hx hb dX12_look_57 (by decide) (fun c_145 => ?_) (fun c_145 => ?_)
            · refine lv_lload hx hb dX12_look_67 (lv_at hl 0 rfl) ?_
              refine lv_lstore_n (lv' := [(3, .long r_143), (6, .long r_143), (5, .int v_59), (0, .ref mo), (1, .int na), (2, .int (nI j_18))]) hx hb dX12_look_69 rfl hl (by decide) rfl (fun ls hl => ?_)
              refine lv_iconst (v := 0) hx hb dX12_look_70 (by decide) ?_
              refine lv_istore (lv' := [(8, .int 0), (3, .long r_143), (6, .long r_143), (5, .int v_59), (0, .ref mo), (1, .int na), (2, .int (nI j_18))]) hx hb dX12_look_71 hl (by decide) rfl (fun ls hl => ?_)
              refine tz_while (σ := Nat × (Nat → Int32) × Heap × List Loc × Array Slot) (fun x => W p l e _ s m _ below meth c x.2.2.1 x.2.2.2.1 _ _ _ (F0 m 73 x.2.2.2.2 [])) (fun x => x.1 ≤ gs_13 ∧ va_P (dC, dI) vwCl [(my, .inl (cy_, 6, .inl x.2.1)), (mr, .inl (cr_, 3, .inl fr_)), (mo, .inr (12, [.ref nw, .ref kp, .ref ik, .ref mr, .long la_, .long lb_, .ref mw, .long lc_, .int ti_, .int cb_, .long ld_, .long le_, .ref mq, .ref mz, .ref my, .int (nI gs_13), .ref mb, .int bl_, .int ta_, .int tl_, .int tk_, .int vl_, .ref mx, .ref mv])), (nw, .inl (cn_, 350, .inl fn)), (mq, .inl (cs_, 6, .inl gs__11)), (mz, .inl (cz_, 6, .inl f_62))] x.2.2.1 ∧ va_D A [(my, .inl (cy_, 6, .inl x.2.1)), (mr, .inl (cr_, 3, .inl fr_)), (mo, .inr (12, [.ref nw, .ref kp, .ref ik, .ref mr, .long la_, .long lb_, .ref mw, .long lc_, .int ti_, .int cb_, .long ld_, .long le_, .ref mq, .ref mz, .ref my, .int (nI gs_13), .ref mb, .int bl_, .int ta_, .int tl_, .int tk_, .int vl_, .ref mx, .ref mv])), (nw, .inl (cn_, 350, .inl fn)), (mq, .inl (cs_, 6, .inl gs__11)), (mz, .inl (cz_, 6, .inl f_62))] ∧ va_S A s.heap x.2.2.1 x.2.2.2.1 ∧ lv_has x.2.2.2.2 9 [(8, .int (nI x.1)), (3, .long r_143), (6, .long r_143), (5, .int v_59), (0, .ref mo), (1, .int na), (2, .int (nI j_18))]) (fun x => gs_13 - x.1) ?_ (0, f_61, H, locs, ls) ⟨by (try dsimp only); omega, hP, hD, hS, hl⟩
              rintro ⟨k_146, f_154, H, locs, ls⟩ ⟨hi_162_0, hP, hD, hS, hl⟩ ih_163
              dsimp only at hi_162_0 hP hD hS hl ih_163 ⊢
              refine lv_iload hx hb dX12_look_73 (lv_at hl 0 rfl) ?_
              refine lv_aload_n hx hb dX12_look_75 rfl (lv_at hl 4 rfl) ?_
              refine va_get (D := (dC, dI)) (ci := 12) (v := .int (nI gs_13)) (C := RX12) (T := TX12) (N := 24) hx hb hts iw_m_look_X12 hown hK hP 2 rfl rfl 15 (by decide) (hts (.fieldLink RX12 218 "ThriceCountedModel" "soughtMany" "I") (by decide +kernel)) (fun _ h9 => h9) rfl dX12_look_76 ?_
              refine lv_icmp_ge (tgt := 102) hx hb dX12_look_79 (by decide) (fun c_164 => ?_) (fun c_164 => ?_)
              · have hn_165 : gs_13 ≤ k_146 := (nI_leI (a := gs_13) (b := k_146) (by omega) (by omega)).mp c_164
                refine lv_aload_n hx hb dX12_look_102 rfl (lv_at hl 4 rfl) ?_
                have hPc := hP.sub (ws' := [(mo, .inr (12, [.ref nw, .ref kp, .ref ik, .ref mr, .long la_, .long lb_, .ref mw, .long lc_, .int ti_, .int cb_, .long ld_, .long le_, .ref mq, .ref mz, .ref my, .int (nI gs_13), .ref mb, .int bl_, .int ta_, .int tl_, .int tk_, .int vl_, .ref mx, .ref mv])), (mz, .inl (cz_, 6, .inl f_62))]) [2, 5] rfl
                have hDc := hD.sub (ws' := [(mo, .inr (12, [.ref nw, .ref kp, .ref ik, .ref mr, .long la_, .long lb_, .ref mw, .long lc_, .int ti_, .int cb_, .long ld_, .long le_, .ref mq, .ref mz, .ref my, .int (nI gs_13), .ref mb, .int bl_, .int ta_, .int tl_, .int tk_, .int vl_, .ref mx, .ref mv])), (mz, .inl (cz_, 6, .inl f_62))]) [2, 5] (by decide) rfl
                have hKc := hK.sub (tys' := [(cz_, .int)]) [2] rfl
                have hFc := va_free (wc := [(mo, .inr (12, [.ref nw, .ref kp, .ref ik, .ref mr, .long la_, .long lb_, .ref mw, .long lc_, .int ti_, .int cb_, .long ld_, .long le_, .ref mq, .ref mz, .ref my, .int (nI gs_13), .ref mb, .int bl_, .int ta_, .int tl_, .int tk_, .int vl_, .ref mx, .ref mv])), (mz, .inl (cz_, 6, .inl f_62))]) hD hS hA [2, 5] rfl
                refine va_calli (va_runV (As := []) (rest := []) ⟨hx, hb, hml, hown, hts⟩ (m_nextOrder l dC dI mo nw kp ik mr la_ lb_ mw lc_ ti_ cb_ ld_ le_ mq mz my gs_13 mb bl_ ta_ tl_ tk_ vl_ mx mv cz_ f_62 H.size hf_14 hi_129_0) (cwV 0 hts gX12_look_X12_nextOrder rfl rfl rfl (by decide +kernel) ⟨Nat.le_of_ble_eq_true rfl, Nat.le_of_ble_eq_true rfl⟩) ⟨fun a U g mk q => by obtain ⟨q0, q1, qP, qK, qD⟩ := q; exact ⟨q0, q1, qP, va_K.moved (u := U) (U := U.calling g mk a) (Vm.Alike.refl U.vm) qK, qD⟩, va_recv hK hP (ci := 12) (q0 := 2) rfl rfl, fun U hU hW => ⟨rfl, by rw [hU], by rw [hU]; exact hPc, va_K.moved hW.alike hKc, hDc.weaken (fun _ _ _ _ => trivial)⟩⟩ rfl rfl hl.1 rfl (lv_room (Nat.le_of_ble_eq_true rfl)) dX12_look_103 ⟨Nat.le_of_ble_eq_true rfl, Nat.le_of_ble_eq_true rfl⟩) hS (fun q _ h => hFc q h) hFc (fun r_166 u_ t H1 locs ht hvm hw_167 hB hz1 hk1 hS => ?_)
                obtain ⟨gz__168, hf_169, hf_170, hf_171, hP1, hK1, hD1⟩ := hB
                rw [ht] at hP1
                have hK1 := va_K.moved hvm.symm hK1
                obtain ⟨hP, hD⟩ := va_join (wr := [(my, .inl (cy_, 6, .inl f_154)), (mr, .inl (cr_, 3, .inl fr_)), (nw, .inl (cn_, 350, .inl fn)), (mq, .inl (cs_, 6, .inl gs__11))]) (w1 := [(mo, .inr (12, [.ref nw, .ref kp, .ref ik, .ref mr, .long la_, .long lb_, .ref mw, .long lc_, .int ti_, .int cb_, .long ld_, .long le_, .ref mq, .ref mz, .ref my, .int (nI gs_13), .ref mb, .int bl_, .int ta_, .int tl_, .int tk_, .int vl_, .ref mx, .ref mv])), (mz, .inl (cz_, 6, .inl gz__168))]) hP hD [2, 5] [0, 1, 3, 4] rfl rfl (by decide) (by decide) hk1 hFc hP1 hD1
                generalize H1 = H at hP hS ⊢
                have hP : va_P (dC, dI) vwCl [(my, .inl (cy_, 6, .inl f_154)), (mr, .inl (cr_, 3, .inl fr_)), (nw, .inl (cn_, 350, .inl fn)), (mq, .inl (cs_, 6, .inl gs__11)), (mo, .inr (12, [.ref nw, .ref kp, .ref ik, .ref mr, .long la_, .long lb_, .ref mw, .long lc_, .int ti_, .int cb_, .long ld_, .long le_, .ref mq, .ref mz, .ref my, .int (nI gs_13), .ref mb, .int bl_, .int ta_, .int tl_, .int tk_, .int vl_, .ref mx, .ref mv])), (mz, .inl (cz_, 6, .inl gz__168))] H := hP
                have hD : va_D A [(my, .inl (cy_, 6, .inl f_154)), (mr, .inl (cr_, 3, .inl fr_)), (nw, .inl (cn_, 350, .inl fn)), (mq, .inl (cs_, 6, .inl gs__11)), (mo, .inr (12, [.ref nw, .ref kp, .ref ik, .ref mr, .long la_, .long lb_, .ref mw, .long lc_, .int ti_, .int cb_, .long ld_, .long le_, .ref mq, .ref mz, .ref my, .int (nI gs_13), .ref mb, .int bl_, .int ta_, .int tl_, .int tk_, .int vl_, .ref mx, .ref mv])), (mz, .inl (cz_, 6, .inl gz__168))] := hD
                rcases hw_167 with rfl | ⟨rfl, hq_172⟩
                · refine lv_istore (lv' := [(5, .int 0), (8, .int (nI k_146)), (3, .long r_143), (6, .long r_143), (0, .ref mo), (1, .int na), (2, .int (nI j_18))]) hx hb dX12_look_106 hl (by decide) rfl (fun ls hl => ?_)
                  refine lv_goto (tgt := 41) hx hb dX12_look_108 (by decide) ?_
                  have hP := hP.sub (ws' := [(my, .inl (cy_, 6, .inl f_154)), (mr, .inl (cr_, 3, .inl fr_)), (mo, .inr (12, [.ref nw, .ref kp, .ref ik, .ref mr, .long la_, .long lb_, .ref mw, .long lc_, .int ti_, .int cb_, .long ld_, .long le_, .ref mq, .ref mz, .ref my, .int (nI gs_13), .ref mb, .int bl_, .int ta_, .int tl_, .int tk_, .int vl_, .ref mx, .ref mv])), (nw, .inl (cn_, 350, .inl fn)), (mq, .inl (cs_, 6, .inl gs__11)), (mz, .inl (cz_, 6, .inl gz__168))]) [0, 1, 4, 2, 3, 5] rfl
                  have hD := hD.sub (ws' := [(my, .inl (cy_, 6, .inl f_154)), (mr, .inl (cr_, 3, .inl fr_)), (mo, .inr (12, [.ref nw, .ref kp, .ref ik, .ref mr, .long la_, .long lb_, .ref mw, .long lc_, .int ti_, .int cb_, .long ld_, .long le_, .ref mq, .ref mz, .ref my, .int (nI gs_13), .ref mb, .int bl_, .int ta_, .int tl_, .int tk_, .int vl_, .ref mx, .ref mv])), (nw, .inl (cn_, 350, .inl fn)), (mq, .inl (cs_, 6, .inl gs__11)), (mz, .inl (cz_, 6, .inl gz__168))]) [0, 1, 4, 2, 3, 5] (by decide) rfl
                  exact ih_130 (0, r_143, f_154, gz__168, H, locs, ls) ⟨hf_169, hP, hD, hS, lv_sub hl [0, 2, 4, 5, 6] rfl⟩ (tz_lk0 hf_170 c_131)
                · refine lv_istore (lv' := [(5, .int 1), (8, .int (nI k_146)), (3, .long r_143), (6, .long r_143), (0, .ref mo), (1, .int na), (2, .int (nI j_18))]) hx hb dX12_look_106 hl (by decide) rfl (fun ls hl => ?_)
                  refine lv_goto (tgt := 41) hx hb dX12_look_108 (by decide) ?_
                  have hP := hP.sub (ws' := [(my, .inl (cy_, 6, .inl f_154)), (mr, .inl (cr_, 3, .inl fr_)), (mo, .inr (12, [.ref nw, .ref kp, .ref ik, .ref mr, .long la_, .long lb_, .ref mw, .long lc_, .int ti_, .int cb_, .long ld_, .long le_, .ref mq, .ref mz, .ref my, .int (nI gs_13), .ref mb, .int bl_, .int ta_, .int tl_, .int tk_, .int vl_, .ref mx, .ref mv])), (nw, .inl (cn_, 350, .inl fn)), (mq, .inl (cs_, 6, .inl gs__11)), (mz, .inl (cz_, 6, .inl gz__168))]) [0, 1, 4, 2, 3, 5] rfl
                  have hD := hD.sub (ws' := [(my, .inl (cy_, 6, .inl f_154)), (mr, .inl (cr_, 3, .inl fr_)), (mo, .inr (12, [.ref nw, .ref kp, .ref ik, .ref mr, .long la_, .long lb_, .ref mw, .long lc_, .int ti_, .int cb_, .long ld_, .long le_, .ref mq, .ref mz, .ref my, .int (nI gs_13), .ref mb, .int bl_, .int ta_, .int tl_, .int tk_, .int vl_, .ref mx, .ref mv])), (nw, .inl (cn_, 350, .inl fn)), (mq, .inl (cs_, 6, .inl gs__11)), (mz, .inl (cz_, 6, .inl gz__168))]) [0, 1, 4, 2, 3, 5] (by decide) rfl
                  exact ih_130 (1, r_143, f_154, gz__168, H, locs, ls) ⟨hf_169, hP, hD, hS, lv_sub hl [0, 2, 4, 5, 6] rfl⟩ (tz_lk1 (hf_171 hq_172) hf_169 c_131)
              · have hn_173 : ¬ gs_13 ≤ k_146 := fun q => c_164 ((nI_leI (a := gs_13) (b := k_146) (by omega) (by omega)).mpr q)
                refine lv_aload_n hx hb dX12_look_82 rfl (lv_at hl 4 rfl) ?_
                refine va_get (D := (dC, dI)) (ci := 12) (v := .ref my) (C := RX12) (T := TX12) (N := 24) hx hb hts iw_m_look_X12 hown hK hP 2 rfl rfl 14 (by decide) (hts (.fieldLink RX12 37 "ThriceCountedModel" "bestOrder" "[I") (by decide +kernel)) (fun _ h9 => h9) rfl dX12_look_83 ?_
                refine lv_iload hx hb dX12_look_86 (lv_at hl 0 rfl) ?_
                refine lv_aload_n hx hb dX12_look_88 rfl (lv_at hl 4 rfl) ?_
                refine va_get (D := (dC, dI)) (ci := 12) (v := .ref mz) (C := RX12) (T := TX12) (N := 24) hx hb hts iw_m_look_X12 hown hK hP 2 rfl rfl 13 (by decide) (hts (.fieldLink RX12 34 "ThriceCountedModel" "order" "[I") (by decide +kernel)) (fun _ h9 => h9) rfl dX12_look_89 ?_
                refine lv_iload hx hb dX12_look_92 (lv_at hl 0 rfl) ?_
                refine va_iald hx hb hK hP 5 2 rfl rfl (vp_in_nI (n := k_146) (N := 6) (by omega) (by decide)) dX12_look_94 ?_
                obtain ⟨j_174, hj_175, ej_176⟩ := hi_129_0.natc (K := k_146) (by omega) (by omega)
                refine tz_i (nI j_174) ej_176 ?_
                refine va_iast hx hb hK hP hD hS 0 3 rfl rfl (vp_in_nI (n := k_146) (N := 6) (by omega) (by decide)) dX12_look_95 (fun H locs hP hD hS => ?_)
                generalize (upd f_154 (Int32.toNatClampNeg (nI k_146)) (nI j_174)) = f_177 at hP hD
                have hP : va_P (dC, dI) vwCl [(my, .inl (cy_, 6, .inl f_177)), (mr, .inl (cr_, 3, .inl fr_)), (mo, .inr (12, [.ref nw, .ref kp, .ref ik, .ref mr, .long la_, .long lb_, .ref mw, .long lc_, .int ti_, .int cb_, .long ld_, .long le_, .ref mq, .ref mz, .ref my, .int (nI gs_13), .ref mb, .int bl_, .int ta_, .int tl_, .int tk_, .int vl_, .ref mx, .ref mv])), (nw, .inl (cn_, 350, .inl fn)), (mq, .inl (cs_, 6, .inl gs__11)), (mz, .inl (cz_, 6, .inl f_62))] H := hP
                have hD : va_D A [(my, .inl (cy_, 6, .inl f_177)), (mr, .inl (cr_, 3, .inl fr_)), (mo, .inr (12, [.ref nw, .ref kp, .ref ik, .ref mr, .long la_, .long lb_, .ref mw, .long lc_, .int ti_, .int cb_, .long ld_, .long le_, .ref mq, .ref mz, .ref my, .int (nI gs_13), .ref mb, .int bl_, .int ta_, .int tl_, .int tk_, .int vl_, .ref mx, .ref mv])), (nw, .inl (cn_, 350, .inl fn)), (mq, .inl (cs_, 6, .inl gs__11)), (mz, .inl (cz_, 6, .inl f_62))] := hD
                refine lv_iinc (v := (nI (k_146 + 1))) (lv' := [(8, .int (nI (k_146 + 1))), (3, .long r_143), (6, .long r_143), (5, .int v_59), (0, .ref mo), (1, .int na), (2, .int (nI j_18))]) hx hb dX12_look_96 hl (k := 0) rfl (nI_add k_146 1) (by decide) rfl (fun ls hl => ?_)
                refine lv_goto (tgt := 73) hx hb dX12_look_99 (by decide) ?_
                exact ih_163 ((k_146 + 1), f_177, H, locs, ls) ⟨by dsimp only; omega, hP, hD, hS, lv_sub hl [0, 1, 2, 3, 4, 5, 6] rfl⟩ (by dsimp only; omega)
            · refine lv_lload hx hb dX12_look_60 (lv_at hl 0 rfl) ?_
              refine lv_lload_n hx hb dX12_look_62 rfl (lv_at hl 2 rfl) ?_
              refine W.lcmp hx hb dX12_look_63 ?_
              refine lv_if_ge (tgt := 102) hx hb dX12_look_64 (by decide) (fun c_178 => ?_) (fun c_178 => ?_)
              · refine lv_aload_n hx hb dX12_look_102 rfl (lv_at hl 3 rfl) ?_
                have hPc := hP.sub (ws' := [(mo, .inr (12, [.ref nw, .ref kp, .ref ik, .ref mr, .long la_, .long lb_, .ref mw, .long lc_, .int ti_, .int cb_, .long ld_, .long le_, .ref mq, .ref mz, .ref my, .int (nI gs_13), .ref mb, .int bl_, .int ta_, .int tl_, .int tk_, .int vl_, .ref mx, .ref mv])), (mz, .inl (cz_, 6, .inl f_62))]) [2, 5] rfl
                have hDc := hD.sub (ws' := [(mo, .inr (12, [.ref nw, .ref kp, .ref ik, .ref mr, .long la_, .long lb_, .ref mw, .long lc_, .int ti_, .int cb_, .long ld_, .long le_, .ref mq, .ref mz, .ref my, .int (nI gs_13), .ref mb, .int bl_, .int ta_, .int tl_, .int tk_, .int vl_, .ref mx, .ref mv])), (mz, .inl (cz_, 6, .inl f_62))]) [2, 5] (by decide) rfl
                have hKc := hK.sub (tys' := [(cz_, .int)]) [2] rfl
                have hFc := va_free (wc := [(mo, .inr (12, [.ref nw, .ref kp, .ref ik, .ref mr, .long la_, .long lb_, .ref mw, .long lc_, .int ti_, .int cb_, .long ld_, .long le_, .ref mq, .ref mz, .ref my, .int (nI gs_13), .ref mb, .int bl_, .int ta_, .int tl_, .int tk_, .int vl_, .ref mx, .ref mv])), (mz, .inl (cz_, 6, .inl f_62))]) hD hS hA [2, 5] rfl
                refine va_calli (va_runV (As := []) (rest := []) ⟨hx, hb, hml, hown, hts⟩ (m_nextOrder l dC dI mo nw kp ik mr la_ lb_ mw lc_ ti_ cb_ ld_ le_ mq mz my gs_13 mb bl_ ta_ tl_ tk_ vl_ mx mv cz_ f_62 H.size hf_14 hi_129_0) (cwV 0 hts gX12_look_X12_nextOrder rfl rfl rfl (by decide +kernel) ⟨Nat.le_of_ble_eq_true rfl, Nat.le_of_ble_eq_true rfl⟩) ⟨fun a U g mk q => by obtain ⟨q0, q1, qP, qK, qD⟩ := q; exact ⟨q0, q1, qP, va_K.moved (u := U) (U := U.calling g mk a) (Vm.Alike.refl U.vm) qK, qD⟩, va_recv hK hP (ci := 12) (q0 := 2) rfl rfl, fun U hU hW => ⟨rfl, by rw [hU], by rw [hU]; exact hPc, va_K.moved hW.alike hKc, hDc.weaken (fun _ _ _ _ => trivial)⟩⟩ rfl rfl hl.1 rfl (lv_room (Nat.le_of_ble_eq_true rfl)) dX12_look_103 ⟨Nat.le_of_ble_eq_true rfl, Nat.le_of_ble_eq_true rfl⟩) hS (fun q _ h => hFc q h) hFc (fun r_179 u_ t H1 locs ht hvm hw_180 hB hz1 hk1 hS => ?_)
                obtain ⟨gz__181, hf_182, hf_183, hf_184, hP1, hK1, hD1⟩ := hB
                rw [ht] at hP1
                have hK1 := va_K.moved hvm.symm hK1
                obtain ⟨hP, hD⟩ := va_join (wr := [(my, .inl (cy_, 6, .inl f_61)), (mr, .inl (cr_, 3, .inl fr_)), (nw, .inl (cn_, 350, .inl fn)), (mq, .inl (cs_, 6, .inl gs__11))]) (w1 := [(mo, .inr (12, [.ref nw, .ref kp, .ref ik, .ref mr, .long la_, .long lb_, .ref mw, .long lc_, .int ti_, .int cb_, .long ld_, .long le_, .ref mq, .ref mz, .ref my, .int (nI gs_13), .ref mb, .int bl_, .int ta_, .int tl_, .int tk_, .int vl_, .ref mx, .ref mv])), (mz, .inl (cz_, 6, .inl gz__181))]) hP hD [2, 5] [0, 1, 3, 4] rfl rfl (by decide) (by decide) hk1 hFc hP1 hD1
                generalize H1 = H at hP hS ⊢
                have hP : va_P (dC, dI) vwCl [(my, .inl (cy_, 6, .inl f_61)), (mr, .inl (cr_, 3, .inl fr_)), (nw, .inl (cn_, 350, .inl fn)), (mq, .inl (cs_, 6, .inl gs__11)), (mo, .inr (12, [.ref nw, .ref kp, .ref ik, .ref mr, .long la_, .long lb_, .ref mw, .long lc_, .int ti_, .int cb_, .long ld_, .long le_, .ref mq, .ref mz, .ref my, .int (nI gs_13), .ref mb, .int bl_, .int ta_, .int tl_, .int tk_, .int vl_, .ref mx, .ref mv])), (mz, .inl (cz_, 6, .inl gz__181))] H := hP
                have hD : va_D A [(my, .inl (cy_, 6, .inl f_61)), (mr, .inl (cr_, 3, .inl fr_)), (nw, .inl (cn_, 350, .inl fn)), (mq, .inl (cs_, 6, .inl gs__11)), (mo, .inr (12, [.ref nw, .ref kp, .ref ik, .ref mr, .long la_, .long lb_, .ref mw, .long lc_, .int ti_, .int cb_, .long ld_, .long le_, .ref mq, .ref mz, .ref my, .int (nI gs_13), .ref mb, .int bl_, .int ta_, .int tl_, .int tk_, .int vl_, .ref mx, .ref mv])), (mz, .inl (cz_, 6, .inl gz__181))] := hD
                rcases hw_180 with rfl | ⟨rfl, hq_185⟩
                · refine lv_istore (lv' := [(5, .int 0), (6, .long r_143), (3, .long v_60), (0, .ref mo), (1, .int na), (2, .int (nI j_18))]) hx hb dX12_look_106 hl (by decide) rfl (fun ls hl => ?_)
                  refine lv_goto (tgt := 41) hx hb dX12_look_108 (by decide) ?_
                  have hP := hP.sub (ws' := [(my, .inl (cy_, 6, .inl f_61)), (mr, .inl (cr_, 3, .inl fr_)), (mo, .inr (12, [.ref nw, .ref kp, .ref ik, .ref mr, .long la_, .long lb_, .ref mw, .long lc_, .int ti_, .int cb_, .long ld_, .long le_, .ref mq, .ref mz, .ref my, .int (nI gs_13), .ref mb, .int bl_, .int ta_, .int tl_, .int tk_, .int vl_, .ref mx, .ref mv])), (nw, .inl (cn_, 350, .inl fn)), (mq, .inl (cs_, 6, .inl gs__11)), (mz, .inl (cz_, 6, .inl gz__181))]) [0, 1, 4, 2, 3, 5] rfl
                  have hD := hD.sub (ws' := [(my, .inl (cy_, 6, .inl f_61)), (mr, .inl (cr_, 3, .inl fr_)), (mo, .inr (12, [.ref nw, .ref kp, .ref ik, .ref mr, .long la_, .long lb_, .ref mw, .long lc_, .int ti_, .int cb_, .long ld_, .long le_, .ref mq, .ref mz, .ref my, .int (nI gs_13), .ref mb, .int bl_, .int ta_, .int tl_, .int tk_, .int vl_, .ref mx, .ref mv])), (nw, .inl (cn_, 350, .inl fn)), (mq, .inl (cs_, 6, .inl gs__11)), (mz, .inl (cz_, 6, .inl gz__181))]) [0, 1, 4, 2, 3, 5] (by decide) rfl
                  exact ih_130 (0, v_60, f_61, gz__181, H, locs, ls) ⟨hf_182, hP, hD, hS, lv_sub hl [0, 2, 3, 4, 5] rfl⟩ (tz_lk0 hf_183 c_131)
                · refine lv_istore (lv' := [(5, .int 1), (6, .long r_143), (3, .long v_60), (0, .ref mo), (1, .int na), (2, .int (nI j_18))]) hx hb dX12_look_106 hl (by decide) rfl (fun ls hl => ?_)
                  refine lv_goto (tgt := 41) hx hb dX12_look_108 (by decide) ?_
                  have hP := hP.sub (ws' := [(my, .inl (cy_, 6, .inl f_61)), (mr, .inl (cr_, 3, .inl fr_)), (mo, .inr (12, [.ref nw, .ref kp, .ref ik, .ref mr, .long la_, .long lb_, .ref mw, .long lc_, .int ti_, .int cb_, .long ld_, .long le_, .ref mq, .ref mz, .ref my, .int (nI gs_13), .ref mb, .int bl_, .int ta_, .int tl_, .int tk_, .int vl_, .ref mx, .ref mv])), (nw, .inl (cn_, 350, .inl fn)), (mq, .inl (cs_, 6, .inl gs__11)), (mz, .inl (cz_, 6, .inl gz__181))]) [0, 1, 4, 2, 3, 5] rfl
                  have hD := hD.sub (ws' := [(my, .inl (cy_, 6, .inl f_61)), (mr, .inl (cr_, 3, .inl fr_)), (mo, .inr (12, [.ref nw, .ref kp, .ref ik, .ref mr, .long la_, .long lb_, .ref mw, .long lc_, .int ti_, .int cb_, .long ld_, .long le_, .ref mq, .ref mz, .ref my, .int (nI gs_13), .ref mb, .int bl_, .int ta_, .int tl_, .int tk_, .int vl_, .ref mx, .ref mv])), (nw, .inl (cn_, 350, .inl fn)), (mq, .inl (cs_, 6, .inl gs__11)), (mz, .inl (cz_, 6, .inl gz__181))]) [0, 1, 4, 2, 3, 5] (by decide) rfl
                  exact ih_130 (1, v_60, f_61, gz__181, H, locs, ls) ⟨hf_182, hP, hD, hS, lv_sub hl [0, 2, 3, 4, 5] rfl⟩ (tz_lk1 (hf_184 hq_185) hf_182 c_131)
              · refine lv_lload hx hb dX12_look_67 (lv_at hl 0 rfl) ?_
                refine lv_lstore_n (lv' := [(3, .long r_143), (6, .long r_143), (5, .int v_59), (0, .ref mo), (1, .int na), (2, .int (nI j_18))]) hx hb dX12_look_69 rfl hl (by decide) rfl (fun ls hl => ?_)
                refine lv_iconst (v := 0) hx hb dX12_look_70 (by decide) ?_
                refine lv_istore (lv' := [(8, .int 0), (3, .long r_143), (6, .long r_143), (5, .int v_59), (0, .ref mo), (1, .int na), (2, .int (nI j_18))]) hx hb dX12_look_71 hl (by decide) rfl (fun ls hl => ?_)
                refine tz_while (σ := Nat × (Nat → Int32) × Heap × List Loc × Array Slot) (fun x => W p l e _ s m _ below meth c x.2.2.1 x.2.2.2.1 _ _ _ (F0 m 73 x.2.2.2.2 [])) (fun x => x.1 ≤ gs_13 ∧ va_P (dC, dI) vwCl [(my, .inl (cy_, 6, .inl x.2.1)), (mr, .inl (cr_, 3, .inl fr_)), (mo, .inr (12, [.ref nw, .ref kp, .ref ik, .ref mr, .long la_, .long lb_, .ref mw, .long lc_, .int ti_, .int cb_, .long ld_, .long le_, .ref mq, .ref mz, .ref my, .int (nI gs_13), .ref mb, .int bl_, .int ta_, .int tl_, .int tk_, .int vl_, .ref mx, .ref mv])), (nw, .inl (cn_, 350, .inl fn)), (mq, .inl (cs_, 6, .inl gs__11)), (mz, .inl (cz_, 6, .inl f_62))] x.2.2.1 ∧ va_D A [(my, .inl (cy_, 6, .inl x.2.1)), (mr, .inl (cr_, 3, .inl fr_)), (mo, .inr (12, [.ref nw, .ref kp, .ref ik, .ref mr, .long la_, .long lb_, .ref mw, .long lc_, .int ti_, .int cb_, .long ld_, .long le_, .ref mq, .ref mz, .ref my, .int (nI gs_13), .ref mb, .int bl_, .int ta_, .int tl_, .int tk_, .int vl_, .ref mx, .ref mv])), (nw, .inl (cn_, 350, .inl fn)), (mq, .inl (cs_, 6, .inl gs__11)), (mz, .inl (cz_, 6, .inl f_62))] ∧ va_S A s.heap x.2.2.1 x.2.2.2.1 ∧ lv_has x.2.2.2.2 9 [(8, .int (nI x.1)), (3, .long r_143), (6, .long r_143), (5, .int v_59), (0, .ref mo), (1, .int na), (2, .int (nI j_18))]) (fun x => gs_13 - x.1) ?_ (0, f_61, H, locs, ls) ⟨by (try dsimp only); omega, hP, hD, hS, hl⟩
                rintro ⟨k_186, f_194, H, locs, ls⟩ ⟨hi_202_0, hP, hD, hS, hl⟩ ih_203
                dsimp only at hi_202_0 hP hD hS hl ih_203 ⊢
                refine lv_iload hx hb dX12_look_73 (lv_at hl 0 rfl) ?_
                refine lv_aload_n hx hb dX12_look_75 rfl (lv_at hl 4 rfl) ?_
                refine va_get (D := (dC, dI)) (ci := 12) (v := .int (nI gs_13)) (C := RX12) (T := TX12) (N := 24) hx hb hts iw_m_look_X12 hown hK hP 2 rfl rfl 15 (by decide) (hts (.fieldLink RX12 218 "ThriceCountedModel" "soughtMany" "I") (by decide +kernel)) (fun _ h9 => h9) rfl dX12_look_76 ?_
                refine lv_icmp_ge (tgt := 102) hx hb dX12_look_79 (by decide) (fun c_204 => ?_) (fun c_204 => ?_)
                · have hn_205 : gs_13 ≤ k_186 := (nI_leI (a := gs_13) (b := k_186) (by omega) (by omega)).mp c_204
                  refine lv_aload_n hx hb dX12_look_102 rfl (lv_at hl 4 rfl) ?_
                  have hPc := hP.sub (ws' := [(mo, .inr (12, [.ref nw, .ref kp, .ref ik, .ref mr, .long la_, .long lb_, .ref mw, .long lc_, .int ti_, .int cb_, .long ld_, .long le_, .ref mq, .ref mz, .ref my, .int (nI gs_13), .ref mb, .int bl_, .int ta_, .int tl_, .int tk_, .int vl_, .ref mx, .ref mv])), (mz, .inl (cz_, 6, .inl f_62))]) [2, 5] rfl
                  have hDc := hD.sub (ws' := [(mo, .inr (12, [.ref nw, .ref kp, .ref ik, .ref mr, .long la_, .long lb_, .ref mw, .long lc_, .int ti_, .int cb_, .long ld_, .long le_, .ref mq, .ref mz, .ref my, .int (nI gs_13), .ref mb, .int bl_, .int ta_, .int tl_, .int tk_, .int vl_, .ref mx, .ref mv])), (mz, .inl (cz_, 6, .inl f_62))]) [2, 5] (by decide) rfl
                  have hKc := hK.sub (tys' := [(cz_, .int)]) [2] rfl
                  have hFc := va_free (wc := [(mo, .inr (12, [.ref nw, .ref kp, .ref ik, .ref mr, .long la_, .long lb_, .ref mw, .long lc_, .int ti_, .int cb_, .long ld_, .long le_, .ref mq, .ref mz, .ref my, .int (nI gs_13), .ref mb, .int bl_, .int ta_, .int tl_, .int tk_, .int vl_, .ref mx, .ref mv])), (mz, .inl (cz_, 6, .inl f_62))]) hD hS hA [2, 5] rfl
                  refine va_calli (va_runV (As := []) (rest := []) ⟨hx, hb, hml, hown, hts⟩ (m_nextOrder l dC dI mo nw kp ik mr la_ lb_ mw lc_ ti_ cb_ ld_ le_ mq mz my gs_13 mb bl_ ta_ tl_ tk_ vl_ mx mv cz_ f_62 H.size hf_14 hi_129_0) (cwV 0 hts gX12_look_X12_nextOrder rfl rfl rfl (by decide +kernel) ⟨Nat.le_of_ble_eq_true rfl, Nat.le_of_ble_eq_true rfl⟩) ⟨fun a U g mk q => by obtain ⟨q0, q1, qP, qK, qD⟩ := q; exact ⟨q0, q1, qP, va_K.moved (u := U) (U := U.calling g mk a) (Vm.Alike.refl U.vm) qK, qD⟩, va_recv hK hP (ci := 12) (q0 := 2) rfl rfl, fun U hU hW => ⟨rfl, by rw [hU], by rw [hU]; exact hPc, va_K.moved hW.alike hKc, hDc.weaken (fun _ _ _ _ => trivial)⟩⟩ rfl rfl hl.1 rfl (lv_room (Nat.le_of_ble_eq_true rfl)) dX12_look_103 ⟨Nat.le_of_ble_eq_true rfl, Nat.le_of_ble_eq_true rfl⟩) hS (fun q _ h => hFc q h) hFc (fun r_206 u_ t H1 locs ht hvm hw_207 hB hz1 hk1 hS => ?_)
                  obtain ⟨gz__208, hf_209, hf_210, hf_211, hP1, hK1, hD1⟩ := hB
                  rw [ht] at hP1
                  have hK1 := va_K.moved hvm.symm hK1
                  obtain ⟨hP, hD⟩ := va_join (wr := [(my, .inl (cy_, 6, .inl f_194)), (mr, .inl (cr_, 3, .inl fr_)), (nw, .inl (cn_, 350, .inl fn)), (mq, .inl (cs_, 6, .inl gs__11))]) (w1 := [(mo, .inr (12, [.ref nw, .ref kp, .ref ik, .ref mr, .long la_, .long lb_, .ref mw, .long lc_, .int ti_, .int cb_, .long ld_, .long le_, .ref mq, .ref mz, .ref my, .int (nI gs_13), .ref mb, .int bl_, .int ta_, .int tl_, .int tk_, .int vl_, .ref mx, .ref mv])), (mz, .inl (cz_, 6, .inl gz__208))]) hP hD [2, 5] [0, 1, 3, 4] rfl rfl (by decide) (by decide) hk1 hFc hP1 hD1
                  generalize H1 = H at hP hS ⊢
                  have hP : va_P (dC, dI) vwCl [(my, .inl (cy_, 6, .inl f_194)), (mr, .inl (cr_, 3, .inl fr_)), (nw, .inl (cn_, 350, .inl fn)), (mq, .inl (cs_, 6, .inl gs__11)), (mo, .inr (12, [.ref nw, .ref kp, .ref ik, .ref mr, .long la_, .long lb_, .ref mw, .long lc_, .int ti_, .int cb_, .long ld_, .long le_, .ref mq, .ref mz, .ref my, .int (nI gs_13), .ref mb, .int bl_, .int ta_, .int tl_, .int tk_, .int vl_, .ref mx, .ref mv])), (mz, .inl (cz_, 6, .inl gz__208))] H := hP
                  have hD : va_D A [(my, .inl (cy_, 6, .inl f_194)), (mr, .inl (cr_, 3, .inl fr_)), (nw, .inl (cn_, 350, .inl fn)), (mq, .inl (cs_, 6, .inl gs__11)), (mo, .inr (12, [.ref nw, .ref kp, .ref ik, .ref mr, .long la_, .long lb_, .ref mw, .long lc_, .int ti_, .int cb_, .long ld_, .long le_, .ref mq, .ref mz, .ref my, .int (nI gs_13), .ref mb, .int bl_, .int ta_, .int tl_, .int tk_, .int vl_, .ref mx, .ref mv])), (mz, .inl (cz_, 6, .inl gz__208))] := hD
                  rcases hw_207 with rfl | ⟨rfl, hq_212⟩
                  · refine lv_istore (lv' := [(5, .int 0), (8, .int (nI k_186)), (3, .long r_143), (6, .long r_143), (0, .ref mo), (1, .int na), (2, .int (nI j_18))]) hx hb dX12_look_106 hl (by decide) rfl (fun ls hl => ?_)
                    refine lv_goto (tgt := 41) hx hb dX12_look_108 (by decide) ?_
                    have hP := hP.sub (ws' := [(my, .inl (cy_, 6, .inl f_194)), (mr, .inl (cr_, 3, .inl fr_)), (mo, .inr (12, [.ref nw, .ref kp, .ref ik, .ref mr, .long la_, .long lb_, .ref mw, .long lc_, .int ti_, .int cb_, .long ld_, .long le_, .ref mq, .ref mz, .ref my, .int (nI gs_13), .ref mb, .int bl_, .int ta_, .int tl_, .int tk_, .int vl_, .ref mx, .ref mv])), (nw, .inl (cn_, 350, .inl fn)), (mq, .inl (cs_, 6, .inl gs__11)), (mz, .inl (cz_, 6, .inl gz__208))]) [0, 1, 4, 2, 3, 5] rfl
                    have hD := hD.sub (ws' := [(my, .inl (cy_, 6, .inl f_194)), (mr, .inl (cr_, 3, .inl fr_)), (mo, .inr (12, [.ref nw, .ref kp, .ref ik, .ref mr, .long la_, .long lb_, .ref mw, .long lc_, .int ti_, .int cb_, .long ld_, .long le_, .ref mq, .ref mz, .ref my, .int (nI gs_13), .ref mb, .int bl_, .int ta_, .int tl_, .int tk_, .int vl_, .ref mx, .ref mv])), (nw, .inl (cn_, 350, .inl fn)), (mq, .inl (cs_, 6, .inl gs__11)), (mz, .inl (cz_, 6, .inl gz__208))]) [0, 1, 4, 2, 3, 5] (by decide) rfl
                    exact ih_130 (0, r_143, f_194, gz__208, H, locs, ls) ⟨hf_209, hP, hD, hS, lv_sub hl [0, 2, 4, 5, 6] rfl⟩ (tz_lk0 hf_210 c_131)
                  · refine lv_istore (lv' := [(5, .int 1), (8, .int (nI k_186)), (3, .long r_143), (6, .long r_143), (0, .ref mo), (1, .int na), (2, .int (nI j_18))]) hx hb dX12_look_106 hl (by decide) rfl (fun ls hl => ?_)
                    refine lv_goto (tgt := 41) hx hb dX12_look_108 (by decide) ?_
                    have hP := hP.sub (ws' := [(my, .inl (cy_, 6, .inl f_194)), (mr, .inl (cr_, 3, .inl fr_)), (mo, .inr (12, [.ref nw, .ref kp, .ref ik, .ref mr, .long la_, .long lb_, .ref mw, .long lc_, .int ti_, .int cb_, .long ld_, .long le_, .ref mq, .ref mz, .ref my, .int (nI gs_13), .ref mb, .int bl_, .int ta_, .int tl_, .int tk_, .int vl_, .ref mx, .ref mv])), (nw, .inl (cn_, 350, .inl fn)), (mq, .inl (cs_, 6, .inl gs__11)), (mz, .inl (cz_, 6, .inl gz__208))]) [0, 1, 4, 2, 3, 5] rfl
                    have hD := hD.sub (ws' := [(my, .inl (cy_, 6, .inl f_194)), (mr, .inl (cr_, 3, .inl fr_)), (mo, .inr (12, [.ref nw, .ref kp, .ref ik, .ref mr, .long la_, .long lb_, .ref mw, .long lc_, .int ti_, .int cb_, .long ld_, .long le_, .ref mq, .ref mz, .ref my, .int (nI gs_13), .ref mb, .int bl_, .int ta_, .int tl_, .int tk_, .int vl_, .ref mx, .ref mv])), (nw, .inl (cn_, 350, .inl fn)), (mq, .inl (cs_, 6, .inl gs__11)), (mz, .inl (cz_, 6, .inl gz__208))]) [0, 1, 4, 2, 3, 5] (by decide) rfl
                    exact ih_130 (1, r_143, f_194, gz__208, H, locs, ls) ⟨hf_209, hP, hD, hS, lv_sub hl [0, 2, 4, 5, 6] rfl⟩ (tz_lk1 (hf_211 hq_212) hf_209 c_131)
                · have hn_213 : ¬ gs_13 ≤ k_186 := fun q => c_204 ((nI_leI (a := gs_13) (b := k_186) (by omega) (by omega)).mpr q)
                  refine lv_aload_n hx hb dX12_look_82 rfl (lv_at hl 4 rfl) ?_
                  refine va_get (D := (dC, dI)) (ci := 12) (v := .ref my) (C := RX12) (T := TX12) (N := 24) hx hb hts iw_m_look_X12 hown hK hP 2 rfl rfl 14 (by decide) (hts (.fieldLink RX12 37 "ThriceCountedModel" "bestOrder" "[I") (by decide +kernel)) (fun _ h9 => h9) rfl dX12_look_83 ?_
                  refine lv_iload hx hb dX12_look_86 (lv_at hl 0 rfl) ?_
                  refine lv_aload_n hx hb dX12_look_88 rfl (lv_at hl 4 rfl) ?_
                  refine va_get (D := (dC, dI)) (ci := 12) (v := .ref mz) (C := RX12) (T := TX12) (N := 24) hx hb hts iw_m_look_X12 hown hK hP 2 rfl rfl 13 (by decide) (hts (.fieldLink RX12 34 "ThriceCountedModel" "order" "[I") (by decide +kernel)) (fun _ h9 => h9) rfl dX12_look_89 ?_
                  refine lv_iload hx hb dX12_look_92 (lv_at hl 0 rfl) ?_
                  refine va_iald hx hb hK hP 5 2 rfl rfl (vp_in_nI (n := k_186) (N := 6) (by omega) (by decide)) dX12_look_94 ?_
                  obtain ⟨j_214, hj_215, ej_216⟩ := hi_129_0.natc (K := k_186) (by omega) (by omega)
                  refine tz_i (nI j_214) ej_216 ?_
                  refine va_iast hx hb hK hP hD hS 0 3 rfl rfl (vp_in_nI (n := k_186) (N := 6) (by omega) (by decide)) dX12_look_95 (fun H locs hP hD hS => ?_)
                  generalize (upd f_194 (Int32.toNatClampNeg (nI k_186)) (nI j_214)) = f_217 at hP hD
                  have hP : va_P (dC, dI) vwCl [(my, .inl (cy_, 6, .inl f_217)), (mr, .inl (cr_, 3, .inl fr_)), (mo, .inr (12, [.ref nw, .ref kp, .ref ik, .ref mr, .long la_, .long lb_, .ref mw, .long lc_, .int ti_, .int cb_, .long ld_, .long le_, .ref mq, .ref mz, .ref my, .int (nI gs_13), .ref mb, .int bl_, .int ta_, .int tl_, .int tk_, .int vl_, .ref mx, .ref mv])), (nw, .inl (cn_, 350, .inl fn)), (mq, .inl (cs_, 6, .inl gs__11)), (mz, .inl (cz_, 6, .inl f_62))] H := hP
                  have hD : va_D A [(my, .inl (cy_, 6, .inl f_217)), (mr, .inl (cr_, 3, .inl fr_)), (mo, .inr (12, [.ref nw, .ref kp, .ref ik, .ref mr, .long la_, .long lb_, .ref mw, .long lc_, .int ti_, .int cb_, .long ld_, .long le_, .ref mq, .ref mz, .ref my, .int (nI gs_13), .ref mb, .int bl_, .int ta_, .int tl_, .int tk_, .int vl_, .ref mx, .ref mv])), (nw, .inl (cn_, 350, .inl fn)), (mq, .inl (cs_, 6, .inl gs__11)), (mz, .inl (cz_, 6, .inl f_62))] := hD
                  refine lv_iinc (v := (nI (k_186 + 1))) (lv' := [(8, .int (nI (k_186 + 1))), (3, .long r_143), (6, .long r_143), (5, .int v_59), (0, .ref mo), (1, .int na), (2, .int (nI j_18))]) hx hb dX12_look_96 hl (k := 0) rfl (nI_add k_186 1) (by decide) rfl (fun ls hl => ?_)
                  refine lv_goto (tgt := 73) hx hb dX12_look_99 (by decide) ?_
                  exact ih_203 ((k_186 + 1), f_217, H, locs, ls) ⟨by dsimp only; omega, hP, hD, hS, lv_sub hl [0, 1, 2, 3, 4, 5, 6] rfl⟩ (by dsimp only; omega)
        · refine lv_bipush (v := (-5)) hx hb dX12_look_31 (by decide) ?_
          have hP9 := hP.sub (ws' := [(mo, .inr (12, [.ref nw, .ref kp, .ref ik, .ref mr, .long la_, .long lb_, .ref mw, .long lc_, .int ti_, .int cb_, .long ld_, .long le_, .ref mq, .ref mz, .ref my, .int (nI gs_13), .ref mb, .int bl_, .int ta_, .int tl_, .int tk_, .int vl_, .ref mx, .ref mv])), (nw, .inl (cn_, 350, .inl fn)), (mq, .inl (cs_, 6, .inl gs__11)), (mz, .inl (cz_, 6, .inl gz__12)), (my, .inl (cy_, 6, .inl fb_)), (mr, .inl (cr_, 3, .inl fr_))]) [2, 3, 4, 5, 0, 1] rfl
          have hD9 := hD.sub (ws' := [(mo, .inr (12, [.ref nw, .ref kp, .ref ik, .ref mr, .long la_, .long lb_, .ref mw, .long lc_, .int ti_, .int cb_, .long ld_, .long le_, .ref mq, .ref mz, .ref my, .int (nI gs_13), .ref mb, .int bl_, .int ta_, .int tl_, .int tk_, .int vl_, .ref mx, .ref mv])), (nw, .inl (cn_, 350, .inl fn)), (mq, .inl (cs_, 6, .inl gs__11)), (mz, .inl (cz_, 6, .inl gz__12)), (my, .inl (cy_, 6, .inl fb_)), (mr, .inl (cr_, 3, .inl fr_))]) [2, 3, 4, 5, 0, 1] (by decide) rfl
          have hK9 := hK.sub (tys' := [(cn_, .int), (cs_, .int), (cz_, .int), (cy_, .int), (cr_, .int)]) [0, 1, 2, 3, 4] rfl
          exact W.iret (v := (-5)) hx hb hr (fun t ht hW => ⟨⟨(-5), (), rfl, trivial, la_, lb_, gs__11, gz__12, fb_, fr_, (nI gs_13), by rw [ht]; exact hP9, va_K.moved hW.alike hK9, hD9⟩, hS.F ht⟩) hS.2.2 dX12_look_33
      · refine lv_aload_n hx hb dX12_look_11 rfl (lv_at hl 0 rfl) ?_
        refine lv_bipush (v := (-10)) hx hb dX12_look_12 (by decide) ?_
        have hPc := hP.sub (ws' := [(mo, .inr (12, [.ref nw, .ref kp, .ref ik, .ref mr, .long la_, .long lb_, .ref mw, .long lc_, .int ti_, .int cb_, .long ld_, .long le_, .ref mq, .ref mz, .ref my, .int sm_, .ref mb, .int bl_, .int ta_, .int tl_, .int tk_, .int vl_, .ref mx, .ref mv])), (mr, .inl (cr_, 3, .inl fr_))]) [0, 5] rfl
        have hDc := hD.sub (ws' := [(mo, .inr (12, [.ref nw, .ref kp, .ref ik, .ref mr, .long la_, .long lb_, .ref mw, .long lc_, .int ti_, .int cb_, .long ld_, .long le_, .ref mq, .ref mz, .ref my, .int sm_, .ref mb, .int bl_, .int ta_, .int tl_, .int tk_, .int vl_, .ref mx, .ref mv])), (mr, .inl (cr_, 3, .inl fr_))]) [0, 5] (by decide) rfl
        have hKc := hK.sub (tys' := [(cr_, .int)]) [4] rfl
        have hFc := va_free (wc := [(mo, .inr (12, [.ref nw, .ref kp, .ref ik, .ref mr, .long la_, .long lb_, .ref mw, .long lc_, .int ti_, .int cb_, .long ld_, .long le_, .ref mq, .ref mz, .ref my, .int sm_, .ref mb, .int bl_, .int ta_, .int tl_, .int tk_, .int vl_, .ref mx, .ref mv])), (mr, .inl (cr_, 3, .inl fr_))]) hD hS hA [0, 5] rfl
        refine va_calli (va_runV (As := [.int (-10)]) (rest := []) ⟨hx, hb, hml, hown, hts⟩ (m_bad l dC dI mo nw kp ik mr la_ lb_ mw lc_ ti_ cb_ ld_ le_ mq mz my sm_ mb bl_ ta_ tl_ tk_ vl_ mx mv cr_ fr_ (-10) s.heap.size) (cwV 1 hts gX12_look_X12_bad rfl rfl rfl (by decide +kernel) ⟨Nat.le_of_ble_eq_true rfl, Nat.le_of_ble_eq_true rfl⟩) ⟨fun a U g mk q => by obtain ⟨q0, q1, qP, qK, qD⟩ := q; exact ⟨q0, q1, qP, va_K.moved (u := U) (U := U.calling g mk a) (Vm.Alike.refl U.vm) qK, qD⟩, va_recv hK hP (ci := 12) (q0 := 0) rfl rfl, fun U hU hW => ⟨rfl, by rw [hU], by rw [hU]; exact hPc, va_K.moved hW.alike hKc, hDc.weaken (fun _ _ _ _ => trivial)⟩⟩ rfl rfl hl.1 rfl (lv_room (Nat.le_of_ble_eq_true rfl)) dX12_look_14 ⟨Nat.le_of_ble_eq_true rfl, Nat.le_of_ble_eq_true rfl⟩) hS (fun q _ h => hFc q h) hFc (fun r_218 u_ t H1 locs ht hvm hw_219 hB hz1 hk1 hS => ?_)
        obtain ⟨gr__220, hP1, hK1, hD1⟩ := hB
        rw [ht] at hP1
        have hK1 := va_K.moved hvm.symm hK1
        obtain ⟨hP, hD⟩ := va_join (wr := [(nw, .inl (cn_, 350, .inl fn)), (mq, .inl (cs_, 6, .inl fs_)), (mz, .inl (cz_, 6, .inl fz_)), (my, .inl (cy_, 6, .inl fb_))]) (w1 := [(mo, .inr (12, [.ref nw, .ref kp, .ref ik, .ref mr, .long la_, .long lb_, .ref mw, .long lc_, .int ti_, .int cb_, .long ld_, .long le_, .ref mq, .ref mz, .ref my, .int sm_, .ref mb, .int bl_, .int ta_, .int tl_, .int tk_, .int vl_, .ref mx, .ref mv])), (mr, .inl (cr_, 3, .inl gr__220))]) hP hD [0, 5] [1, 2, 3, 4] rfl rfl (by decide) (by decide) hk1 hFc hP1 hD1
        generalize H1 = H at hP hS ⊢
        have hP : va_P (dC, dI) vwCl [(nw, .inl (cn_, 350, .inl fn)), (mq, .inl (cs_, 6, .inl fs_)), (mz, .inl (cz_, 6, .inl fz_)), (my, .inl (cy_, 6, .inl fb_)), (mo, .inr (12, [.ref nw, .ref kp, .ref ik, .ref mr, .long la_, .long lb_, .ref mw, .long lc_, .int ti_, .int cb_, .long ld_, .long le_, .ref mq, .ref mz, .ref my, .int sm_, .ref mb, .int bl_, .int ta_, .int tl_, .int tk_, .int vl_, .ref mx, .ref mv])), (mr, .inl (cr_, 3, .inl gr__220))] H := hP
        have hD : va_D A [(nw, .inl (cn_, 350, .inl fn)), (mq, .inl (cs_, 6, .inl fs_)), (mz, .inl (cz_, 6, .inl fz_)), (my, .inl (cy_, 6, .inl fb_)), (mo, .inr (12, [.ref nw, .ref kp, .ref ik, .ref mr, .long la_, .long lb_, .ref mw, .long lc_, .int ti_, .int cb_, .long ld_, .long le_, .ref mq, .ref mz, .ref my, .int sm_, .ref mb, .int bl_, .int ta_, .int tl_, .int tk_, .int vl_, .ref mx, .ref mv])), (mr, .inl (cr_, 3, .inl gr__220))] := hD
        obtain rfl : (-10) = r_218 := hw_219.symm
        have hP9 := hP.sub (ws' := [(mo, .inr (12, [.ref nw, .ref kp, .ref ik, .ref mr, .long la_, .long lb_, .ref mw, .long lc_, .int ti_, .int cb_, .long ld_, .long le_, .ref mq, .ref mz, .ref my, .int sm_, .ref mb, .int bl_, .int ta_, .int tl_, .int tk_, .int vl_, .ref mx, .ref mv])), (nw, .inl (cn_, 350, .inl fn)), (mq, .inl (cs_, 6, .inl fs_)), (mz, .inl (cz_, 6, .inl fz_)), (my, .inl (cy_, 6, .inl fb_)), (mr, .inl (cr_, 3, .inl gr__220))]) [4, 0, 1, 2, 3, 5] rfl
        have hD9 := hD.sub (ws' := [(mo, .inr (12, [.ref nw, .ref kp, .ref ik, .ref mr, .long la_, .long lb_, .ref mw, .long lc_, .int ti_, .int cb_, .long ld_, .long le_, .ref mq, .ref mz, .ref my, .int sm_, .ref mb, .int bl_, .int ta_, .int tl_, .int tk_, .int vl_, .ref mx, .ref mv])), (nw, .inl (cn_, 350, .inl fn)), (mq, .inl (cs_, 6, .inl fs_)), (mz, .inl (cz_, 6, .inl fz_)), (my, .inl (cy_, 6, .inl fb_)), (mr, .inl (cr_, 3, .inl gr__220))]) [4, 0, 1, 2, 3, 5] (by decide) rfl
        have hK9 := hK.sub (tys' := [(cn_, .int), (cs_, .int), (cz_, .int), (cy_, .int), (cr_, .int)]) [0, 1, 2, 3, 4] rfl
        exact W.iret (v := (-10)) hx hb hr (fun t ht hW => ⟨⟨(-10), (), rfl, trivial, la_, lb_, fs_, fz_, fb_, gr__220, sm_, by rw [ht]; exact hP9, va_K.moved hW.alike hK9, hD9⟩, hS.F ht⟩) hS.2.2 dX12_look_17
  · obtain rfl : 0 = r_1 := (hw_2.trans (if_neg hc_3)).symm
    refine lv_if_eq (tgt := 11) hx hb dX12_look_4 (by decide) (fun c_221 => ?_) (fun c_221 => ?_)
    · refine lv_aload_n hx hb dX12_look_11 rfl (lv_at hl 0 rfl) ?_
      refine lv_bipush (v := (-10)) hx hb dX12_look_12 (by decide) ?_
      have hPc := hP.sub (ws' := [(mo, .inr (12, [.ref nw, .ref kp, .ref ik, .ref mr, .long la_, .long lb_, .ref mw, .long lc_, .int ti_, .int cb_, .long ld_, .long le_, .ref mq, .ref mz, .ref my, .int sm_, .ref mb, .int bl_, .int ta_, .int tl_, .int tk_, .int vl_, .ref mx, .ref mv])), (mr, .inl (cr_, 3, .inl fr_))]) [0, 5] rfl
      have hDc := hD.sub (ws' := [(mo, .inr (12, [.ref nw, .ref kp, .ref ik, .ref mr, .long la_, .long lb_, .ref mw, .long lc_, .int ti_, .int cb_, .long ld_, .long le_, .ref mq, .ref mz, .ref my, .int sm_, .ref mb, .int bl_, .int ta_, .int tl_, .int tk_, .int vl_, .ref mx, .ref mv])), (mr, .inl (cr_, 3, .inl fr_))]) [0, 5] (by decide) rfl
      have hKc := hK.sub (tys' := [(cr_, .int)]) [4] rfl
      have hFc := va_free (wc := [(mo, .inr (12, [.ref nw, .ref kp, .ref ik, .ref mr, .long la_, .long lb_, .ref mw, .long lc_, .int ti_, .int cb_, .long ld_, .long le_, .ref mq, .ref mz, .ref my, .int sm_, .ref mb, .int bl_, .int ta_, .int tl_, .int tk_, .int vl_, .ref mx, .ref mv])), (mr, .inl (cr_, 3, .inl fr_))]) hD hS hA [0, 5] rfl
      refine va_calli (va_runV (As := [.int (-10)]) (rest := []) ⟨hx, hb, hml, hown, hts⟩ (m_bad l dC dI mo nw kp ik mr la_ lb_ mw lc_ ti_ cb_ ld_ le_ mq mz my sm_ mb bl_ ta_ tl_ tk_ vl_ mx mv cr_ fr_ (-10) s.heap.size) (cwV 1 hts gX12_look_X12_bad rfl rfl rfl (by decide +kernel) ⟨Nat.le_of_ble_eq_true rfl, Nat.le_of_ble_eq_true rfl⟩) ⟨fun a U g mk q => by obtain ⟨q0, q1, qP, qK, qD⟩ := q; exact ⟨q0, q1, qP, va_K.moved (u := U) (U := U.calling g mk a) (Vm.Alike.refl U.vm) qK, qD⟩, va_recv hK hP (ci := 12) (q0 := 0) rfl rfl, fun U hU hW => ⟨rfl, by rw [hU], by rw [hU]; exact hPc, va_K.moved hW.alike hKc, hDc.weaken (fun _ _ _ _ => trivial)⟩⟩ rfl rfl hl.1 rfl (lv_room (Nat.le_of_ble_eq_true rfl)) dX12_look_14 ⟨Nat.le_of_ble_eq_true rfl, Nat.le_of_ble_eq_true rfl⟩) hS (fun q _ h => hFc q h) hFc (fun r_222 u_ t H1 locs ht hvm hw_223 hB hz1 hk1 hS => ?_)
      obtain ⟨gr__224, hP1, hK1, hD1⟩ := hB
      rw [ht] at hP1
      have hK1 := va_K.moved hvm.symm hK1
      obtain ⟨hP, hD⟩ := va_join (wr := [(nw, .inl (cn_, 350, .inl fn)), (mq, .inl (cs_, 6, .inl fs_)), (mz, .inl (cz_, 6, .inl fz_)), (my, .inl (cy_, 6, .inl fb_))]) (w1 := [(mo, .inr (12, [.ref nw, .ref kp, .ref ik, .ref mr, .long la_, .long lb_, .ref mw, .long lc_, .int ti_, .int cb_, .long ld_, .long le_, .ref mq, .ref mz, .ref my, .int sm_, .ref mb, .int bl_, .int ta_, .int tl_, .int tk_, .int vl_, .ref mx, .ref mv])), (mr, .inl (cr_, 3, .inl gr__224))]) hP hD [0, 5] [1, 2, 3, 4] rfl rfl (by decide) (by decide) hk1 hFc hP1 hD1
      generalize H1 = H at hP hS ⊢
      have hP : va_P (dC, dI) vwCl [(nw, .inl (cn_, 350, .inl fn)), (mq, .inl (cs_, 6, .inl fs_)), (mz, .inl (cz_, 6, .inl fz_)), (my, .inl (cy_, 6, .inl fb_)), (mo, .inr (12, [.ref nw, .ref kp, .ref ik, .ref mr, .long la_, .long lb_, .ref mw, .long lc_, .int ti_, .int cb_, .long ld_, .long le_, .ref mq, .ref mz, .ref my, .int sm_, .ref mb, .int bl_, .int ta_, .int tl_, .int tk_, .int vl_, .ref mx, .ref mv])), (mr, .inl (cr_, 3, .inl gr__224))] H := hP
      have hD : va_D A [(nw, .inl (cn_, 350, .inl fn)), (mq, .inl (cs_, 6, .inl fs_)), (mz, .inl (cz_, 6, .inl fz_)), (my, .inl (cy_, 6, .inl fb_)), (mo, .inr (12, [.ref nw, .ref kp, .ref ik, .ref mr, .long la_, .long lb_, .ref mw, .long lc_, .int ti_, .int cb_, .long ld_, .long le_, .ref mq, .ref mz, .ref my, .int sm_, .ref mb, .int bl_, .int ta_, .int tl_, .int tk_, .int vl_, .ref mx, .ref mv])), (mr, .inl (cr_, 3, .inl gr__224))] := hD
      obtain rfl : (-10) = r_222 := hw_223.symm
      have hP9 := hP.sub (ws' := [(mo, .inr (12, [.ref nw, .ref kp, .ref ik, .ref mr, .long la_, .long lb_, .ref mw, .long lc_, .int ti_, .int cb_, .long ld_, .long le_, .ref mq, .ref mz, .ref my, .int sm_, .ref mb, .int bl_, .int ta_, .int tl_, .int tk_, .int vl_, .ref mx, .ref mv])), (nw, .inl (cn_, 350, .inl fn)), (mq, .inl (cs_, 6, .inl fs_)), (mz, .inl (cz_, 6, .inl fz_)), (my, .inl (cy_, 6, .inl fb_)), (mr, .inl (cr_, 3, .inl gr__224))]) [4, 0, 1, 2, 3, 5] rfl
      have hD9 := hD.sub (ws' := [(mo, .inr (12, [.ref nw, .ref kp, .ref ik, .ref mr, .long la_, .long lb_, .ref mw, .long lc_, .int ti_, .int cb_, .long ld_, .long le_, .ref mq, .ref mz, .ref my, .int sm_, .ref mb, .int bl_, .int ta_, .int tl_, .int tk_, .int vl_, .ref mx, .ref mv])), (nw, .inl (cn_, 350, .inl fn)), (mq, .inl (cs_, 6, .inl fs_)), (mz, .inl (cz_, 6, .inl fz_)), (my, .inl (cy_, 6, .inl fb_)), (mr, .inl (cr_, 3, .inl gr__224))]) [4, 0, 1, 2, 3, 5] (by decide) rfl
      have hK9 := hK.sub (tys' := [(cn_, .int), (cs_, .int), (cz_, .int), (cy_, .int), (cr_, .int)]) [0, 1, 2, 3, 4] rfl
      exact W.iret (v := (-10)) hx hb hr (fun t ht hW => ⟨⟨(-10), (), rfl, trivial, la_, lb_, fs_, fz_, fb_, gr__224, sm_, by rw [ht]; exact hP9, va_K.moved hW.alike hK9, hD9⟩, hS.F ht⟩) hS.2.2 dX12_look_17
    · exact absurd c_221 (by decide)
