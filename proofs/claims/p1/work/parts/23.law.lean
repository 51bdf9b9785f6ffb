set_option maxRecDepth 20000 in
theorem gL_law_X11_wrong : GoodIn lw_tbl (wsV RL 90 RX11 yX11_wrong wsX11_wrong) := tz_good [(33, 3), (33, 4), (33, 5), (0, 2), (33, 6), (1, 10), (11, 15), (1, 17), (1, 6), (2, 1), (10, 4), (10, 5), (10, 6), (3, 4), (10, 7), (3, 15), (7, 7), (7, 8), (7, 9), (0, 2), (7, 10), (7, 11), (7, 12), (7, 13), (7, 14), (2, 6), (10, 8), (10, 9), (10, 10), (10, 11), (3, 22), (3, 21), (8, 8), (8, 9), (8, 10), (8, 11), (29, 9), (29, 10), (29, 11), (1, 16), (29, 12), (4, 3), (29, 13), (29, 14), (29, 15), (29, 16), (29, 17), (29, 18), (29, 19), (29, 20), (5, 22), (5, 23), (6, 0), (29, 21), (29, 22), (29, 23), (30, 0), (4, 4), (30, 1), (24, 1), (24, 2), (24, 3), (24, 4), (0, 17), (24, 5), (24, 6), (24, 7), (24, 2), (0, 14), (24, 9), (24, 10), (24, 11), (0, 23), (24, 12), (24, 13), (24, 14), (24, 15), (24, 16), (0, 20), (24, 17), (30, 1), (24, 19), (24, 20), (24, 21), (1, 5), (24, 22), (24, 23), (25, 0), (25, 1), (25, 2), (1, 2), (25, 3), (25, 4), (25, 5), (25, 6), (25, 7), (30, 3), (30, 4), (30, 5), (30, 6), (30, 7), (30, 8), (30, 9), (30, 10), (6, 9), (6, 10), (6, 11), (2, 0), (6, 12), (4, 22), (4, 23), (6, 13), (6, 14), (6, 15), (46, 0), (46, 1), (46, 2), (46, 3), (46, 4), (46, 5), (46, 6), (46, 7), (46, 8), (46, 9), (46, 10), (46, 11), (54, 0), (54, 1), (54, 2), (54, 3), (54, 4), (54, 5), (58, 0), (58, 1), (58, 2), (58, 3), (55, 0), (55, 1), (57, 0), (57, 1)] (by decide +kernel) (by decide +kernel)
set_option maxRecDepth 20000 in
theorem gL_law_X12_wrong : GoodIn lw_tbl (wsV RL 93 RX12 yX12_wrong wsX12_wrong) := tz_good [(33, 7), (33, 8), (33, 9), (0, 5), (33, 10), (30, 15), (9, 19), (9, 20), (5, 9), (14, 3), (14, 4), (14, 5), (0, 5), (14, 6), (5, 4), (8, 17), (8, 18), (8, 19), (8, 20), (8, 21), (8, 22), (8, 23), (5, 7), (28, 10), (28, 11), (28, 12), (28, 13), (30, 16), (30, 17), (30, 18), (30, 19), (30, 20), (30, 21), (30, 22), (30, 23), (31, 0), (31, 1), (11, 4), (11, 5), (11, 6), (11, 7), (27, 1), (27, 2), (27, 3), (27, 4), (27, 5), (27, 6), (27, 7), (27, 8), (27, 9), (27, 10), (27, 11), (27, 12), (27, 13), (27, 14), (14, 19), (14, 20), (14, 21), (14, 22), (31, 2), (31, 3), (31, 4), (31, 5), (31, 6), (5, 8), (47, 0), (47, 1), (47, 2), (47, 3), (47, 4), (47, 5), (47, 6), (47, 7), (47, 8), (47, 9), (47, 10), (47, 11), (47, 12), (47, 13), (47, 14), (47, 15), (47, 16), (47, 17), (47, 18), (47, 19), (47, 20), (47, 21), (47, 22), (47, 23)] (by decide +kernel) (by decide +kernel)
theorem dL_law_672 : decode cL_law 672 = .ok (.aload_n 1, 1) := by decide +kernel
theorem dL_law_673 : decode cL_law 673 = .ok (.aload_n 0, 1) := by decide +kernel
theorem dL_law_674 : decode cL_law 674 = .ok (.iload_n 3, 1) := by decide +kernel
theorem dL_law_675 : decode cL_law 675 = .ok (.iconst 1, 1) := by decide +kernel
theorem dL_law_676 : decode cL_law 676 = .ok (.iadd, 1) := by decide +kernel
theorem dL_law_677 : decode cL_law 677 = .ok (.iaload, 1) := by decide +kernel
theorem dL_law_678 : decode cL_law 678 = .ok (.invokevirtual 90, 3) := by decide +kernel
theorem dL_law_681 : decode cL_law 681 = .ok (.aload_n 2, 1) := by decide +kernel
theorem dL_law_682 : decode cL_law 682 = .ok (.aload_n 0, 1) := by decide +kernel
theorem dL_law_683 : decode cL_law 683 = .ok (.iload_n 3, 1) := by decide +kernel
theorem dL_law_684 : decode cL_law 684 = .ok (.iconst 1, 1) := by decide +kernel
theorem dL_law_685 : decode cL_law 685 = .ok (.iadd, 1) := by decide +kernel
theorem dL_law_686 : decode cL_law 686 = .ok (.iaload, 1) := by decide +kernel
theorem dL_law_687 : decode cL_law 687 = .ok (.invokevirtual 93, 3) := by decide +kernel
theorem dL_law_690 : decode cL_law 690 = .ok (.if_icmp .eq 465, 3) := by decide +kernel
set_option maxHeartbeats 4000000 in
set_option maxRecDepth 100000 in
theorem lc_wrong {p : Program} {l : Launch} {e : Env} {s : State} {m : MethodId} {below : List Frame} {meth : Method} {c : Code} {b : Nat} {xs : Nat → Int32} (C0 : lw_At p s m meth c b 6 xs) (hN : tz_N s) (A : Nat → Prop) (hA : ∀ q : Nat, s.heap.size ≤ q → A q) (hA2 : ∀ q : Nat, A q → s.heap.size ≤ q) (hbA : ¬ A b) (dC : Nat → ClassId) (dI : Nat → Nat → Nat) (o : Nat) (aw : Nat) (bk : Nat) (ai : Nat) (ak : Nat) (sc : Nat) (rd : Nat) (fo : Nat) (tx : Nat) (ar : Nat) (atr : Nat) (ao : Nat) (rk0 : Nat) (rk1 : Nat) (rk2 : Nat) (rk3 : Nat) (eak : Nat) (cak2 : Nat) (cr : ClassId) (mo : Nat) (nw : Nat) (kp : Nat) (ik : Nat) (mr : Nat) (mw : Nat) (mq : Nat) (mz : Nat) (my : Nat) (mb : Nat) (mx : Nat) (mv : Nat) (cn : ClassId) (cm : ClassId) (H : Heap) (locs : List Loc) (hK : va_K (dC, dI) vwCl [(cr, .int), (cn, .int), (cm, .int)] s) (hP : va_P (dC, dI) vwCl [(o, .inr (11, [.ref aw, .ref bk, .ref ai, .ref ak, .ref sc, .ref rd, .ref fo, .ref tx, .int 0, .ref ar, .ref atr, .ref ao])), (bk, .inr (0, [.ref rk0, .ref rk1, .ref rk2, .ref rk3, .ref eak, .int 0])), (rk2, .inr (6, [.int 4, .int 8, .ref cak2, .int 0])), (ar, .inl (cr, 3, .inl (fun _ => 0))), (mo, .inr (12, [.ref nw, .ref kp, .ref ik, .ref mr, .long 0, .long 1, .ref mw, .long 0, .int 0, .int 0, .long 0, .long 0, .ref mq, .ref mz, .ref my, .int 0, .ref mb, .int 0, .int 0, .int 0, .int 0, .int 0, .ref mx, .ref mv])), (nw, .inl (cn, 350, .inl (fun _ => 0))), (mr, .inl (cm, 3, .inl (fun _ => 0)))] H) (hD : va_D A [(o, .inr (11, [.ref aw, .ref bk, .ref ai, .ref ak, .ref sc, .ref rd, .ref fo, .ref tx, .int 0, .ref ar, .ref atr, .ref ao])), (bk, .inr (0, [.ref rk0, .ref rk1, .ref rk2, .ref rk3, .ref eak, .int 0])), (rk2, .inr (6, [.int 4, .int 8, .ref cak2, .int 0])), (ar, .inl (cr, 3, .inl (fun _ => 0))), (mo, .inr (12, [.ref nw, .ref kp, .ref ik, .ref mr, .long 0, .long 1, .ref mw, .long 0, .int 0, .int 0, .long 0, .long 0, .ref mq, .ref mz, .ref my, .int 0, .ref mb, .int 0, .int 0, .int 0, .int 0, .int 0, .ref mx, .ref mv])), (nw, .inl (cn, 350, .inl (fun _ => 0))), (mr, .inl (cm, 3, .inl (fun _ => 0)))]) (hS : va_S A s.heap H locs) (ls : Array Slot) (hl : lv_has ls 4 [(3, .int 0), (2, .ref mo), (1, .ref o), (0, .ref b)]) : W p l e room_1 s m #[Value.ref b] below meth c H locs 136 3195 (lw_Z below #[Value.ref b] s) (F0 m 672 ls []) := by
  obtain ⟨hx, hb, hr, hml, hown, hts, hX, hbl, hlocks, hgv⟩ := C0
  have hb : c.code = cL_law := hb
  have hown : s.vm.findClass RL = some m.cls := hown
  refine lv_aload_n hx hb dL_law_672 rfl (lv_at hl 2 rfl) ?_
  refine lv_aload_n hx hb dL_law_673 rfl (lv_at hl 3 rfl) ?_
  refine lv_iload_n hx hb dL_law_674 rfl (lv_at hl 0 rfl) ?_
  refine lv_iconst (v := 1) hx hb dL_law_675 (by decide) ?_
  refine lv_iadd hx hb dL_law_676 ?_
  refine tz_i 1 (by decide) ?_
  refine va_sld hx hb hX hbl hbA hS (show ¬ ((1 : Int32) < 0 ∨ 6 ≤ (1 : Int32).toNatClampNeg) by decide) dL_law_677 ?_
  refine tz_i (xs 1) rfl ?_
  have hPc := hP.sub (ws' := [(o, .inr (11, [.ref aw, .ref bk, .ref ai, .ref ak, .ref sc, .ref rd, .ref fo, .ref tx, .int 0, .ref ar, .ref atr, .ref ao])), (bk, .inr (0, [.ref rk0, .ref rk1, .ref rk2, .ref rk3, .ref eak, .int 0])), (rk2, .inr (6, [.int 4, .int 8, .ref cak2, .int 0])), (ar, .inl (cr, 3, .inl (fun _ => 0)))]) [0, 1, 2, 3] rfl
  have hDc := hD.sub (ws' := [(o, .inr (11, [.ref aw, .ref bk, .ref ai, .ref ak, .ref sc, .ref rd, .ref fo, .ref tx, .int 0, .ref ar, .ref atr, .ref ao])), (bk, .inr (0, [.ref rk0, .ref rk1, .ref rk2, .ref rk3, .ref eak, .int 0])), (rk2, .inr (6, [.int 4, .int 8, .ref cak2, .int 0])), (ar, .inl (cr, 3, .inl (fun _ => 0)))]) [0, 1, 2, 3] (by decide) rfl
  have hKc := hK.sub (tys' := [(cr, .int)]) [0] rfl
  have hFc := va_free (wc := [(o, .inr (11, [.ref aw, .ref bk, .ref ai, .ref ak, .ref sc, .ref rd, .ref fo, .ref tx, .int 0, .ref ar, .ref atr, .ref ao])), (bk, .inr (0, [.ref rk0, .ref rk1, .ref rk2, .ref rk3, .ref eak, .int 0])), (rk2, .inr (6, [.int 4, .int 8, .ref cak2, .int 0])), (ar, .inl (cr, 3, .inl (fun _ => 0)))]) hD hS hA [0, 1, 2, 3] rfl
  refine va_calli (va_runV (As := [.int (xs 1)]) (rest := []) ⟨hx, hb, hml, hown, hts⟩ (k_x_wrong l dC dI o aw bk ai ak sc rd fo tx ar atr ao rk0 rk1 rk2 rk3 eak cak2 cr (xs 1) H.size) (cwV 1 hts gL_law_X11_wrong rfl rfl rfl (by decide +kernel) ⟨Nat.le_of_ble_eq_true rfl, Nat.le_of_ble_eq_true rfl⟩) ⟨fun a U g mk q => by obtain ⟨q0, q1, qP, qK, qD⟩ := q; exact ⟨q0, q1, qP, va_K.moved (u := U) (U := U.calling g mk a) (Vm.Alike.refl U.vm) qK, qD⟩, va_recv hK hP (ci := 11) (q0 := 0) rfl rfl, fun U hU hW => ⟨rfl, by rw [hU], by rw [hU]; exact hPc, va_K.moved hW.alike hKc, hDc.weaken (fun _ _ _ _ => trivial)⟩⟩ rfl rfl hl.1 rfl (lv_room (Nat.le_of_ble_eq_true rfl)) dL_law_678 ⟨Nat.le_of_ble_eq_true rfl, Nat.le_of_ble_eq_true rfl⟩) hS (fun q _ h => hFc q h) hFc (fun r_1 u_ t H1 locs ht hvm hw_2 hB hz1 hk1 hS => ?_)
  obtain ⟨hP, hD⟩ := va_join (wr := [(mo, .inr (12, [.ref nw, .ref kp, .ref ik, .ref mr, .long 0, .long 1, .ref mw, .long 0, .int 0, .int 0, .long 0, .long 0, .ref mq, .ref mz, .ref my, .int 0, .ref mb, .int 0, .int 0, .int 0, .int 0, .int 0, .ref mx, .ref mv])), (nw, .inl (cn, 350, .inl (fun _ => 0))), (mr, .inl (cm, 3, .inl (fun _ => 0)))]) (w1 := []) hP hD [0, 1, 2, 3] [4, 5, 6] rfl rfl (by decide) (by decide) hk1 hFc tz_P0 tz_D0
  generalize H1 = H at hP hS ⊢
  have hP : va_P (dC, dI) vwCl [(mo, .inr (12, [.ref nw, .ref kp, .ref ik, .ref mr, .long 0, .long 1, .ref mw, .long 0, .int 0, .int 0, .long 0, .long 0, .ref mq, .ref mz, .ref my, .int 0, .ref mb, .int 0, .int 0, .int 0, .int 0, .int 0, .ref mx, .ref mv])), (nw, .inl (cn, 350, .inl (fun _ => 0))), (mr, .inl (cm, 3, .inl (fun _ => 0)))] H := hP
  have hD : va_D A [(mo, .inr (12, [.ref nw, .ref kp, .ref ik, .ref mr, .long 0, .long 1, .ref mw, .long 0, .int 0, .int 0, .long 0, .long 0, .ref mq, .ref mz, .ref my, .int 0, .ref mb, .int 0, .int 0, .int 0, .int 0, .int 0, .ref mx, .ref mv])), (nw, .inl (cn, 350, .inl (fun _ => 0))), (mr, .inl (cm, 3, .inl (fun _ => 0)))] := hD
  obtain rfl : (-2) = r_1 := hw_2.symm
  refine lv_aload_n hx hb dL_law_681 rfl (lv_at hl 1 rfl) ?_
  refine lv_aload_n hx hb dL_law_682 rfl (lv_at hl 3 rfl) ?_
  refine lv_iload_n hx hb dL_law_683 rfl (lv_at hl 0 rfl) ?_
  refine lv_iconst (v := 1) hx hb dL_law_684 (by decide) ?_
  refine lv_iadd hx hb dL_law_685 ?_
  refine tz_i 1 (by decide) ?_
  refine va_sld hx hb hX hbl hbA hS (show ¬ ((1 : Int32) < 0 ∨ 6 ≤ (1 : Int32).toNatClampNeg) by decide) dL_law_686 ?_
  refine tz_i (xs 1) rfl ?_
  have hPc := hP.sub (ws' := [(mo, .inr (12, [.ref nw, .ref kp, .ref ik, .ref mr, .long 0, .long 1, .ref mw, .long 0, .int 0, .int 0, .long 0, .long 0, .ref mq, .ref mz, .ref my, .int 0, .ref mb, .int 0, .int 0, .int 0, .int 0, .int 0, .ref mx, .ref mv])), (nw, .inl (cn, 350, .inl (fun _ => 0))), (mr, .inl (cm, 3, .inl (fun _ => 0)))]) [0, 1, 2] rfl
  have hDc := hD.sub (ws' := [(mo, .inr (12, [.ref nw, .ref kp, .ref ik, .ref mr, .long 0, .long 1, .ref mw, .long 0, .int 0, .int 0, .long 0, .long 0, .ref mq, .ref mz, .ref my, .int 0, .ref mb, .int 0, .int 0, .int 0, .int 0, .int 0, .ref mx, .ref mv])), (nw, .inl (cn, 350, .inl (fun _ => 0))), (mr, .inl (cm, 3, .inl (fun _ => 0)))]) [0, 1, 2] (by decide) rfl
  have hKc := hK.sub (tys' := [(cn, .int), (cm, .int)]) [1, 2] rfl
  have hFc := va_free (wc := [(mo, .inr (12, [.ref nw, .ref kp, .ref ik, .ref mr, .long 0, .long 1, .ref mw, .long 0, .int 0, .int 0, .long 0, .long 0, .ref mq, .ref mz, .ref my, .int 0, .ref mb, .int 0, .int 0, .int 0, .int 0, .int 0, .ref mx, .ref mv])), (nw, .inl (cn, 350, .inl (fun _ => 0))), (mr, .inl (cm, 3, .inl (fun _ => 0)))]) hD hS hA [0, 1, 2] rfl
  refine va_calli (va_runV (As := [.int (xs 1)]) (rest := [.int (-2)]) ⟨hx, hb, hml, hown, hts⟩ (k_m_wrong l dC dI mo nw kp ik mr mw mq mz my mb mx mv cn cm (xs 1) H.size) (cwV 1 hts gL_law_X12_wrong rfl rfl rfl (by decide +kernel) ⟨Nat.le_of_ble_eq_true rfl, Nat.le_of_ble_eq_true rfl⟩) ⟨fun a U g mk q => by obtain ⟨q0, q1, qP, qK, qD⟩ := q; exact ⟨q0, q1, qP, va_K.moved (u := U) (U := U.calling g mk a) (Vm.Alike.refl U.vm) qK, qD⟩, va_recv hK hP (ci := 12) (q0 := 0) rfl rfl, fun U hU hW => ⟨rfl, by rw [hU], by rw [hU]; exact hPc, va_K.moved hW.alike hKc, hDc.weaken (fun _ _ _ _ => trivial)⟩⟩ rfl rfl hl.1 rfl (lv_room (Nat.le_of_ble_eq_true rfl)) dL_law_687 ⟨Nat.le_of_ble_eq_true rfl, Nat.le_of_ble_eq_true rfl⟩) hS (fun q _ h => hFc q h) hFc (fun r_3 u_ t H1 locs ht hvm hw_4 hB hz1 hk1 hS => ?_)
  obtain ⟨hP, hD⟩ := va_join (wr := []) (w1 := []) hP hD [0, 1, 2] [] rfl rfl (by decide) (by decide) hk1 hFc tz_P0 tz_D0
  generalize H1 = H at hP hS ⊢
  have hP : va_P (dC, dI) vwCl [] H := hP
  have hD : va_D A [] := hD
  obtain rfl : (-2) = r_3 := hw_4.symm
  refine lv_icmp_eq (tgt := 1155) hx hb dL_law_690 (by decide) (fun c_5 => ?_) (fun c_5 => ?_)
  · refine lv_iinc (v := 6) (lv' := [(3, .int 6), (2, .ref mo), (1, .ref o), (0, .ref b)]) hx hb dL_law_1155 hl (k := 0) rfl (by decide) (by decide) rfl (fun ls hl => ?_)
    refine lv_goto (tgt := 18) hx hb dL_law_1158 (by decide) ?_
    refine lv_iload_n hx hb dL_law_18 rfl (lv_at hl 0 rfl) ?_
    refine lv_aload_n hx hb dL_law_19 rfl (lv_at hl 3 rfl) ?_
    refine va_slen hx hb hX hbl hbA hS dL_law_20 ?_
    refine tz_i 6 rfl ?_
    refine lv_bipush (v := 6) hx hb dL_law_21 (by decide) ?_
    refine lv_isub hx hb dL_law_23 ?_
    refine tz_i 0 (by decide) ?_
    refine lv_icmp_gt (tgt := 1161) hx hb dL_law_24 (by decide) (fun c_6 => ?_) (fun c_6 => ?_)
    · refine lv_iconst (v := 1) hx hb dL_law_1161 (by decide) ?_
      refine va_forget (fun q hq => hA2 _ (hS.2.2 q hq)) ?_
      refine W.widen (k := 600000) (n := 7302250) (Nat.le_of_ble_eq_true rfl) (Nat.le_of_ble_eq_true rfl) ?_
      exact lw_ret hx hb hr hlocks dL_law_1162
    · exact absurd c_6 (by decide)
  · exact absurd c_5 (by decide)
set_option maxRecDepth 20000 in
theorem gL_law_X11_enough : GoodIn lw_tbl (wsV RL 94 RX11 yX11_enough wsX11_enough) := tz_good [(33, 11), (33, 12), (33, 13), (0, 2), (33, 14), (1, 10), (5, 20), (1, 17), (1, 6), (33, 15), (10, 4), (10, 5), (10, 6), (3, 4), (10, 7), (3, 15), (11, 16), (11, 17), (11, 18), (0, 2), (11, 19), (7, 4), (7, 5), (7, 6), (7, 7), (7, 8), (7, 9), (7, 10), (7, 11), (7, 12), (7, 13), (7, 14), (2, 6), (29, 9), (29, 10), (29, 11), (1, 16), (29, 12), (4, 3), (29, 13), (29, 14), (29, 15), (29, 16), (29, 17), (29, 18), (29, 19), (10, 9), (10, 10), (10, 11), (3, 22), (3, 21), (8, 8), (8, 9), (8, 10), (8, 11), (29, 20), (5, 22), (5, 23), (6, 0), (29, 21), (29, 22), (29, 23), (30, 0), (4, 4), (30, 1), (24, 1), (24, 2), (24, 3), (24, 4), (0, 17), (24, 5), (24, 6), (24, 7), (24, 2), (0, 14), (24, 9), (24, 10), (24, 11), (0, 23), (24, 12), (24, 13), (24, 14), (24, 15), (24, 16), (0, 20), (24, 17), (30, 1), (24, 19), (24, 20), (24, 21), (1, 5), (24, 22), (24, 23), (25, 0), (25, 1), (25, 2), (1, 2), (25, 3), (25, 4), (25, 5), (25, 6), (25, 7), (31, 11), (31, 12), (31, 13), (31, 14), (30, 7), (30, 8), (30, 9), (30, 10), (30, 3), (30, 4), (30, 5), (30, 6), (33, 16), (33, 17), (33, 18), (33, 19), (33, 20), (46, 0), (46, 1), (46, 2), (46, 3), (46, 4), (46, 5), (46, 6), (46, 7), (46, 8), (46, 9), (46, 10), (46, 11), (54, 0), (54, 1), (54, 2), (54, 3), (54, 4), (54, 5), (58, 0), (58, 1), (58, 2), (58, 3), (55, 0), (55, 1)] (by decide +kernel) (by decide +kernel)
set_option maxRecDepth 20000 in
theorem gL_law_X12_enough : GoodIn lw_tbl (wsV RL 97 RX12 yX12_enough wsX12_enough) := tz_good [(33, 21), (33, 22), (33, 23), (0, 5), (34, 0), (34, 1), (30, 20), (10, 20), (10, 21), (10, 22), (0, 5), (10, 23), (5, 4), (8, 17), (8, 18), (8, 19), (13, 1), (13, 2), (13, 3), (13, 4), (8, 20), (8, 21), (8, 22), (8, 23), (5, 7), (30, 16), (30, 17), (30, 18), (30, 19), (30, 15), (30, 21), (5, 9), (30, 22), (30, 23), (31, 0), (31, 1), (11, 4), (11, 5), (11, 6), (11, 7), (28, 10), (28, 11), (28, 12), (28, 13), (27, 1), (27, 2), (27, 3), (27, 4), (27, 5), (27, 6), (27, 7), (27, 8), (27, 9), (27, 10), (27, 11), (27, 12), (27, 13), (27, 14), (34, 2), (34, 3), (34, 4), (34, 5), (8, 16), (34, 6), (34, 7), (34, 8), (47, 0), (47, 1), (47, 2), (47, 3), (47, 4), (47, 5), (47, 6), (47, 7), (47, 8), (47, 9), (47, 10), (47, 11), (47, 12), (47, 13), (47, 14), (47, 15), (47, 16), (47, 17), (47, 18), (47, 19), (47, 20), (47, 21), (47, 22), (47, 23)] (by decide +kernel) (by decide +kernel)
theorem dL_law_695 : decode cL_law 695 = .ok (.aload_n 1, 1) := by decide +kernel
theorem dL_law_696 : decode cL_law 696 = .ok (.aload_n 0, 1) := by decide +kernel
theorem dL_law_697 : decode cL_law 697 = .ok (.iload_n 3, 1) := by decide +kernel
theorem dL_law_698 : decode cL_law 698 = .ok (.iconst 1, 1) := by decide +kernel
theorem dL_law_699 : decode cL_law 699 = .ok (.iadd, 1) := by decide +kernel
theorem dL_law_700 : decode cL_law 700 = .ok (.iaload, 1) := by decide +kernel
theorem dL_law_701 : decode cL_law 701 = .ok (.aload_n 0, 1) := by decide +kernel
theorem dL_law_702 : decode cL_law 702 = .ok (.iload_n 3, 1) := by decide +kernel
theorem dL_law_703 : decode cL_law 703 = .ok (.iconst 2, 1) := by decide +kernel
theorem dL_law_704 : decode cL_law 704 = .ok (.iadd, 1) := by decide +kernel
theorem dL_law_705 : decode cL_law 705 = .ok (.iaload, 1) := by decide +kernel
theorem dL_law_706 : decode cL_law 706 = .ok (.aload_n 0, 1) := by decide +kernel
theorem dL_law_707 : decode cL_law 707 = .ok (.iload_n 3, 1) := by decide +kernel
theorem dL_law_708 : decode cL_law 708 = .ok (.iconst 3, 1) := by decide +kernel
theorem dL_law_709 : decode cL_law 709 = .ok (.iadd, 1) := by decide +kernel
theorem dL_law_710 : decode cL_law 710 = .ok (.iaload, 1) := by decide +kernel
theorem dL_law_711 : decode cL_law 711 = .ok (.invokevirtual 94, 3) := by decide +kernel
theorem dL_law_714 : decode cL_law 714 = .ok (.aload_n 2, 1) := by decide +kernel
theorem dL_law_715 : decode cL_law 715 = .ok (.aload_n 0, 1) := by decide +kernel
theorem dL_law_716 : decode cL_law 716 = .ok (.iload_n 3, 1) := by decide +kernel
theorem dL_law_717 : decode cL_law 717 = .ok (.iconst 1, 1) := by decide +kernel
theorem dL_law_718 : decode cL_law 718 = .ok (.iadd, 1) := by decide +kernel
theorem dL_law_719 : decode cL_law 719 = .ok (.iaload, 1) := by decide +kernel
theorem dL_law_720 : decode cL_law 720 = .ok (.aload_n 0, 1) := by decide +kernel
theorem dL_law_721 : decode cL_law 721 = .ok (.iload_n 3, 1) := by decide +kernel
theorem dL_law_722 : decode cL_law 722 = .ok (.iconst 2, 1) := by decide +kernel
theorem dL_law_723 : decode cL_law 723 = .ok (.iadd, 1) := by decide +kernel
theorem dL_law_724 : decode cL_law 724 = .ok (.iaload, 1) := by decide +kernel
theorem dL_law_725 : decode cL_law 725 = .ok (.aload_n 0, 1) := by decide +kernel
theorem dL_law_726 : decode cL_law 726 = .ok (.iload_n 3, 1) := by decide +kernel
theorem dL_law_727 : decode cL_law 727 = .ok (.iconst 3, 1) := by decide +kernel
theorem dL_law_728 : decode cL_law 728 = .ok (.iadd, 1) := by decide +kernel
theorem dL_law_729 : decode cL_law 729 = .ok (.iaload, 1) := by decide +kernel
theorem dL_law_730 : decode cL_law 730 = .ok (.invokevirtual 97, 3) := by decide +kernel
theorem dL_law_733 : decode cL_law 733 = .ok (.if_icmp .eq 422, 3) := by decide +kernel
set_option maxHeartbeats 4000000 in
set_option maxRecDepth 100000 in
theorem lc_enough {p : Program} {l : Launch} {e : Env} {s : State} {m : MethodId} {below : List Frame} {meth : Method} {c : Code} {b : Nat} {xs : Nat → Int32} (C0 : lw_At p s m meth c b 6 xs) (hN : tz_N s) (A : Nat → Prop) (hA : ∀ q : Nat, s.heap.size ≤ q → A q) (hA2 : ∀ q : Nat, A q → s.heap.size ≤ q) (hbA : ¬ A b) (dC : Nat → ClassId) (dI : Nat → Nat → Nat) (o : Nat) (aw : Nat) (bk : Nat) (ai : Nat) (ak : Nat) (sc : Nat) (rd : Nat) (fo : Nat) (tx : Nat) (ar : Nat) (atr : Nat) (ao : Nat) (rk0 : Nat) (rk1 : Nat) (rk2 : Nat) (rk3 : Nat) (eak : Nat) (cak1 : Nat) (cr : ClassId) (mo : Nat) (nw : Nat) (kp : Nat) (ik : Nat) (mr : Nat) (mw : Nat) (mq : Nat) (mz : Nat) (my : Nat) (mb : Nat) (mx : Nat) (mv : Nat) (cn : ClassId) (cm : ClassId) (H : Heap) (locs : List Loc) (hK : va_K (dC, dI) vwCl [(cr, .int), (cn, .int), (cm, .int)] s) (hP : va_P (dC, dI) vwCl [(o, .inr (11, [.ref aw, .ref bk, .ref ai, .ref ak, .ref sc, .ref rd, .ref fo, .ref tx, .int 0, .ref ar, .ref atr, .ref ao])), (bk, .inr (0, [.ref rk0, .ref rk1, .ref rk2, .ref rk3, .ref eak, .int 0])), (rk1, .inr (6, [.int 4, .int 5, .ref cak1, .int 0])), (ar, .inl (cr, 3, .inl (fun _ => 0))), (mo, .inr (12, [.ref nw, .ref kp, .ref ik, .ref mr, .long 0, .long 1, .ref mw, .long 0, .int 0, .int 0, .long 0, .long 0, .ref mq, .ref mz, .ref my, .int 0, .ref mb, .int 0, .int 0, .int 0, .int 0, .int 0, .ref mx, .ref mv])), (nw, .inl (cn, 350, .inl (fun _ => 0))), (mr, .inl (cm, 3, .inl (fun _ => 0)))] H) (hD : va_D A [(o, .inr (11, [.ref aw, .ref bk, .ref ai, .ref ak, .ref sc, .ref rd, .ref fo, .ref tx, .int 0, .ref ar, .ref atr, .ref ao])), (bk, .inr (0, [.ref rk0, .ref rk1, .ref rk2, .ref rk3, .ref eak, .int 0])), (rk1, .inr (6, [.int 4, .int 5, .ref cak1, .int 0])), (ar, .inl (cr, 3, .inl (fun _ => 0))), (mo, .inr (12, [.ref nw, .ref kp, .ref ik, .ref mr, .long 0, .long 1, .ref mw, .long 0, .int 0, .int 0, .long 0, .long 0, .ref mq, .ref mz, .ref my, .int 0, .ref mb, .int 0, .int 0, .int 0, .int 0, .int 0, .ref mx, .ref mv])), (nw, .inl (cn, 350, .inl (fun _ => 0))), (mr, .inl (cm, 3, .inl (fun _ => 0)))]) (hS : va_S A s.heap H locs) (ls : Array Slot) (hl : lv_has ls 4 [(3, .int 0), (2, .ref mo), (1, .ref o), (0, .ref b)]) : W p l e room_1 s m #[Value.ref b] below meth c H locs 136 3195 (lw_Z below #[Value.ref b] s) (F0 m 695 ls []) := by
  obtain ⟨hx, hb, hr, hml, hown, hts, hX, hbl, hlocks, hgv⟩ := C0
  have hb : c.code = cL_law := hb
  have hown : s.vm.findClass RL = some m.cls := hown
  refine lv_aload_n hx hb dL_law_695 rfl (lv_at hl 2 rfl) ?_
  refine lv_aload_n hx hb dL_law_696 rfl (lv_at hl 3 rfl) ?_
  refine lv_iload_n hx hb dL_law_697 rfl (lv_at hl 0 rfl) ?_
  refine lv_iconst (v := 1) hx hb dL_law_698 (by decide) ?_
  refine lv_iadd hx hb dL_law_699 ?_
  refine tz_i 1 (by decide) ?_
  refine va_sld hx hb hX hbl hbA hS (show ¬ ((1 : Int32) < 0 ∨ 6 ≤ (1 : Int32).toNatClampNeg) by decide) dL_law_700 ?_
  refine tz_i (xs 1) rfl ?_
  refine lv_aload_n hx hb dL_law_701 rfl (lv_at hl 3 rfl) ?_
  refine lv_iload_n hx hb dL_law_702 rfl (lv_at hl 0 rfl) ?_
  refine lv_iconst (v := 2) hx hb dL_law_703 (by decide) ?_
  refine lv_iadd hx hb dL_law_704 ?_
  refine tz_i 2 (by decide) ?_
  refine va_sld hx hb hX hbl hbA hS (show ¬ ((2 : Int32) < 0 ∨ 6 ≤ (2 : Int32).toNatClampNeg) by decide) dL_law_705 ?_
  refine tz_i (xs 2) rfl ?_
  refine lv_aload_n hx hb dL_law_706 rfl (lv_at hl 3 rfl) ?_
  refine lv_iload_n hx hb dL_law_707 rfl (lv_at hl 0 rfl) ?_
  refine lv_iconst (v := 3) hx hb dL_law_708 (by decide) ?_
  refine lv_iadd hx hb dL_law_709 ?_
  refine tz_i 3 (by decide) ?_
  refine va_sld hx hb hX hbl hbA hS (show ¬ ((3 : Int32) < 0 ∨ 6 ≤ (3 : Int32).toNatClampNeg) by decide) dL_law_710 ?_
  refine tz_i (xs 3) rfl ?_
  have hPc := hP.sub (ws' := [(o, .inr (11, [.ref aw, .ref bk, .ref ai, .ref ak, .ref sc, .ref rd, .ref fo, .ref tx, .int 0, .ref ar, .ref atr, .ref ao])), (bk, .inr (0, [.ref rk0, .ref rk1, .ref rk2, .ref rk3, .ref eak, .int 0])), (rk1, .inr (6, [.int 4, .int 5, .ref cak1, .int 0])), (ar, .inl (cr, 3, .inl (fun _ => 0)))]) [0, 1, 2, 3] rfl
  have hDc := hD.sub (ws' := [(o, .inr (11, [.ref aw, .ref bk, .ref ai, .ref ak, .ref sc, .ref rd, .ref fo, .ref tx, .int 0, .ref ar, .ref atr, .ref ao])), (bk, .inr (0, [.ref rk0, .ref rk1, .ref rk2, .ref rk3, .ref eak, .int 0])), (rk1, .inr (6, [.int 4, .int 5, .ref cak1, .int 0])), (ar, .inl (cr, 3, .inl (fun _ => 0)))]) [0, 1, 2, 3] (by decide) rfl
  have hKc := hK.sub (tys' := [(cr, .int)]) [0] rfl
  have hFc := va_free (wc := [(o, .inr (11, [.ref aw, .ref bk, .ref ai, .ref ak, .ref sc, .ref rd, .ref fo, .ref tx, .int 0, .ref ar, .ref atr, .ref ao])), (bk, .inr (0, [.ref rk0, .ref rk1, .ref rk2, .ref rk3, .ref eak, .int 0])), (rk1, .inr (6, [.int 4, .int 5, .ref cak1, .int 0])), (ar, .inl (cr, 3, .inl (fun _ => 0)))]) hD hS hA [0, 1, 2, 3] rfl
  refine va_calli (va_runV (As := [.int (xs 1), .int (xs 2), .int (xs 3)]) (rest := []) ⟨hx, hb, hml, hown, hts⟩ (k_x_enough l dC dI o aw bk ai ak sc rd fo tx ar atr ao rk0 rk1 rk2 rk3 eak cak1 cr (xs 1) (xs 2) (xs 3) H.size) (cwV 3 hts gL_law_X11_enough rfl rfl rfl (by decide +kernel) ⟨Nat.le_of_ble_eq_true rfl, Nat.le_of_ble_eq_true rfl⟩) ⟨fun a U g mk q => by obtain ⟨q0, q1, qP, qK, qD⟩ := q; exact ⟨q0, q1, qP, va_K.moved (u := U) (U := U.calling g mk a) (Vm.Alike.refl U.vm) qK, qD⟩, va_recv hK hP (ci := 11) (q0 := 0) rfl rfl, fun U hU hW => ⟨rfl, by rw [hU], by rw [hU]; exact hPc, va_K.moved hW.alike hKc, hDc.weaken (fun _ _ _ _ => trivial)⟩⟩ rfl rfl hl.1 rfl (lv_room (Nat.le_of_ble_eq_true rfl)) dL_law_711 ⟨Nat.le_of_ble_eq_true rfl, Nat.le_of_ble_eq_true rfl⟩) hS (fun q _ h => hFc q h) hFc (fun r_1 u_ t H1 locs ht hvm hw_2 hB hz1 hk1 hS => ?_)
  obtain ⟨hP, hD⟩ := va_join (wr := [(mo, .inr (12, [.ref nw, .ref kp, .ref ik, .ref mr, .long 0, .long 1, .ref mw, .long 0, .int 0, .int 0, .long 0, .long 0, .ref mq, .ref mz, .ref my, .int 0, .ref mb, .int 0, .int 0, .int 0, .int 0, .int 0, .ref mx, .ref mv])), (nw, .inl (cn, 350, .inl (fun _ => 0))), (mr, .inl (cm, 3, .inl (fun _ => 0)))]) (w1 := []) hP hD [0, 1, 2, 3] [4, 5, 6] rfl rfl (by decide) (by decide) hk1 hFc tz_P0 tz_D0
  generalize H1 = H at hP hS ⊢
  have hP : va_P (dC, dI) vwCl [(mo, .inr (12, [.ref nw, .ref kp, .ref ik, .ref mr, .long 0, .long 1, .ref mw, .long 0, .int 0, .int 0, .long 0, .long 0, .ref mq, .ref mz, .ref my, .int 0, .ref mb, .int 0, .int 0, .int 0, .int 0, .int 0, .ref mx, .ref mv])), (nw, .inl (cn, 350, .inl (fun _ => 0))), (mr, .inl (cm, 3, .inl (fun _ => 0)))] H := hP
  have hD : va_D A [(mo, .inr (12, [.ref nw, .ref kp, .ref ik, .ref mr, .long 0, .long 1, .ref mw, .long 0, .int 0, .int 0, .long 0, .long 0, .ref mq, .ref mz, .ref my, .int 0, .ref mb, .int 0, .int 0, .int 0, .int 0, .int 0, .ref mx, .ref mv])), (nw, .inl (cn, 350, .inl (fun _ => 0))), (mr, .inl (cm, 3, .inl (fun _ => 0)))] := hD
  obtain rfl : (-2) = r_1 := hw_2.symm
  refine lv_aload_n hx hb dL_law_714 rfl (lv_at hl 1 rfl) ?_
  refine lv_aload_n hx hb dL_law_715 rfl (lv_at hl 3 rfl) ?_
  refine lv_iload_n hx hb dL_law_716 rfl (lv_at hl 0 rfl) ?_
  refine lv_iconst (v := 1) hx hb dL_law_717 (by decide) ?_
  refine lv_iadd hx hb dL_law_718 ?_
  refine tz_i 1 (by decide) ?_
  refine va_sld hx hb hX hbl hbA hS (show ¬ ((1 : Int32) < 0 ∨ 6 ≤ (1 : Int32).toNatClampNeg) by decide) dL_law_719 ?_
  refine tz_i (xs 1) rfl ?_
  refine lv_aload_n hx hb dL_law_720 rfl (lv_at hl 3 rfl) ?_
  refine lv_iload_n hx hb dL_law_721 rfl (lv_at hl 0 rfl) ?_
  refine lv_iconst (v := 2) hx hb dL_law_722 (by decide) ?_
  refine lv_iadd hx hb dL_law_723 ?_
  refine tz_i 2 (by decide) ?_
  refine va_sld hx hb hX hbl hbA hS (show ¬ ((2 : Int32) < 0 ∨ 6 ≤ (2 : Int32).toNatClampNeg) by decide) dL_law_724 ?_
  refine tz_i (xs 2) rfl ?_
  refine lv_aload_n hx hb dL_law_725 rfl (lv_at hl 3 rfl) ?_
  refine lv_iload_n hx hb dL_law_726 rfl (lv_at hl 0 rfl) ?_
  refine lv_iconst (v := 3) hx hb dL_law_727 (by decide) ?_
  refine lv_iadd hx hb dL_law_728 ?_
  refine tz_i 3 (by decide) ?_
  refine va_sld hx hb hX hbl hbA hS (show ¬ ((3 : Int32) < 0 ∨ 6 ≤ (3 : Int32).toNatClampNeg) by decide) dL_law_729 ?_
  refine tz_i (xs 3) rfl ?_
  have hPc := hP.sub (ws' := [(mo, .inr (12, [.ref nw, .ref kp, .ref ik, .ref mr, .long 0, .long 1, .ref mw, .long 0, .int 0, .int 0, .long 0, .long 0, .ref mq, .ref mz, .ref my, .int 0, .ref mb, .int 0, .int 0, .int 0, .int 0, .int 0, .ref mx, .ref mv])), (nw, .inl (cn, 350, .inl (fun _ => 0))), (mr, .inl (cm, 3, .inl (fun _ => 0)))]) [0, 1, 2] rfl
  have hDc := hD.sub (ws' := [(mo, .inr (12, [.ref nw, .ref kp, .ref ik, .ref mr, .long 0, .long 1, .ref mw, .long 0, .int 0, .int 0, .long 0, .long 0, .ref mq, .ref mz, .ref my, .int 0, .ref mb, .int 0, .int 0, .int 0, .int 0, .int 0, .ref mx, .ref mv])), (nw, .inl (cn, 350, .inl (fun _ => 0))), (mr, .inl (cm, 3, .inl (fun _ => 0)))]) [0, 1, 2] (by decide) rfl
  have hKc := hK.sub (tys' := [(cn, .int), (cm, .int)]) [1, 2] rfl
  have hFc := va_free (wc := [(mo, .inr (12, [.ref nw, .ref kp, .ref ik, .ref mr, .long 0, .long 1, .ref mw, .long 0, .int 0, .int 0, .long 0, .long 0, .ref mq, .ref mz, .ref my, .int 0, .ref mb, .int 0, .int 0, .int 0, .int 0, .int 0, .ref mx, .ref mv])), (nw, .inl (cn, 350, .inl (fun _ => 0))), (mr, .inl (cm, 3, .inl (fun _ => 0)))]) hD hS hA [0, 1, 2] rfl
  refine va_calli (va_runV (As := [.int (xs 1), .int (xs 2), .int (xs 3)]) (rest := [.int (-2)]) ⟨hx, hb, hml, hown, hts⟩ (k_m_enough l dC dI mo nw kp ik mr mw mq mz my mb mx mv cn cm (xs 1) (xs 2) (xs 3) H.size) (cwV 3 hts gL_law_X12_enough rfl rfl rfl (by decide +kernel) ⟨Nat.le_of_ble_eq_true rfl, Nat.le_of_ble_eq_true rfl⟩) ⟨fun a U g mk q => by obtain ⟨q0, q1, qP, qK, qD⟩ := q; exact ⟨q0, q1, qP, va_K.moved (u := U) (U := U.calling g mk a) (Vm.Alike.refl U.vm) qK, qD⟩, va_recv hK hP (ci := 12) (q0 := 0) rfl rfl, fun U hU hW => ⟨rfl, by rw [hU], by rw [hU]; exact hPc, va_K.moved hW.alike hKc, hDc.weaken (fun _ _ _ _ => trivial)⟩⟩ rfl rfl hl.1 rfl (lv_room (Nat.le_of_ble_eq_true rfl)) dL_law_730 ⟨Nat.le_of_ble_eq_true rfl, Nat.le_of_ble_eq_true rfl⟩) hS (fun q _ h => hFc q h) hFc (fun r_3 u_ t H1 locs ht hvm hw_4 hB hz1 hk1 hS => ?_)
  obtain ⟨hP, hD⟩ := va_join (wr := []) (w1 := []) hP hD [0, 1, 2] [] rfl rfl (by decide) (by decide) hk1 hFc tz_P0 tz_D0
  generalize H1 = H at hP hS ⊢
  have hP : va_P (dC, dI) vwCl [] H := hP
  have hD : va_D A [] := hD
  obtain rfl : (-2) = r_3 := hw_4.symm
  refine lv_icmp_eq (tgt := 1155) hx hb dL_law_733 (by decide) (fun c_5 => ?_) (fun c_5 => ?_)
  · refine lv_iinc (v := 6) (lv' := [(3, .int 6), (2, .ref mo), (1, .ref o), (0, .ref b)]) hx hb dL_law_1155 hl (k := 0) rfl (by decide) (by decide) rfl (fun ls hl => ?_)
    refine lv_goto (tgt := 18) hx hb dL_law_1158 (by decide) ?_
    refine lv_iload_n hx hb dL_law_18 rfl (lv_at hl 0 rfl) ?_
    refine lv_aload_n hx hb dL_law_19 rfl (lv_at hl 3 rfl) ?_
    refine va_slen hx hb hX hbl hbA hS dL_law_20 ?_
    refine tz_i 6 rfl ?_
    refine lv_bipush (v := 6) hx hb dL_law_21 (by decide) ?_
    refine lv_isub hx hb dL_law_23 ?_
    refine tz_i 0 (by decide) ?_
    refine lv_icmp_gt (tgt := 1161) hx hb dL_law_24 (by decide) (fun c_6 => ?_) (fun c_6 => ?_)
    · refine lv_iconst (v := 1) hx hb dL_law_1161 (by decide) ?_
      refine va_forget (fun q hq => hA2 _ (hS.2.2 q hq)) ?_
      refine W.widen (k := 600000) (n := 7302250) (Nat.le_of_ble_eq_true rfl) (Nat.le_of_ble_eq_true rfl) ?_
      exact lw_ret hx hb hr hlocks dL_law_1162
    · exact absurd c_6 (by decide)
  · exact absurd c_5 (by decide)
set_option maxRecDepth 20000 in
theorem gL_law_X11_plan : GoodIn lw_tbl (wsV RL 98 RX11 yX11_plan wsX11_plan) := tz_good [(34, 9), (34, 10), (34, 11), (0, 2), (34, 12), (1, 10), (5, 20), (1, 17), (1, 6), (2, 1), (10, 4), (10, 5), (10, 6), (3, 4), (10, 7), (3, 15), (7, 4), (7, 5), (0, 2), (7, 6), (7, 7), (7, 8), (7, 9), (7, 10), (7, 11), (7, 12), (7, 13), (7, 14), (2, 6), (29, 9), (29, 10), (29, 11), (1, 16), (29, 12), (4, 3), (29, 13), (29, 14), (29, 15), (29, 16), (29, 17), (29, 18), (29, 19), (10, 9), (10, 10), (10, 11), (3, 22), (3, 21), (8, 8), (8, 9), (8, 10), (8, 11), (29, 20), (5, 22), (5, 23), (6, 0), (29, 21), (29, 22), (29, 23), (30, 0), (4, 4), (30, 1), (24, 1), (24, 2), (24, 3), (24, 4), (0, 17), (24, 5), (24, 6), (24, 7), (24, 2), (0, 14), (24, 9), (24, 10), (24, 11), (0, 23), (24, 12), (24, 13), (24, 14), (24, 15), (24, 16), (0, 20), (24, 17), (30, 1), (24, 19), (24, 20), (24, 21), (1, 5), (24, 22), (24, 23), (25, 0), (25, 1), (25, 2), (1, 2), (25, 3), (25, 4), (25, 5), (25, 6), (25, 7), (31, 11), (31, 12), (31, 13), (31, 14), (30, 7), (30, 8), (30, 9), (30, 10), (30, 3), (30, 4), (30, 5), (30, 6), (34, 13), (34, 14), (34, 15), (34, 16), (34, 17), (34, 18), (34, 19), (34, 20), (11, 16), (11, 17), (11, 18), (11, 19), (25, 8), (25, 9), (25, 10), (25, 11), (25, 12), (25, 13), (25, 14), (25, 10), (25, 16), (25, 17), (25, 18), (25, 19), (25, 8), (25, 21), (25, 22), (25, 23), (26, 0), (26, 1), (26, 2), (26, 3), (34, 21), (34, 22), (34, 23), (35, 0), (33, 16), (33, 17), (33, 18), (33, 19), (33, 20), (35, 1), (35, 2), (2, 0), (35, 3), (6, 9), (6, 10), (6, 11), (6, 12), (4, 22), (4, 23), (6, 13), (6, 14), (6, 15), (46, 0), (46, 1), (46, 2), (46, 3), (46, 4), (46, 5), (46, 6), (46, 7), (46, 8), (46, 9), (46, 10), (46, 11), (54, 0), (54, 1), (54, 2), (54, 3), (54, 4), (54, 5), (58, 0), (58, 1), (58, 2), (58, 3), (55, 0), (55, 1), (57, 0), (57, 1)] (by decide +kernel) (by decide +kernel)
set_option maxRecDepth 20000 in
theorem gL_law_X12_plan : GoodIn lw_tbl (wsV RL 101 RX12 yX12_plan wsX12_plan) := tz_good [(35, 4), (35, 5), (35, 6), (0, 5), (35, 7), (35, 8), (30, 20), (35, 9), (35, 10), (10, 20), (10, 21), (10, 22), (0, 5), (10, 23), (5, 4), (8, 17), (8, 18), (8, 19), (8, 20), (8, 21), (8, 22), (8, 23), (5, 7), (30, 16), (30, 17), (30, 18), (30, 19), (30, 15), (30, 21), (5, 9), (30, 22), (30, 23), (31, 0), (31, 1), (11, 4), (11, 5), (11, 6), (11, 7), (28, 10), (28, 11), (28, 12), (28, 13), (27, 1), (27, 2), (27, 3), (27, 4), (27, 5), (27, 6), (27, 7), (27, 8), (27, 9), (27, 10), (27, 11), (27, 12), (27, 13), (27, 14), (14, 19), (14, 20), (14, 21), (14, 22), (35, 11), (35, 12), (35, 13), (35, 14), (34, 6), (34, 7), (34, 8), (35, 15), (35, 16), (35, 17), (31, 2), (31, 3), (31, 4), (31, 5), (31, 6), (5, 8), (47, 0), (47, 1), (47, 2), (47, 3), (47, 4), (47, 5), (47, 6), (47, 7), (47, 8), (47, 9), (47, 10), (47, 11), (47, 12), (47, 13), (47, 14), (47, 15), (47, 16), (47, 17), (47, 18), (47, 19), (47, 20), (47, 21), (47, 22), (47, 23)] (by decide +kernel) (by decide +kernel)
theorem dL_law_738 : decode cL_law 738 = .ok (.aload_n 1, 1) := by decide +kernel
theorem dL_law_739 : decode cL_law 739 = .ok (.aload_n 0, 1) := by decide +kernel
theorem dL_law_740 : decode cL_law 740 = .ok (.iload_n 3, 1) := by decide +kernel
theorem dL_law_741 : decode cL_law 741 = .ok (.iconst 1, 1) := by decide +kernel
theorem dL_law_742 : decode cL_law 742 = .ok (.iadd, 1) := by decide +kernel
theorem dL_law_743 : decode cL_law 743 = .ok (.iaload, 1) := by decide +kernel
theorem dL_law_744 : decode cL_law 744 = .ok (.aload_n 0, 1) := by decide +kernel
theorem dL_law_745 : decode cL_law 745 = .ok (.iload_n 3, 1) := by decide +kernel
theorem dL_law_746 : decode cL_law 746 = .ok (.iconst 2, 1) := by decide +kernel
theorem dL_law_747 : decode cL_law 747 = .ok (.iadd, 1) := by decide +kernel
theorem dL_law_748 : decode cL_law 748 = .ok (.iaload, 1) := by decide +kernel
theorem dL_law_749 : decode cL_law 749 = .ok (.invokevirtual 98, 3) := by decide +kernel
theorem dL_law_752 : decode cL_law 752 = .ok (.aload_n 2, 1) := by decide +kernel
theorem dL_law_753 : decode cL_law 753 = .ok (.aload_n 0, 1) := by decide +kernel
theorem dL_law_754 : decode cL_law 754 = .ok (.iload_n 3, 1) := by decide +kernel
theorem dL_law_755 : decode cL_law 755 = .ok (.iconst 1, 1) := by decide +kernel
theorem dL_law_756 : decode cL_law 756 = .ok (.iadd, 1) := by decide +kernel
theorem dL_law_757 : decode cL_law 757 = .ok (.iaload, 1) := by decide +kernel
theorem dL_law_758 : decode cL_law 758 = .ok (.aload_n 0, 1) := by decide +kernel
theorem dL_law_759 : decode cL_law 759 = .ok (.iload_n 3, 1) := by decide +kernel
theorem dL_law_760 : decode cL_law 760 = .ok (.iconst 2, 1) := by decide +kernel
theorem dL_law_761 : decode cL_law 761 = .ok (.iadd, 1) := by decide +kernel
theorem dL_law_762 : decode cL_law 762 = .ok (.iaload, 1) := by decide +kernel
theorem dL_law_763 : decode cL_law 763 = .ok (.invokevirtual 101, 3) := by decide +kernel
theorem dL_law_766 : decode cL_law 766 = .ok (.if_icmp .eq 389, 3) := by decide +kernel
set_option maxHeartbeats 4000000 in
set_option maxRecDepth 100000 in
theorem lc_plan {p : Program} {l : Launch} {e : Env} {s : State} {m : MethodId} {below : List Frame} {meth : Method} {c : Code} {b : Nat} {xs : Nat → Int32} (C0 : lw_At p s m meth c b 6 xs) (hN : tz_N s) (A : Nat → Prop) (hA : ∀ q : Nat, s.heap.size ≤ q → A q) (hA2 : ∀ q : Nat, A q → s.heap.size ≤ q) (hbA : ¬ A b) (dC : Nat → ClassId) (dI : Nat → Nat → Nat) (o : Nat) (aw : Nat) (bk : Nat) (ai : Nat) (ak : Nat) (sc : Nat) (rd : Nat) (fo : Nat) (tx : Nat) (ar : Nat) (atr : Nat) (ao : Nat) (rk0 : Nat) (rk1 : Nat) (rk2 : Nat) (rk3 : Nat) (eak : Nat) (cak1 : Nat) (cr : ClassId) (mo : Nat) (nw : Nat) (kp : Nat) (ik : Nat) (mr : Nat) (mw : Nat) (mq : Nat) (mz : Nat) (my : Nat) (mb : Nat) (mx : Nat) (mv : Nat) (cn : ClassId) (cm : ClassId) (H : Heap) (locs : List Loc) (hK : va_K (dC, dI) vwCl [(cr, .int), (cn, .int), (cm, .int)] s) (hP : va_P (dC, dI) vwCl [(o, .inr (11, [.ref aw, .ref bk, .ref ai, .ref ak, .ref sc, .ref rd, .ref fo, .ref tx, .int 0, .ref ar, .ref atr, .ref ao])), (bk, .inr (0, [.ref rk0, .ref rk1, .ref rk2, .ref rk3, .ref eak, .int 0])), (rk1, .inr (6, [.int 4, .int 5, .ref cak1, .int 0])), (ar, .inl (cr, 3, .inl (fun _ => 0))), (mo, .inr (12, [.ref nw, .ref kp, .ref ik, .ref mr, .long 0, .long 1, .ref mw, .long 0, .int 0, .int 0, .long 0, .long 0, .ref mq, .ref mz, .ref my, .int 0, .ref mb, .int 0, .int 0, .int 0, .int 0, .int 0, .ref mx, .ref mv])), (nw, .inl (cn, 350, .inl (fun _ => 0))), (mr, .inl (cm, 3, .inl (fun _ => 0)))] H) (hD : va_D A [(o, .inr (11, [.ref aw, .ref bk, .ref ai, .ref ak, .ref sc, .ref rd, .ref fo, .ref tx, .int 0, .ref ar, .ref atr, .ref ao])), (bk, .inr (0, [.ref rk0, .ref rk1, .ref rk2, .ref rk3, .ref eak, .int 0])), (rk1, .inr (6, [.int 4, .int 5, .ref cak1, .int 0])), (ar, .inl (cr, 3, .inl (fun _ => 0))), (mo, .inr (12, [.ref nw, .ref kp, .ref ik, .ref mr, .long 0, .long 1, .ref mw, .long 0, .int 0, .int 0, .long 0, .long 0, .ref mq, .ref mz, .ref my, .int 0, .ref mb, .int 0, .int 0, .int 0, .int 0, .int 0, .ref mx, .ref mv])), (nw, .inl (cn, 350, .inl (fun _ => 0))), (mr, .inl (cm, 3, .inl (fun _ => 0)))]) (hS : va_S A s.heap H locs) (ls : Array Slot) (hl : lv_has ls 4 [(3, .int 0), (2, .ref mo), (1, .ref o), (0, .ref b)]) : W p l e room_1 s m #[Value.ref b] below meth c H locs 136 3195 (lw_Z below #[Value.ref b] s) (F0 m 738 ls []) := by
  obtain ⟨hx, hb, hr, hml, hown, hts, hX, hbl, hlocks, hgv⟩ := C0
  have hb : c.code = cL_law := hb
  have hown : s.vm.findClass RL = some m.cls := hown
  refine lv_aload_n hx hb dL_law_738 rfl (lv_at hl 2 rfl) ?_
  refine lv_aload_n hx hb dL_law_739 rfl (lv_at hl 3 rfl) ?_
  refine lv_iload_n hx hb dL_law_740 rfl (lv_at hl 0 rfl) ?_
  refine lv_iconst (v := 1) hx hb dL_law_741 (by decide) ?_
  refine lv_iadd hx hb dL_law_742 ?_
  refine tz_i 1 (by decide) ?_
  refine va_sld hx hb hX hbl hbA hS (show ¬ ((1 : Int32) < 0 ∨ 6 ≤ (1 : Int32).toNatClampNeg) by decide) dL_law_743 ?_
  refine tz_i (xs 1) rfl ?_
  refine lv_aload_n hx hb dL_law_744 rfl (lv_at hl 3 rfl) ?_
  refine lv_iload_n hx hb dL_law_745 rfl (lv_at hl 0 rfl) ?_
  refine lv_iconst (v := 2) hx hb dL_law_746 (by decide) ?_
  refine lv_iadd hx hb dL_law_747 ?_
  refine tz_i 2 (by decide) ?_
  refine va_sld hx hb hX hbl hbA hS (show ¬ ((2 : Int32) < 0 ∨ 6 ≤ (2 : Int32).toNatClampNeg) by decide) dL_law_748 ?_
  refine tz_i (xs 2) rfl ?_
  have hPc := hP.sub (ws' := [(o, .inr (11, [.ref aw, .ref bk, .ref ai, .ref ak, .ref sc, .ref rd, .ref fo, .ref tx, .int 0, .ref ar, .ref atr, .ref ao])), (bk, .inr (0, [.ref rk0, .ref rk1, .ref rk2, .ref rk3, .ref eak, .int 0])), (rk1, .inr (6, [.int 4, .int 5, .ref cak1, .int 0])), (ar, .inl (cr, 3, .inl (fun _ => 0)))]) [0, 1, 2, 3] rfl
  have hDc := hD.sub (ws' := [(o, .inr (11, [.ref aw, .ref bk, .ref ai, .ref ak, .ref sc, .ref rd, .ref fo, .ref tx, .int 0, .ref ar, .ref atr, .ref ao])), (bk, .inr (0, [.ref rk0, .ref rk1, .ref rk2, .ref rk3, .ref eak, .int 0])), (rk1, .inr (6, [.int 4, .int 5, .ref cak1, .int 0])), (ar, .inl (cr, 3, .inl (fun _ => 0)))]) [0, 1, 2, 3] (by decide) rfl
  have hKc := hK.sub (tys' := [(cr, .int)]) [0] rfl
  have hFc := va_free (wc := [(o, .inr (11, [.ref aw, .ref bk, .ref ai, .ref ak, .ref sc, .ref rd, .ref fo, .ref tx, .int 0, .ref ar, .ref atr, .ref ao])), (bk, .inr (0, [.ref rk0, .ref rk1, .ref rk2, .ref rk3, .ref eak, .int 0])), (rk1, .inr (6, [.int 4, .int 5, .ref cak1, .int 0])), (ar, .inl (cr, 3, .inl (fun _ => 0)))]) hD hS hA [0, 1, 2, 3] rfl
  refine va_calli (va_runV (As := [.int (xs 1), .int (xs 2)]) (rest := []) ⟨hx, hb, hml, hown, hts⟩ (k_x_plan l dC dI o aw bk ai ak sc rd fo tx ar atr ao rk0 rk1 rk2 rk3 eak cak1 cr (xs 1) (xs 2) H.size) (cwV 2 hts gL_law_X11_plan rfl rfl rfl (by decide +kernel) ⟨Nat.le_of_ble_eq_true rfl, Nat.le_of_ble_eq_true rfl⟩) ⟨fun a U g mk q => by obtain ⟨q0, q1, qP, qK, qD⟩ := q; exact ⟨q0, q1, qP, va_K.moved (u := U) (U := U.calling g mk a) (Vm.Alike.refl U.vm) qK, qD⟩, va_recv hK hP (ci := 11) (q0 := 0) rfl rfl, fun U hU hW => ⟨rfl, by rw [hU], by rw [hU]; exact hPc, va_K.moved hW.alike hKc, hDc.weaken (fun _ _ _ _ => trivial)⟩⟩ rfl rfl hl.1 rfl (lv_room (Nat.le_of_ble_eq_true rfl)) dL_law_749 ⟨Nat.le_of_ble_eq_true rfl, Nat.le_of_ble_eq_true rfl⟩) hS (fun q _ h => hFc q h) hFc (fun r_1 u_ t H1 locs ht hvm hw_2 hB hz1 hk1 hS => ?_)
  obtain ⟨hP, hD⟩ := va_join (wr := [(mo, .inr (12, [.ref nw, .ref kp, .ref ik, .ref mr, .long 0, .long 1, .ref mw, .long 0, .int 0, .int 0, .long 0, .long 0, .ref mq, .ref mz, .ref my, .int 0, .ref mb, .int 0, .int 0, .int 0, .int 0, .int 0, .ref mx, .ref mv])), (nw, .inl (cn, 350, .inl (fun _ => 0))), (mr, .inl (cm, 3, .inl (fun _ => 0)))]) (w1 := []) hP hD [0, 1, 2, 3] [4, 5, 6] rfl rfl (by decide) (by decide) hk1 hFc tz_P0 tz_D0
  generalize H1 = H at hP hS ⊢
  have hP : va_P (dC, dI) vwCl [(mo, .inr (12, [.ref nw, .ref kp, .ref ik, .ref mr, .long 0, .long 1, .ref mw, .long 0, .int 0, .int 0, .long 0, .long 0, .ref mq, .ref mz, .ref my, .int 0, .ref mb, .int 0, .int 0, .int 0, .int 0, .int 0, .ref mx, .ref mv])), (nw, .inl (cn, 350, .inl (fun _ => 0))), (mr, .inl (cm, 3, .inl (fun _ => 0)))] H := hP
  have hD : va_D A [(mo, .inr (12, [.ref nw, .ref kp, .ref ik, .ref mr, .long 0, .long 1, .ref mw, .long 0, .int 0, .int 0, .long 0, .long 0, .ref mq, .ref mz, .ref my, .int 0, .ref mb, .int 0, .int 0, .int 0, .int 0, .int 0, .ref mx, .ref mv])), (nw, .inl (cn, 350, .inl (fun _ => 0))), (mr, .inl (cm, 3, .inl (fun _ => 0)))] := hD
  obtain rfl : (-2) = r_1 := hw_2.symm
  refine lv_aload_n hx hb dL_law_752 rfl (lv_at hl 1 rfl) ?_
  refine lv_aload_n hx hb dL_law_753 rfl (lv_at hl 3 rfl) ?_
  refine lv_iload_n hx hb dL_law_754 rfl (lv_at hl 0 rfl) ?_
  refine lv_iconst (v := 1) hx hb dL_law_755 (by decide) ?_
  refine lv_iadd hx hb dL_law_756 ?_
  refine tz_i 1 (by decide) ?_
  refine va_sld hx hb hX hbl hbA hS (show ¬ ((1 : Int32) < 0 ∨ 6 ≤ (1 : Int32).toNatClampNeg) by decide) dL_law_757 ?_
  refine tz_i (xs 1) rfl ?_
  refine lv_aload_n hx hb dL_law_758 rfl (lv_at hl 3 rfl) ?_
  refine lv_iload_n hx hb dL_law_759 rfl (lv_at hl 0 rfl) ?_
  refine lv_iconst (v := 2) hx hb dL_law_760 (by decide) ?_
  refine lv_iadd hx hb dL_law_761 ?_
  refine tz_i 2 (by decide) ?_
  refine va_sld hx hb hX hbl hbA hS (show ¬ ((2 : Int32) < 0 ∨ 6 ≤ (2 : Int32).toNatClampNeg) by decide) dL_law_762 ?_
  refine tz_i (xs 2) rfl ?_
  have hPc := hP.sub (ws' := [(mo, .inr (12, [.ref nw, .ref kp, .ref ik, .ref mr, .long 0, .long 1, .ref mw, .long 0, .int 0, .int 0, .long 0, .long 0, .ref mq, .ref mz, .ref my, .int 0, .ref mb, .int 0, .int 0, .int 0, .int 0, .int 0, .ref mx, .ref mv])), (nw, .inl (cn, 350, .inl (fun _ => 0))), (mr, .inl (cm, 3, .inl (fun _ => 0)))]) [0, 1, 2] rfl
  have hDc := hD.sub (ws' := [(mo, .inr (12, [.ref nw, .ref kp, .ref ik, .ref mr, .long 0, .long 1, .ref mw, .long 0, .int 0, .int 0, .long 0, .long 0, .ref mq, .ref mz, .ref my, .int 0, .ref mb, .int 0, .int 0, .int 0, .int 0, .int 0, .ref mx, .ref mv])), (nw, .inl (cn, 350, .inl (fun _ => 0))), (mr, .inl (cm, 3, .inl (fun _ => 0)))]) [0, 1, 2] (by decide) rfl
  have hKc := hK.sub (tys' := [(cn, .int), (cm, .int)]) [1, 2] rfl
  have hFc := va_free (wc := [(mo, .inr (12, [.ref nw, .ref kp, .ref ik, .ref mr, .long 0, .long 1, .ref mw, .long 0, .int 0, .int 0, .long 0, .long 0, .ref mq, .ref mz, .ref my, .int 0, .ref mb, .int 0, .int 0, .int 0, .int 0, .int 0, .ref mx, .ref mv])), (nw, .inl (cn, 350, .inl (fun _ => 0))), (mr, .inl (cm, 3, .inl (fun _ => 0)))]) hD hS hA [0, 1, 2] rfl
  refine va_calli (va_runV (As := [.int (xs 1), .int (xs 2)]) (rest := [.int (-2)]) ⟨hx, hb, hml, hown, hts⟩ (k_m_plan l dC dI mo nw kp ik mr mw mq mz my mb mx mv cn cm (xs 1) (xs 2) H.size) (cwV 2 hts gL_law_X12_plan rfl rfl rfl (by decide +kernel) ⟨Nat.le_of_ble_eq_true rfl, Nat.le_of_ble_eq_true rfl⟩) ⟨fun a U g mk q => by obtain ⟨q0, q1, qP, qK, qD⟩ := q; exact ⟨q0, q1, qP, va_K.moved (u := U) (U := U.calling g mk a) (Vm.Alike.refl U.vm) qK, qD⟩, va_recv hK hP (ci := 12) (q0 := 0) rfl rfl, fun U hU hW => ⟨rfl, by rw [hU], by rw [hU]; exact hPc, va_K.moved hW.alike hKc, hDc.weaken (fun _ _ _ _ => trivial)⟩⟩ rfl rfl hl.1 rfl (lv_room (Nat.le_of_ble_eq_true rfl)) dL_law_763 ⟨Nat.le_of_ble_eq_true rfl, Nat.le_of_ble_eq_true rfl⟩) hS (fun q _ h => hFc q h) hFc (fun r_3 u_ t H1 locs ht hvm hw_4 hB hz1 hk1 hS => ?_)
  obtain ⟨hP, hD⟩ := va_join (wr := []) (w1 := []) hP hD [0, 1, 2] [] rfl rfl (by decide) (by decide) hk1 hFc tz_P0 tz_D0
  generalize H1 = H at hP hS ⊢
  have hP : va_P (dC, dI) vwCl [] H := hP
  have hD : va_D A [] := hD
  obtain rfl : (-2) = r_3 := hw_4.symm
  refine lv_icmp_eq (tgt := 1155) hx hb dL_law_766 (by decide) (fun c_5 => ?_) (fun c_5 => ?_)
  · refine lv_iinc (v := 6) (lv' := [(3, .int 6), (2, .ref mo), (1, .ref o), (0, .ref b)]) hx hb dL_law_1155 hl (k := 0) rfl (by decide) (by decide) rfl (fun ls hl => ?_)
    refine lv_goto (tgt := 18) hx hb dL_law_1158 (by decide) ?_
    refine lv_iload_n hx hb dL_law_18 rfl (lv_at hl 0 rfl) ?_
    refine lv_aload_n hx hb dL_law_19 rfl (lv_at hl 3 rfl) ?_
    refine va_slen hx hb hX hbl hbA hS dL_law_20 ?_
    refine tz_i 6 rfl ?_
    refine lv_bipush (v := 6) hx hb dL_law_21 (by decide) ?_
    refine lv_isub hx hb dL_law_23 ?_
    refine tz_i 0 (by decide) ?_
    refine lv_icmp_gt (tgt := 1161) hx hb dL_law_24 (by decide) (fun c_6 => ?_) (fun c_6 => ?_)
    · refine lv_iconst (v := 1) hx hb dL_law_1161 (by decide) ?_
      refine va_forget (fun q hq => hA2 _ (hS.2.2 q hq)) ?_
      refine W.widen (k := 600000) (n := 7302250) (Nat.le_of_ble_eq_true rfl) (Nat.le_of_ble_eq_true rfl) ?_
      exact lw_ret hx hb hr hlocks dL_law_1162
    · exact absurd c_6 (by decide)
  · exact absurd c_5 (by decide)
set_option maxRecDepth 20000 in
theorem gL_law_X11_open : GoodIn lw_tbl (wsV RL 102 RX11 yX11_open wsX11_open) := tz_good [(35, 18), (35, 19), (35, 20), (0, 2), (35, 21), (1, 10), (5, 20), (2, 7), (32, 11), (32, 12), (32, 13), (0, 2), (32, 14), (1, 17), (1, 6), (5, 21), (5, 22), (5, 23), (3, 4), (6, 0), (3, 15), (29, 9), (29, 10), (29, 11), (1, 16), (29, 12), (4, 3), (29, 13), (29, 14), (29, 15), (29, 16), (29, 17), (29, 18), (29, 19), (10, 9), (10, 10), (10, 11), (3, 22), (3, 21), (8, 8), (8, 9), (8, 10), (8, 11), (29, 20), (29, 21), (29, 22), (29, 23), (30, 0), (4, 4), (30, 1), (24, 1), (24, 2), (24, 3), (24, 4), (0, 17), (24, 5), (24, 6), (24, 7), (24, 2), (0, 14), (24, 9), (24, 10), (24, 11), (0, 23), (24, 12), (24, 13), (24, 14), (24, 15), (24, 16), (0, 20), (24, 17), (30, 1), (24, 19), (24, 20), (24, 21), (1, 5), (24, 22), (24, 23), (25, 0), (25, 1), (25, 2), (1, 2), (25, 3), (25, 4), (25, 5), (25, 6), (25, 7), (31, 11), (31, 12), (31, 13), (31, 14), (10, 8), (46, 0), (46, 1), (46, 2), (46, 3), (46, 4), (46, 5), (46, 6), (46, 7), (46, 8), (46, 9), (46, 10), (46, 11), (54, 0), (54, 1), (54, 2), (54, 3), (54, 4), (54, 5), (58, 0), (58, 1), (58, 2), (58, 3), (55, 0), (55, 1)] (by decide +kernel) (by decide +kernel)
set_option maxRecDepth 20000 in
theorem gL_law_X12_open : GoodIn lw_tbl (wsV RL 105 RX12 yX12_open wsX12_open) := tz_good [(35, 22), (35, 23), (36, 0), (0, 5), (36, 1), (5, 4), (30, 20), (30, 16), (30, 17), (30, 18), (0, 5), (30, 19), (30, 15), (30, 21), (5, 9), (30, 22), (30, 23), (31, 0), (31, 1), (11, 4), (11, 5), (11, 6), (11, 7), (8, 17), (8, 18), (8, 19), (28, 10), (28, 11), (28, 12), (28, 13), (27, 1), (27, 2), (27, 3), (27, 4), (27, 5), (27, 6), (27, 7), (27, 8), (27, 9), (27, 10), (27, 11), (27, 12), (27, 13), (27, 14), (47, 0), (47, 1), (47, 2), (47, 3), (47, 4), (47, 5), (47, 6), (47, 7), (47, 8), (47, 9), (47, 10), (47, 11), (47, 12), (47, 13), (47, 14), (47, 15), (47, 16), (47, 17), (47, 18), (47, 19), (47, 20), (47, 21), (47, 22), (47, 23)] (by decide +kernel) (by decide +kernel)
theorem dL_law_771 : decode cL_law 771 = .ok (.aload_n 1, 1) := by decide +kernel
theorem dL_law_772 : decode cL_law 772 = .ok (.invokevirtual 102, 3) := by decide +kernel
theorem dL_law_775 : decode cL_law 775 = .ok (.aload_n 2, 1) := by decide +kernel
theorem dL_law_776 : decode cL_law 776 = .ok (.invokevirtual 105, 3) := by decide +kernel
theorem dL_law_779 : decode cL_law 779 = .ok (.if_icmp .eq 376, 3) := by decide +kernel
set_option maxHeartbeats 4000000 in
set_option maxRecDepth 100000 in
theorem lc_open {p : Program} {l : Launch} {e : Env} {s : State} {m : MethodId} {below : List Frame} {meth : Method} {c : Code} {b : Nat} {xs : Nat → Int32} (C0 : lw_At p s m meth c b 6 xs) (hN : tz_N s) (A : Nat → Prop) (hA : ∀ q : Nat, s.heap.size ≤ q → A q) (hA2 : ∀ q : Nat, A q → s.heap.size ≤ q) (hbA : ¬ A b) (dC : Nat → ClassId) (dI : Nat → Nat → Nat) (o : Nat) (aw : Nat) (bk : Nat) (ai : Nat) (ak : Nat) (sc : Nat) (rd : Nat) (fo : Nat) (tx : Nat) (ar : Nat) (atr : Nat) (ao : Nat) (rk0 : Nat) (rk1 : Nat) (rk2 : Nat) (rk3 : Nat) (eak : Nat) (cak1 : Nat) (mo : Nat) (nw : Nat) (kp : Nat) (ik : Nat) (mr : Nat) (mw : Nat) (mq : Nat) (mz : Nat) (my : Nat) (mb : Nat) (mx : Nat) (mv : Nat) (cn : ClassId) (H : Heap) (locs : List Loc) (hK : va_K (dC, dI) vwCl [(cn, .int)] s) (hP : va_P (dC, dI) vwCl [(o, .inr (11, [.ref aw, .ref bk, .ref ai, .ref ak, .ref sc, .ref rd, .ref fo, .ref tx, .int 0, .ref ar, .ref atr, .ref ao])), (bk, .inr (0, [.ref rk0, .ref rk1, .ref rk2, .ref rk3, .ref eak, .int 0])), (rk1, .inr (6, [.int 4, .int 5, .ref cak1, .int 0])), (mo, .inr (12, [.ref nw, .ref kp, .ref ik, .ref mr, .long 0, .long 1, .ref mw, .long 0, .int 0, .int 0, .long 0, .long 0, .ref mq, .ref mz, .ref my, .int 0, .ref mb, .int 0, .int 0, .int 0, .int 0, .int 0, .ref mx, .ref mv])), (nw, .inl (cn, 350, .inl (fun _ => 0)))] H) (hD : va_D A [(o, .inr (11, [.ref aw, .ref bk, .ref ai, .ref ak, .ref sc, .ref rd, .ref fo, .ref tx, .int 0, .ref ar, .ref atr, .ref ao])), (bk, .inr (0, [.ref rk0, .ref rk1, .ref rk2, .ref rk3, .ref eak, .int 0])), (rk1, .inr (6, [.int 4, .int 5, .ref cak1, .int 0])), (mo, .inr (12, [.ref nw, .ref kp, .ref ik, .ref mr, .long 0, .long 1, .ref mw, .long 0, .int 0, .int 0, .long 0, .long 0, .ref mq, .ref mz, .ref my, .int 0, .ref mb, .int 0, .int 0, .int 0, .int 0, .int 0, .ref mx, .ref mv])), (nw, .inl (cn, 350, .inl (fun _ => 0)))]) (hS : va_S A s.heap H locs) (ls : Array Slot) (hl : lv_has ls 4 [(3, .int 0), (2, .ref mo), (1, .ref o), (0, .ref b)]) : W p l e room_1 s m #[Value.ref b] below meth c H locs 136 3195 (lw_Z below #[Value.ref b] s) (F0 m 771 ls []) := by
  obtain ⟨hx, hb, hr, hml, hown, hts, hX, hbl, hlocks, hgv⟩ := C0
  have hb : c.code = cL_law := hb
  have hown : s.vm.findClass RL = some m.cls := hown
  refine lv_aload_n hx hb dL_law_771 rfl (lv_at hl 2 rfl) ?_
  have hPc := hP.sub (ws' := [(o, .inr (11, [.ref aw, .ref bk, .ref ai, .ref ak, .ref sc, .ref rd, .ref fo, .ref tx, .int 0, .ref ar, .ref atr, .ref ao])), (bk, .inr (0, [.ref rk0, .ref rk1, .ref rk2, .ref rk3, .ref eak, .int 0])), (rk1, .inr (6, [.int 4, .int 5, .ref cak1, .int 0]))]) [0, 1, 2] rfl
  have hDc := hD.sub (ws' := [(o, .inr (11, [.ref aw, .ref bk, .ref ai, .ref ak, .ref sc, .ref rd, .ref fo, .ref tx, .int 0, .ref ar, .ref atr, .ref ao])), (bk, .inr (0, [.ref rk0, .ref rk1, .ref rk2, .ref rk3, .ref eak, .int 0])), (rk1, .inr (6, [.int 4, .int 5, .ref cak1, .int 0]))]) [0, 1, 2] (by decide) rfl
  have hKc := hK.sub (tys' := []) [] rfl
  have hFc := va_free (wc := [(o, .inr (11, [.ref aw, .ref bk, .ref ai, .ref ak, .ref sc, .ref rd, .ref fo, .ref tx, .int 0, .ref ar, .ref atr, .ref ao])), (bk, .inr (0, [.ref rk0, .ref rk1, .ref rk2, .ref rk3, .ref eak, .int 0])), (rk1, .inr (6, [.int 4, .int 5, .ref cak1, .int 0]))]) hD hS hA [0, 1, 2] rfl
  refine va_calli (va_runV (As := []) (rest := []) ⟨hx, hb, hml, hown, hts⟩ (k_x_open l dC dI o aw bk ai ak sc rd fo tx ar atr ao rk0 rk1 rk2 rk3 eak cak1 H.size) (cwV 0 hts gL_law_X11_open rfl rfl rfl (by decide +kernel) ⟨Nat.le_of_ble_eq_true rfl, Nat.le_of_ble_eq_true rfl⟩) ⟨fun a U g mk q => by obtain ⟨q0, q1, qP, qK, qD⟩ := q; exact ⟨q0, q1, qP, va_K.moved (u := U) (U := U.calling g mk a) (Vm.Alike.refl U.vm) qK, qD⟩, va_recv hK hP (ci := 11) (q0 := 0) rfl rfl, fun U hU hW => ⟨rfl, by rw [hU], by rw [hU]; exact hPc, va_K.moved hW.alike hKc, hDc.weaken (fun _ _ _ _ => trivial)⟩⟩ rfl rfl hl.1 rfl (lv_room (Nat.le_of_ble_eq_true rfl)) dL_law_772 ⟨Nat.le_of_ble_eq_true rfl, Nat.le_of_ble_eq_true rfl⟩) hS (fun q _ h => hFc q h) hFc (fun r_1 u_ t H1 locs ht hvm hw_2 hB hz1 hk1 hS => ?_)
  obtain ⟨hP, hD⟩ := va_join (wr := [(mo, .inr (12, [.ref nw, .ref kp, .ref ik, .ref mr, .long 0, .long 1, .ref mw, .long 0, .int 0, .int 0, .long 0, .long 0, .ref mq, .ref mz, .ref my, .int 0, .ref mb, .int 0, .int 0, .int 0, .int 0, .int 0, .ref mx, .ref mv])), (nw, .inl (cn, 350, .inl (fun _ => 0)))]) (w1 := []) hP hD [0, 1, 2] [3, 4] rfl rfl (by decide) (by decide) hk1 hFc tz_P0 tz_D0
  generalize H1 = H at hP hS ⊢
  have hP : va_P (dC, dI) vwCl [(mo, .inr (12, [.ref nw, .ref kp, .ref ik, .ref mr, .long 0, .long 1, .ref mw, .long 0, .int 0, .int 0, .long 0, .long 0, .ref mq, .ref mz, .ref my, .int 0, .ref mb, .int 0, .int 0, .int 0, .int 0, .int 0, .ref mx, .ref mv])), (nw, .inl (cn, 350, .inl (fun _ => 0)))] H := hP
  have hD : va_D A [(mo, .inr (12, [.ref nw, .ref kp, .ref ik, .ref mr, .long 0, .long 1, .ref mw, .long 0, .int 0, .int 0, .long 0, .long 0, .ref mq, .ref mz, .ref my, .int 0, .ref mb, .int 0, .int 0, .int 0, .int 0, .int 0, .ref mx, .ref mv])), (nw, .inl (cn, 350, .inl (fun _ => 0)))] := hD
  obtain rfl : 0 = r_1 := hw_2.symm
  refine lv_aload_n hx hb dL_law_775 rfl (lv_at hl 1 rfl) ?_
  have hPc := hP.sub (ws' := [(mo, .inr (12, [.ref nw, .ref kp, .ref ik, .ref mr, .long 0, .long 1, .ref mw, .long 0, .int 0, .int 0, .long 0, .long 0, .ref mq, .ref mz, .ref my, .int 0, .ref mb, .int 0, .int 0, .int 0, .int 0, .int 0, .ref mx, .ref mv])), (nw, .inl (cn, 350, .inl (fun _ => 0)))]) [0, 1] rfl
  have hDc := hD.sub (ws' := [(mo, .inr (12, [.ref nw, .ref kp, .ref ik, .ref mr, .long 0, .long 1, .ref mw, .long 0, .int 0, .int 0, .long 0, .long 0, .ref mq, .ref mz, .ref my, .int 0, .ref mb, .int 0, .int 0, .int 0, .int 0, .int 0, .ref mx, .ref mv])), (nw, .inl (cn, 350, .inl (fun _ => 0)))]) [0, 1] (by decide) rfl
  have hKc := hK.sub (tys' := [(cn, .int)]) [0] rfl
  have hFc := va_free (wc := [(mo, .inr (12, [.ref nw, .ref kp, .ref ik, .ref mr, .long 0, .long 1, .ref mw, .long 0, .int 0, .int 0, .long 0, .long 0, .ref mq, .ref mz, .ref my, .int 0, .ref mb, .int 0, .int 0, .int 0, .int 0, .int 0, .ref mx, .ref mv])), (nw, .inl (cn, 350, .inl (fun _ => 0)))]) hD hS hA [0, 1] rfl
  refine va_calli (va_runV (As := []) (rest := [.int 0]) ⟨hx, hb, hml, hown, hts⟩ (k_m_open l dC dI mo nw kp ik mr mw mq mz my mb mx mv cn H.size) (cwV 0 hts gL_law_X12_open rfl rfl rfl (by decide +kernel) ⟨Nat.le_of_ble_eq_true rfl, Nat.le_of_ble_eq_true rfl⟩) ⟨fun a U g mk q => by obtain ⟨q0, q1, qP, qK, qD⟩ := q; exact ⟨q0, q1, qP, va_K.moved (u := U) (U := U.calling g mk a) (Vm.Alike.refl U.vm) qK, qD⟩, va_recv hK hP (ci := 12) (q0 := 0) rfl rfl, fun U hU hW => ⟨rfl, by rw [hU], by rw [hU]; exact hPc, va_K.moved hW.alike hKc, hDc.weaken (fun _ _ _ _ => trivial)⟩⟩ rfl rfl hl.1 rfl (lv_room (Nat.le_of_ble_eq_true rfl)) dL_law_776 ⟨Nat.le_of_ble_eq_true rfl, Nat.le_of_ble_eq_true rfl⟩) hS (fun q _ h => hFc q h) hFc (fun r_3 u_ t H1 locs ht hvm hw_4 hB hz1 hk1 hS => ?_)
  obtain ⟨hP, hD⟩ := va_join (wr := []) (w1 := []) hP hD [0, 1] [] rfl rfl (by decide) (by decide) hk1 hFc tz_P0 tz_D0
  generalize H1 = H at hP hS ⊢
  have hP : va_P (dC, dI) vwCl [] H := hP
  have hD : va_D A [] := hD
  obtain rfl : 0 = r_3 := hw_4.symm
  refine lv_icmp_eq (tgt := 1155) hx hb dL_law_779 (by decide) (fun c_5 => ?_) (fun c_5 => ?_)
  · refine lv_iinc (v := 6) (lv' := [(3, .int 6), (2, .ref mo), (1, .ref o), (0, .ref b)]) hx hb dL_law_1155 hl (k := 0) rfl (by decide) (by decide) rfl (fun ls hl => ?_)
    refine lv_goto (tgt := 18) hx hb dL_law_1158 (by decide) ?_
    refine lv_iload_n hx hb dL_law_18 rfl (lv_at hl 0 rfl) ?_
    refine lv_aload_n hx hb dL_law_19 rfl (lv_at hl 3 rfl) ?_
    refine va_slen hx hb hX hbl hbA hS dL_law_20 ?_
    refine tz_i 6 rfl ?_
    refine lv_bipush (v := 6) hx hb dL_law_21 (by decide) ?_
    refine lv_isub hx hb dL_law_23 ?_
    refine tz_i 0 (by decide) ?_
    refine lv_icmp_gt (tgt := 1161) hx hb dL_law_24 (by decide) (fun c_6 => ?_) (fun c_6 => ?_)
    · refine lv_iconst (v := 1) hx hb dL_law_1161 (by decide) ?_
      refine va_forget (fun q hq => hA2 _ (hS.2.2 q hq)) ?_
      refine W.widen (k := 600000) (n := 7302250) (Nat.le_of_ble_eq_true rfl) (Nat.le_of_ble_eq_true rfl) ?_
      exact lw_ret hx hb hr hlocks dL_law_1162
    · exact absurd c_6 (by decide)
  · exact absurd c_5 (by decide)
set_option maxRecDepth 20000 in
theorem gL_law_X11_sum : GoodIn lw_tbl (wsV RL 106 RX11 yX11_sum wsX11_sum) := tz_good [(36, 2), (36, 3), (36, 4), (0, 2), (36, 5), (1, 10), (5, 20), (2, 7), (32, 11), (32, 12), (32, 13), (0, 2), (32, 14), (1, 17), (1, 6), (5, 21), (5, 22), (5, 23), (3, 4), (6, 0), (3, 15), (29, 9), (29, 10), (29, 11), (1, 16), (29, 12), (4, 3), (29, 13), (29, 14), (29, 15), (29, 16), (29, 17), (29, 18), (29, 19), (10, 9), (10, 10), (10, 11), (3, 22), (3, 21), (8, 8), (8, 9), (8, 10), (8, 11), (29, 20), (29, 21), (29, 22), (29, 23), (30, 0), (4, 4), (30, 1), (24, 1), (24, 2), (24, 3), (24, 4), (0, 17), (24, 5), (24, 6), (24, 7), (24, 2), (0, 14), (24, 9), (24, 10), (24, 11), (0, 23), (24, 12), (24, 13), (24, 14), (24, 15), (24, 16), (0, 20), (24, 17), (30, 1), (24, 19), (24, 20), (24, 21), (1, 5), (24, 22), (24, 23), (25, 0), (25, 1), (25, 2), (1, 2), (25, 3), (25, 4), (25, 5), (25, 6), (25, 7), (31, 11), (31, 12), (31, 13), (31, 14), (46, 0), (46, 1), (46, 2), (46, 3), (46, 4), (46, 5), (46, 6), (46, 7), (46, 8), (46, 9), (46, 10), (46, 11), (54, 0), (54, 1), (54, 2), (54, 3), (54, 4), (54, 5), (58, 0), (58, 1), (58, 2), (58, 3), (55, 0), (55, 1)] (by decide +kernel) (by decide +kernel)
set_option maxRecDepth 20000 in
theorem gL_law_X12_sum : GoodIn lw_tbl (wsV RL 109 RX12 yX12_sum wsX12_sum) := tz_good [(36, 6), (36, 7), (36, 8), (0, 5), (36, 9), (5, 4), (30, 20), (30, 16), (30, 17), (30, 18), (0, 5), (30, 19), (30, 15), (30, 21), (5, 9), (30, 22), (30, 23), (31, 0), (31, 1), (11, 4), (11, 5), (11, 6), (11, 7), (8, 17), (8, 18), (8, 19), (28, 10), (28, 11), (28, 12), (28, 13), (27, 1), (27, 2), (27, 3), (27, 4), (27, 5), (27, 6), (27, 7), (27, 8), (27, 9), (27, 10), (27, 11), (27, 12), (27, 13), (27, 14), (47, 0), (47, 1), (47, 2), (47, 3), (47, 4), (47, 5), (47, 6), (47, 7), (47, 8), (47, 9), (47, 10), (47, 11), (47, 12), (47, 13), (47, 14), (47, 15), (47, 16), (47, 17), (47, 18), (47, 19), (47, 20), (47, 21), (47, 22), (47, 23)] (by decide +kernel) (by decide +kernel)
theorem dL_law_784 : decode cL_law 784 = .ok (.aload_n 1, 1) := by decide +kernel
theorem dL_law_785 : decode cL_law 785 = .ok (.invokevirtual 106, 3) := by decide +kernel
theorem dL_law_788 : decode cL_law 788 = .ok (.aload_n 2, 1) := by decide +kernel
theorem dL_law_789 : decode cL_law 789 = .ok (.invokevirtual 109, 3) := by decide +kernel
theorem dL_law_792 : decode cL_law 792 = .ok (.if_icmp .eq 363, 3) := by decide +kernel
set_option maxHeartbeats 4000000 in
set_option maxRecDepth 100000 in
theorem lc_sum {p : Program} {l : Launch} {e : Env} {s : State} {m : MethodId} {below : List Frame} {meth : Method} {c : Code} {b : Nat} {xs : Nat → Int32} (C0 : lw_At p s m meth c b 6 xs) (hN : tz_N s) (A : Nat → Prop) (hA : ∀ q : Nat, s.heap.size ≤ q → A q) (hA2 : ∀ q : Nat, A q → s.heap.size ≤ q) (hbA : ¬ A b) (dC : Nat → ClassId) (dI : Nat → Nat → Nat) (o : Nat) (aw : Nat) (bk : Nat) (ai : Nat) (ak : Nat) (sc : Nat) (rd : Nat) (fo : Nat) (tx : Nat) (ar : Nat) (atr : Nat) (ao : Nat) (rk0 : Nat) (rk1 : Nat) (rk2 : Nat) (rk3 : Nat) (eak : Nat) (cak1 : Nat) (mo : Nat) (nw : Nat) (kp : Nat) (ik : Nat) (mr : Nat) (mw : Nat) (mq : Nat) (mz : Nat) (my : Nat) (mb : Nat) (mx : Nat) (mv : Nat) (cn : ClassId) (H : Heap) (locs : List Loc) (hK : va_K (dC, dI) vwCl [(cn, .int)] s) (hP : va_P (dC, dI) vwCl [(o, .inr (11, [.ref aw, .ref bk, .ref ai, .ref ak, .ref sc, .ref rd, .ref fo, .ref tx, .int 0, .ref ar, .ref atr, .ref ao])), (bk, .inr (0, [.ref rk0, .ref rk1, .ref rk2, .ref rk3, .ref eak, .int 0])), (rk1, .inr (6, [.int 4, .int 5, .ref cak1, .int 0])), (mo, .inr (12, [.ref nw, .ref kp, .ref ik, .ref mr, .long 0, .long 1, .ref mw, .long 0, .int 0, .int 0, .long 0, .long 0, .ref mq, .ref mz, .ref my, .int 0, .ref mb, .int 0, .int 0, .int 0, .int 0, .int 0, .ref mx, .ref mv])), (nw, .inl (cn, 350, .inl (fun _ => 0)))] H) (hD : va_D A [(o, .inr (11, [.ref aw, .ref bk, .ref ai, .ref ak, .ref sc, .ref rd, .ref fo, .ref tx, .int 0, .ref ar, .ref atr, .ref ao])), (bk, .inr (0, [.ref rk0, .ref rk1, .ref rk2, .ref rk3, .ref eak, .int 0])), (rk1, .inr (6, [.int 4, .int 5, .ref cak1, .int 0])), (mo, .inr (12, [.ref nw, .ref kp, .ref ik, .ref mr, .long 0, .long 1, .ref mw, .long 0, .int 0, .int 0, .long 0, .long 0, .ref mq, .ref mz, .ref my, .int 0, .ref mb, .int 0, .int 0, .int 0, .int 0, .int 0, .ref mx, .ref mv])), (nw, .inl (cn, 350, .inl (fun _ => 0)))]) (hS : va_S A s.heap H locs) (ls : Array Slot) (hl : lv_has ls 4 [(3, .int 0), (2, .ref mo), (1, .ref o), (0, .ref b)]) : W p l e room_1 s m #[Value.ref b] below meth c H locs 136 3195 (lw_Z below #[Value.ref b] s) (F0 m 784 ls []) := by
  obtain ⟨hx, hb, hr, hml, hown, hts, hX, hbl, hlocks, hgv⟩ := C0
  have hb : c.code = cL_law := hb
  have hown : s.vm.findClass RL = some m.cls := hown
  refine lv_aload_n hx hb dL_law_784 rfl (lv_at hl 2 rfl) ?_
  have hPc := hP.sub (ws' := [(o, .inr (11, [.ref aw, .ref bk, .ref ai, .ref ak, .ref sc, .ref rd, .ref fo, .ref tx, .int 0, .ref ar, .ref atr, .ref ao])), (bk, .inr (0, [.ref rk0, .ref rk1, .ref rk2, .ref rk3, .ref eak, .int 0])), (rk1, .inr (6, [.int 4, .int 5, .ref cak1, .int 0]))]) [0, 1, 2] rfl
  have hDc := hD.sub (ws' := [(o, .inr (11, [.ref aw, .ref bk, .ref ai, .ref ak, .ref sc, .ref rd, .ref fo, .ref tx, .int 0, .ref ar, .ref atr, .ref ao])), (bk, .inr (0, [.ref rk0, .ref rk1, .ref rk2, .ref rk3, .ref eak, .int 0])), (rk1, .inr (6, [.int 4, .int 5, .ref cak1, .int 0]))]) [0, 1, 2] (by decide) rfl
  have hKc := hK.sub (tys' := []) [] rfl
  have hFc := va_free (wc := [(o, .inr (11, [.ref aw, .ref bk, .ref ai, .ref ak, .ref sc, .ref rd, .ref fo, .ref tx, .int 0, .ref ar, .ref atr, .ref ao])), (bk, .inr (0, [.ref rk0, .ref rk1, .ref rk2, .ref rk3, .ref eak, .int 0])), (rk1, .inr (6, [.int 4, .int 5, .ref cak1, .int 0]))]) hD hS hA [0, 1, 2] rfl
  refine va_calli (va_runV (As := []) (rest := []) ⟨hx, hb, hml, hown, hts⟩ (k_x_sum l dC dI o aw bk ai ak sc rd fo tx ar atr ao rk0 rk1 rk2 rk3 eak cak1 H.size) (cwV 0 hts gL_law_X11_sum rfl rfl rfl (by decide +kernel) ⟨Nat.le_of_ble_eq_true rfl, Nat.le_of_ble_eq_true rfl⟩) ⟨fun a U g mk q => by obtain ⟨q0, q1, qP, qK, qD⟩ := q; exact ⟨q0, q1, qP, va_K.moved (u := U) (U := U.calling g mk a) (Vm.Alike.refl U.vm) qK, qD⟩, va_recv hK hP (ci := 11) (q0 := 0) rfl rfl, fun U hU hW => ⟨rfl, by rw [hU], by rw [hU]; exact hPc, va_K.moved hW.alike hKc, hDc.weaken (fun _ _ _ _ => trivial)⟩⟩ rfl rfl hl.1 rfl (lv_room (Nat.le_of_ble_eq_true rfl)) dL_law_785 ⟨Nat.le_of_ble_eq_true rfl, Nat.le_of_ble_eq_true rfl⟩) hS (fun q _ h => hFc q h) hFc (fun r_1 u_ t H1 locs ht hvm hw_2 hB hz1 hk1 hS => ?_)
  obtain ⟨hP, hD⟩ := va_join (wr := [(mo, .inr (12, [.ref nw, .ref kp, .ref ik, .ref mr, .long 0, .long 1, .ref mw, .long 0, .int 0, .int 0, .long 0, .long 0, .ref mq, .ref mz, .ref my, .int 0, .ref mb, .int 0, .int 0, .int 0, .int 0, .int 0, .ref mx, .ref mv])), (nw, .inl (cn, 350, .inl (fun _ => 0)))]) (w1 := []) hP hD [0, 1, 2] [3, 4] rfl rfl (by decide) (by decide) hk1 hFc tz_P0 tz_D0
  generalize H1 = H at hP hS ⊢
  have hP : va_P (dC, dI) vwCl [(mo, .inr (12, [.ref nw, .ref kp, .ref ik, .ref mr, .long 0, .long 1, .ref mw, .long 0, .int 0, .int 0, .long 0, .long 0, .ref mq, .ref mz, .ref my, .int 0, .ref mb, .int 0, .int 0, .int 0, .int 0, .int 0, .ref mx, .ref mv])), (nw, .inl (cn, 350, .inl (fun _ => 0)))] H := hP
  have hD : va_D A [(mo, .inr (12, [.ref nw, .ref kp, .ref ik, .ref mr, .long 0, .long 1, .ref mw, .long 0, .int 0, .int 0, .long 0, .long 0, .ref mq, .ref mz, .ref my, .int 0, .ref mb, .int 0, .int 0, .int 0, .int 0, .int 0, .ref mx, .ref mv])), (nw, .inl (cn, 350, .inl (fun _ => 0)))] := hD
  obtain rfl : 0 = r_1 := hw_2.symm
  refine lv_aload_n hx hb dL_law_788 rfl (lv_at hl 1 rfl) ?_
  have hPc := hP.sub (ws' := [(mo, .inr (12, [.ref nw, .ref kp, .ref ik, .ref mr, .long 0, .long 1, .ref mw, .long 0, .int 0, .int 0, .long 0, .long 0, .ref mq, .ref mz, .ref my, .int 0, .ref mb, .int 0, .int 0, .int 0, .int 0, .int 0, .ref mx, .ref mv])), (nw, .inl (cn, 350, .inl (fun _ => 0)))]) [0, 1] rfl
  have hDc := hD.sub (ws' := [(mo, .inr (12, [.ref nw, .ref kp, .ref ik, .ref mr, .long 0, .long 1, .ref mw, .long 0, .int 0, .int 0, .long 0, .long 0, .ref mq, .ref mz, .ref my, .int 0, .ref mb, .int 0, .int 0, .int 0, .int 0, .int 0, .ref mx, .ref mv])), (nw, .inl (cn, 350, .inl (fun _ => 0)))]) [0, 1] (by decide) rfl
  have hKc := hK.sub (tys' := [(cn, .int)]) [0] rfl
  have hFc := va_free (wc := [(mo, .inr (12, [.ref nw, .ref kp, .ref ik, .ref mr, .long 0, .long 1, .ref mw, .long 0, .int 0, .int 0, .long 0, .long 0, .ref mq, .ref mz, .ref my, .int 0, .ref mb, .int 0, .int 0, .int 0, .int 0, .int 0, .ref mx, .ref mv])), (nw, .inl (cn, 350, .inl (fun _ => 0)))]) hD hS hA [0, 1] rfl
  refine va_calli (va_runV (As := []) (rest := [.int 0]) ⟨hx, hb, hml, hown, hts⟩ (k_m_sum l dC dI mo nw kp ik mr mw mq mz my mb mx mv cn H.size) (cwV 0 hts gL_law_X12_sum rfl rfl rfl (by decide +kernel) ⟨Nat.le_of_ble_eq_true rfl, Nat.le_of_ble_eq_true rfl⟩) ⟨fun a U g mk q => by obtain ⟨q0, q1, qP, qK, qD⟩ := q; exact ⟨q0, q1, qP, va_K.moved (u := U) (U := U.calling g mk a) (Vm.Alike.refl U.vm) qK, qD⟩, va_recv hK hP (ci := 12) (q0 := 0) rfl rfl, fun U hU hW => ⟨rfl, by rw [hU], by rw [hU]; exact hPc, va_K.moved hW.alike hKc, hDc.weaken (fun _ _ _ _ => trivial)⟩⟩ rfl rfl hl.1 rfl (lv_room (Nat.le_of_ble_eq_true rfl)) dL_law_789 ⟨Nat.le_of_ble_eq_true rfl, Nat.le_of_ble_eq_true rfl⟩) hS (fun q _ h => hFc q h) hFc (fun r_3 u_ t H1 locs ht hvm hw_4 hB hz1 hk1 hS => ?_)
  obtain ⟨hP, hD⟩ := va_join (wr := []) (w1 := []) hP hD [0, 1] [] rfl rfl (by decide) (by decide) hk1 hFc tz_P0 tz_D0
  generalize H1 = H at hP hS ⊢
  have hP : va_P (dC, dI) vwCl [] H := hP
  have hD : va_D A [] := hD
  obtain rfl : 0 = r_3 := hw_4.symm
  refine lv_icmp_eq (tgt := 1155) hx hb dL_law_792 (by decide) (fun c_5 => ?_) (fun c_5 => ?_)
  · refine lv_iinc (v := 6) (lv' := [(3, .int 6), (2, .ref mo), (1, .ref o), (0, .ref b)]) hx hb dL_law_1155 hl (k := 0) rfl (by decide) (by decide) rfl (fun ls hl => ?_)
    refine lv_goto (tgt := 18) hx hb dL_law_1158 (by decide) ?_
    refine lv_iload_n hx hb dL_law_18 rfl (lv_at hl 0 rfl) ?_
    refine lv_aload_n hx hb dL_law_19 rfl (lv_at hl 3 rfl) ?_
    refine va_slen hx hb hX hbl hbA hS dL_law_20 ?_
    refine tz_i 6 rfl ?_
    refine lv_bipush (v := 6) hx hb dL_law_21 (by decide) ?_
    refine lv_isub hx hb dL_law_23 ?_
    refine tz_i 0 (by decide) ?_
    refine lv_icmp_gt (tgt := 1161) hx hb dL_law_24 (by decide) (fun c_6 => ?_) (fun c_6 => ?_)
    · refine lv_iconst (v := 1) hx hb dL_law_1161 (by decide) ?_
      refine va_forget (fun q hq => hA2 _ (hS.2.2 q hq)) ?_
      refine W.widen (k := 600000) (n := 7302250) (Nat.le_of_ble_eq_true rfl) (Nat.le_of_ble_eq_true rfl) ?_
      exact lw_ret hx hb hr hlocks dL_law_1162
    · exact absurd c_6 (by decide)
  · exact absurd c_5 (by decide)
set_option maxRecDepth 20000 in
theorem gL_law_X11_cause : GoodIn lw_tbl (wsV RL 110 RX11 yX11_cause wsX11_cause) := tz_good [(36, 10), (36, 11), (36, 12), (0, 2), (36, 13), (1, 10), (36, 14), (7, 4), (7, 5), (0, 2), (7, 6), (7, 7), (7, 8), (7, 9), (7, 10), (7, 11), (7, 12), (7, 13), (7, 14), (2, 6), (7, 15), (7, 16), (7, 17), (3, 4), (7, 18), (3, 15), (3, 20), (36, 15), (36, 16), (36, 17), (1, 9), (36, 18), (3, 8), (7, 23), (8, 0), (8, 1), (8, 2), (8, 3), (8, 4), (8, 5), (8, 6), (8, 7), (3, 22), (3, 21), (8, 8), (8, 9), (8, 10), (8, 11), (46, 0), (46, 1), (46, 2), (46, 3), (46, 4), (46, 5), (46, 6), (46, 7), (46, 8), (46, 9), (46, 10), (46, 11), (54, 0), (54, 1), (54, 2), (54, 3), (54, 4), (54, 5), (58, 0), (58, 1), (58, 2), (58, 3)] (by decide +kernel) (by decide +kernel)
set_option maxRecDepth 20000 in
theorem gL_law_X12_cause : GoodIn lw_tbl (wsV RL 113 RX12 yX12_cause wsX12_cause) := tz_good [(36, 19), (36, 20), (36, 21), (0, 5), (36, 22), (36, 23), (37, 0), (37, 1), (35, 8), (8, 16), (5, 4), (8, 17), (8, 18), (0, 5), (8, 19), (8, 20), (8, 21), (8, 22), (8, 23), (5, 7), (9, 0), (9, 1), (9, 2), (9, 3), (47, 0), (47, 1), (47, 2), (47, 3), (47, 4), (47, 5), (47, 6), (47, 7), (47, 8), (47, 9), (47, 10), (47, 11), (47, 12), (47, 13), (47, 14), (47, 15), (47, 16), (47, 17), (47, 18), (47, 19), (47, 20), (47, 21), (47, 22), (47, 23)] (by decide +kernel) (by decide +kernel)
theorem dL_law_797 : decode cL_law 797 = .ok (.aload_n 1, 1) := by decide +kernel
theorem dL_law_798 : decode cL_law 798 = .ok (.aload_n 0, 1) := by decide +kernel
theorem dL_law_799 : decode cL_law 799 = .ok (.iload_n 3, 1) := by decide +kernel
theorem dL_law_800 : decode cL_law 800 = .ok (.iconst 1, 1) := by decide +kernel
theorem dL_law_801 : decode cL_law 801 = .ok (.iadd, 1) := by decide +kernel
theorem dL_law_802 : decode cL_law 802 = .ok (.iaload, 1) := by decide +kernel
theorem dL_law_803 : decode cL_law 803 = .ok (.aload_n 0, 1) := by decide +kernel
theorem dL_law_804 : decode cL_law 804 = .ok (.iload_n 3, 1) := by decide +kernel
theorem dL_law_805 : decode cL_law 805 = .ok (.iconst 2, 1) := by decide +kernel
theorem dL_law_806 : decode cL_law 806 = .ok (.iadd, 1) := by decide +kernel
theorem dL_law_807 : decode cL_law 807 = .ok (.iaload, 1) := by decide +kernel
theorem dL_law_808 : decode cL_law 808 = .ok (.aload_n 0, 1) := by decide +kernel
theorem dL_law_809 : decode cL_law 809 = .ok (.iload_n 3, 1) := by decide +kernel
theorem dL_law_810 : decode cL_law 810 = .ok (.iconst 3, 1) := by decide +kernel
theorem dL_law_811 : decode cL_law 811 = .ok (.iadd, 1) := by decide +kernel
theorem dL_law_812 : decode cL_law 812 = .ok (.iaload, 1) := by decide +kernel
theorem dL_law_813 : decode cL_law 813 = .ok (.aload_n 0, 1) := by decide +kernel
theorem dL_law_814 : decode cL_law 814 = .ok (.iload_n 3, 1) := by decide +kernel
theorem dL_law_815 : decode cL_law 815 = .ok (.iconst 4, 1) := by decide +kernel
theorem dL_law_816 : decode cL_law 816 = .ok (.iadd, 1) := by decide +kernel
theorem dL_law_817 : decode cL_law 817 = .ok (.iaload, 1) := by decide +kernel
theorem dL_law_818 : decode cL_law 818 = .ok (.invokevirtual 110, 3) := by decide +kernel
theorem dL_law_821 : decode cL_law 821 = .ok (.aload_n 2, 1) := by decide +kernel
theorem dL_law_822 : decode cL_law 822 = .ok (.aload_n 0, 1) := by decide +kernel
theorem dL_law_823 : decode cL_law 823 = .ok (.iload_n 3, 1) := by decide +kernel
theorem dL_law_824 : decode cL_law 824 = .ok (.iconst 1, 1) := by decide +kernel
theorem dL_law_825 : decode cL_law 825 = .ok (.iadd, 1) := by decide +kernel
theorem dL_law_826 : decode cL_law 826 = .ok (.iaload, 1) := by decide +kernel
theorem dL_law_827 : decode cL_law 827 = .ok (.aload_n 0, 1) := by decide +kernel
theorem dL_law_828 : decode cL_law 828 = .ok (.iload_n 3, 1) := by decide +kernel
theorem dL_law_829 : decode cL_law 829 = .ok (.iconst 2, 1) := by decide +kernel
theorem dL_law_830 : decode cL_law 830 = .ok (.iadd, 1) := by decide +kernel
theorem dL_law_831 : decode cL_law 831 = .ok (.iaload, 1) := by decide +kernel
theorem dL_law_832 : decode cL_law 832 = .ok (.aload_n 0, 1) := by decide +kernel
theorem dL_law_833 : decode cL_law 833 = .ok (.iload_n 3, 1) := by decide +kernel
theorem dL_law_834 : decode cL_law 834 = .ok (.iconst 3, 1) := by decide +kernel
theorem dL_law_835 : decode cL_law 835 = .ok (.iadd, 1) := by decide +kernel
theorem dL_law_836 : decode cL_law 836 = .ok (.iaload, 1) := by decide +kernel
theorem dL_law_837 : decode cL_law 837 = .ok (.aload_n 0, 1) := by decide +kernel
theorem dL_law_838 : decode cL_law 838 = .ok (.iload_n 3, 1) := by decide +kernel
theorem dL_law_839 : decode cL_law 839 = .ok (.iconst 4, 1) := by decide +kernel
theorem dL_law_840 : decode cL_law 840 = .ok (.iadd, 1) := by decide +kernel
theorem dL_law_841 : decode cL_law 841 = .ok (.iaload, 1) := by decide +kernel
theorem dL_law_842 : decode cL_law 842 = .ok (.invokevirtual 113, 3) := by decide +kernel
theorem dL_law_845 : decode cL_law 845 = .ok (.if_icmp .eq 310, 3) := by decide +kernel
set_option maxHeartbeats 4000000 in
set_option maxRecDepth 100000 in
theorem lc_cause {p : Program} {l : Launch} {e : Env} {s : State} {m : MethodId} {below : List Frame} {meth : Method} {c : Code} {b : Nat} {xs : Nat → Int32} (C0 : lw_At p s m meth c b 6 xs) (hN : tz_N s) (A : Nat → Prop) (hA : ∀ q : Nat, s.heap.size ≤ q → A q) (hA2 : ∀ q : Nat, A q → s.heap.size ≤ q) (hbA : ¬ A b) (dC : Nat → ClassId) (dI : Nat → Nat → Nat) (o : Nat) (aw : Nat) (bk : Nat) (ai : Nat) (ak : Nat) (sc : Nat) (rd : Nat) (fo : Nat) (tx : Nat) (ar : Nat) (atr : Nat) (ao : Nat) (rk0 : Nat) (rk1 : Nat) (rk2 : Nat) (rk3 : Nat) (eak : Nat) (cak3 : Nat) (cck3 : ClassId) (cr : ClassId) (mo : Nat) (nw : Nat) (kp : Nat) (ik : Nat) (mr : Nat) (mw : Nat) (mq : Nat) (mz : Nat) (my : Nat) (mb : Nat) (mx : Nat) (mv : Nat) (cn : ClassId) (cm : ClassId) (H : Heap) (locs : List Loc) (hK : va_K (dC, dI) vwCl [(cck3, .int), (cr, .int), (cn, .int), (cm, .int)] s) (hP : va_P (dC, dI) vwCl [(o, .inr (11, [.ref aw, .ref bk, .ref ai, .ref ak, .ref sc, .ref rd, .ref fo, .ref tx, .int 0, .ref ar, .ref atr, .ref ao])), (bk, .inr (0, [.ref rk0, .ref rk1, .ref rk2, .ref rk3, .ref eak, .int 0])), (rk3, .inr (6, [.int 4, .int 6, .ref cak3, .int 0])), (cak3, .inl (cck3, 24, .inl (fun _ => 0))), (ar, .inl (cr, 3, .inl (fun _ => 0))), (mo, .inr (12, [.ref nw, .ref kp, .ref ik, .ref mr, .long 0, .long 1, .ref mw, .long 0, .int 0, .int 0, .long 0, .long 0, .ref mq, .ref mz, .ref my, .int 0, .ref mb, .int 0, .int 0, .int 0, .int 0, .int 0, .ref mx, .ref mv])), (nw, .inl (cn, 350, .inl (fun _ => 0))), (mr, .inl (cm, 3, .inl (fun _ => 0)))] H) (hD : va_D A [(o, .inr (11, [.ref aw, .ref bk, .ref ai, .ref ak, .ref sc, .ref rd, .ref fo, .ref tx, .int 0, .ref ar, .ref atr, .ref ao])), (bk, .inr (0, [.ref rk0, .ref rk1, .ref rk2, .ref rk3, .ref eak, .int 0])), (rk3, .inr (6, [.int 4, .int 6, .ref cak3, .int 0])), (cak3, .inl (cck3, 24, .inl (fun _ => 0))), (ar, .inl (cr, 3, .inl (fun _ => 0))), (mo, .inr (12, [.ref nw, .ref kp, .ref ik, .ref mr, .long 0, .long 1, .ref mw, .long 0, .int 0, .int 0, .long 0, .long 0, .ref mq, .ref mz, .ref my, .int 0, .ref mb, .int 0, .int 0, .int 0, .int 0, .int 0, .ref mx, .ref mv])), (nw, .inl (cn, 350, .inl (fun _ => 0))), (mr, .inl (cm, 3, .inl (fun _ => 0)))]) (hS : va_S A s.heap H locs) (ls : Array Slot) (hl : lv_has ls 4 [(3, .int 0), (2, .ref mo), (1, .ref o), (0, .ref b)]) : W p l e room_1 s m #[Value.ref b] below meth c H locs 136 3195 (lw_Z below #[Value.ref b] s) (F0 m 797 ls []) := by
  obtain ⟨hx, hb, hr, hml, hown, hts, hX, hbl, hlocks, hgv⟩ := C0
  have hb : c.code = cL_law := hb
  have hown : s.vm.findClass RL = some m.cls := hown
  refine lv_aload_n hx hb dL_law_797 rfl (lv_at hl 2 rfl) ?_
  refine lv_aload_n hx hb dL_law_798 rfl (lv_at hl 3 rfl) ?_
  refine lv_iload_n hx hb dL_law_799 rfl (lv_at hl 0 rfl) ?_
  refine lv_iconst (v := 1) hx hb dL_law_800 (by decide) ?_
  refine lv_iadd hx hb dL_law_801 ?_
  refine tz_i 1 (by decide) ?_
  refine va_sld hx hb hX hbl hbA hS (show ¬ ((1 : Int32) < 0 ∨ 6 ≤ (1 : Int32).toNatClampNeg) by decide) dL_law_802 ?_
  refine tz_i (xs 1) rfl ?_
  refine lv_aload_n hx hb dL_law_803 rfl (lv_at hl 3 rfl) ?_
  refine lv_iload_n hx hb dL_law_804 rfl (lv_at hl 0 rfl) ?_
  refine lv_iconst (v := 2) hx hb dL_law_805 (by decide) ?_
  refine lv_iadd hx hb dL_law_806 ?_
  refine tz_i 2 (by decide) ?_
  refine va_sld hx hb hX hbl hbA hS (show ¬ ((2 : Int32) < 0 ∨ 6 ≤ (2 : Int32).toNatClampNeg) by decide) dL_law_807 ?_
  refine tz_i (xs 2) rfl ?_
  refine lv_aload_n hx hb dL_law_808 rfl (lv_at hl 3 rfl) ?_
  refine lv_iload_n hx hb dL_law_809 rfl (lv_at hl 0 rfl) ?_
  refine lv_iconst (v := 3) hx hb dL_law_810 (by decide) ?_
  refine lv_iadd hx hb dL_law_811 ?_
  refine tz_i 3 (by decide) ?_
  refine va_sld hx hb hX hbl hbA hS (show ¬ ((3 : Int32) < 0 ∨ 6 ≤ (3 : Int32).toNatClampNeg) by decide) dL_law_812 ?_
  refine tz_i (xs 3) rfl ?_
  refine lv_aload_n hx hb dL_law_813 rfl (lv_at hl 3 rfl) ?_
  refine lv_iload_n hx hb dL_law_814 rfl (lv_at hl 0 rfl) ?_
  refine lv_iconst (v := 4) hx hb dL_law_815 (by decide) ?_
  refine lv_iadd hx hb dL_law_816 ?_
  refine tz_i 4 (by decide) ?_
  refine va_sld hx hb hX hbl hbA hS (show ¬ ((4 : Int32) < 0 ∨ 6 ≤ (4 : Int32).toNatClampNeg) by decide) dL_law_817 ?_
  refine tz_i (xs 4) rfl ?_
  have hPc := hP.sub (ws' := [(o, .inr (11, [.ref aw, .ref bk, .ref ai, .ref ak, .ref sc, .ref rd, .ref fo, .ref tx, .int 0, .ref ar, .ref atr, .ref ao])), (bk, .inr (0, [.ref rk0, .ref rk1, .ref rk2, .ref rk3, .ref eak, .int 0])), (rk3, .inr (6, [.int 4, .int 6, .ref cak3, .int 0])), (cak3, .inl (cck3, 24, .inl (fun _ => 0))), (ar, .inl (cr, 3, .inl (fun _ => 0)))]) [0, 1, 2, 3, 4] rfl
  have hDc := hD.sub (ws' := [(o, .inr (11, [.ref aw, .ref bk, .ref ai, .ref ak, .ref sc, .ref rd, .ref fo, .ref tx, .int 0, .ref ar, .ref atr, .ref ao])), (bk, .inr (0, [.ref rk0, .ref rk1, .ref rk2, .ref rk3, .ref eak, .int 0])), (rk3, .inr (6, [.int 4, .int 6, .ref cak3, .int 0])), (cak3, .inl (cck3, 24, .inl (fun _ => 0))), (ar, .inl (cr, 3, .inl (fun _ => 0)))]) [0, 1, 2, 3, 4] (by decide) rfl
  have hKc := hK.sub (tys' := [(cck3, .int), (cr, .int)]) [0, 1] rfl
  have hFc := va_free (wc := [(o, .inr (11, [.ref aw, .ref bk, .ref ai, .ref ak, .ref sc, .ref rd, .ref fo, .ref tx, .int 0, .ref ar, .ref atr, .ref ao])), (bk, .inr (0, [.ref rk0, .ref rk1, .ref rk2, .ref rk3, .ref eak, .int 0])), (rk3, .inr (6, [.int 4, .int 6, .ref cak3, .int 0])), (cak3, .inl (cck3, 24, .inl (fun _ => 0))), (ar, .inl (cr, 3, .inl (fun _ => 0)))]) hD hS hA [0, 1, 2, 3, 4] rfl
  refine va_calli (va_runV (As := [.int (xs 1), .int (xs 2), .int (xs 3), .int (xs 4)]) (rest := []) ⟨hx, hb, hml, hown, hts⟩ (k_x_cause l dC dI o aw bk ai ak sc rd fo tx ar atr ao rk0 rk1 rk2 rk3 eak cak3 cck3 cr (xs 1) (xs 2) (xs 3) (xs 4) H.size) (cwV 4 hts gL_law_X11_cause rfl rfl rfl (by decide +kernel) ⟨Nat.le_of_ble_eq_true rfl, Nat.le_of_ble_eq_true rfl⟩) ⟨fun a U g mk q => by obtain ⟨q0, q1, qP, qK, qD⟩ := q; exact ⟨q0, q1, qP, va_K.moved (u := U) (U := U.calling g mk a) (Vm.Alike.refl U.vm) qK, qD⟩, va_recv hK hP (ci := 11) (q0 := 0) rfl rfl, fun U hU hW => ⟨rfl, by rw [hU], by rw [hU]; exact hPc, va_K.moved hW.alike hKc, hDc.weaken (fun _ _ _ _ => trivial)⟩⟩ rfl rfl hl.1 rfl (lv_room (Nat.le_of_ble_eq_true rfl)) dL_law_818 ⟨Nat.le_of_ble_eq_true rfl, Nat.le_of_ble_eq_true rfl⟩) hS (fun q _ h => hFc q h) hFc (fun r_1 u_ t H1 locs ht hvm hw_2 hB hz1 hk1 hS => ?_)
  obtain ⟨hP, hD⟩ := va_join (wr := [(mo, .inr (12, [.ref nw, .ref kp, .ref ik, .ref mr, .long 0, .long 1, .ref mw, .long 0, .int 0, .int 0, .long 0, .long 0, .ref mq, .ref mz, .ref my, .int 0, .ref mb, .int 0, .int 0, .int 0, .int 0, .int 0, .ref mx, .ref mv])), (nw, .inl (cn, 350, .inl (fun _ => 0))), (mr, .inl (cm, 3, .inl (fun _ => 0)))]) (w1 := []) hP hD [0, 1, 2, 3, 4] [5, 6, 7] rfl rfl (by decide) (by decide) hk1 hFc tz_P0 tz_D0
  generalize H1 = H at hP hS ⊢
  have hP : va_P (dC, dI) vwCl [(mo, .inr (12, [.ref nw, .ref kp, .ref ik, .ref mr, .long 0, .long 1, .ref mw, .long 0, .int 0, .int 0, .long 0, .long 0, .ref mq, .ref mz, .ref my, .int 0, .ref mb, .int 0, .int 0, .int 0, .int 0, .int 0, .ref mx, .ref mv])), (nw, .inl (cn, 350, .inl (fun _ => 0))), (mr, .inl (cm, 3, .inl (fun _ => 0)))] H := hP
  have hD : va_D A [(mo, .inr (12, [.ref nw, .ref kp, .ref ik, .ref mr, .long 0, .long 1, .ref mw, .long 0, .int 0, .int 0, .long 0, .long 0, .ref mq, .ref mz, .ref my, .int 0, .ref mb, .int 0, .int 0, .int 0, .int 0, .int 0, .ref mx, .ref mv])), (nw, .inl (cn, 350, .inl (fun _ => 0))), (mr, .inl (cm, 3, .inl (fun _ => 0)))] := hD
  obtain rfl : (if (-99) ≤ (xs 1) ∧ (xs 1) ≤ 99 then (if 1 ≤ (xs 2) ∧ (xs 2) ≤ 20 then (if 0 ≤ (xs 3) ∧ (xs 3) ≤ 30 then (if 0 ≤ (xs 4) ∧ (xs 4) ≤ 10 then 0 else (-2)) else (-2)) else (-2)) else (-2)) = r_1 := hw_2.symm
  refine lv_aload_n hx hb dL_law_821 rfl (lv_at hl 1 rfl) ?_
  refine lv_aload_n hx hb dL_law_822 rfl (lv_at hl 3 rfl) ?_
  refine lv_iload_n hx hb dL_law_823 rfl (lv_at hl 0 rfl) ?_
  refine lv_iconst (v := 1) hx hb dL_law_824 (by decide) ?_
  refine lv_iadd hx hb dL_law_825 ?_
  refine tz_i 1 (by decide) ?_
  refine va_sld hx hb hX hbl hbA hS (show ¬ ((1 : Int32) < 0 ∨ 6 ≤ (1 : Int32).toNatClampNeg) by decide) dL_law_826 ?_
  refine tz_i (xs 1) rfl ?_
  refine lv_aload_n hx hb dL_law_827 rfl (lv_at hl 3 rfl) ?_
  refine lv_iload_n hx hb dL_law_828 rfl (lv_at hl 0 rfl) ?_
  refine lv_iconst (v := 2) hx hb dL_law_829 (by decide) ?_
  refine lv_iadd hx hb dL_law_830 ?_
  refine tz_i 2 (by decide) ?_
  refine va_sld hx hb hX hbl hbA hS (show ¬ ((2 : Int32) < 0 ∨ 6 ≤ (2 : Int32).toNatClampNeg) by decide) dL_law_831 ?_
  refine tz_i (xs 2) rfl ?_
  refine lv_aload_n hx hb dL_law_832 rfl (lv_at hl 3 rfl) ?_
  refine lv_iload_n hx hb dL_law_833 rfl (lv_at hl 0 rfl) ?_
  refine lv_iconst (v := 3) hx hb dL_law_834 (by decide) ?_
  refine lv_iadd hx hb dL_law_835 ?_
  refine tz_i 3 (by decide) ?_
  refine va_sld hx hb hX hbl hbA hS (show ¬ ((3 : Int32) < 0 ∨ 6 ≤ (3 : Int32).toNatClampNeg) by decide) dL_law_836 ?_
  refine tz_i (xs 3) rfl ?_
  refine lv_aload_n hx hb dL_law_837 rfl (lv_at hl 3 rfl) ?_
  refine lv_iload_n hx hb dL_law_838 rfl (lv_at hl 0 rfl) ?_
  refine lv_iconst (v := 4) hx hb dL_law_839 (by decide) ?_
  refine lv_iadd hx hb dL_law_840 ?_
  refine tz_i 4 (by decide) ?_
  refine va_sld hx hb hX hbl hbA hS (show ¬ ((4 : Int32) < 0 ∨ 6 ≤ (4 : Int32).toNatClampNeg) by decide) dL_law_841 ?_
  refine tz_i (xs 4) rfl ?_
  have hPc := hP.sub (ws' := [(mo, .inr (12, [.ref nw, .ref kp, .ref ik, .ref mr, .long 0, .long 1, .ref mw, .long 0, .int 0, .int 0, .long 0, .long 0, .ref mq, .ref mz, .ref my, .int 0, .ref mb, .int 0, .int 0, .int 0, .int 0, .int 0, .ref mx, .ref mv])), (nw, .inl (cn, 350, .inl (fun _ => 0))), (mr, .inl (cm, 3, .inl (fun _ => 0)))]) [0, 1, 2] rfl
  have hDc := hD.sub (ws' := [(mo, .inr (12, [.ref nw, .ref kp, .ref ik, .ref mr, .long 0, .long 1, .ref mw, .long 0, .int 0, .int 0, .long 0, .long 0, .ref mq, .ref mz, .ref my, .int 0, .ref mb, .int 0, .int 0, .int 0, .int 0, .int 0, .ref mx, .ref mv])), (nw, .inl (cn, 350, .inl (fun _ => 0))), (mr, .inl (cm, 3, .inl (fun _ => 0)))]) [0, 1, 2] (by decide) rfl
  have hKc := hK.sub (tys' := [(cn, .int), (cm, .int)]) [2, 3] rfl
  have hFc := va_free (wc := [(mo, .inr (12, [.ref nw, .ref kp, .ref ik, .ref mr, .long 0, .long 1, .ref mw, .long 0, .int 0, .int 0, .long 0, .long 0, .ref mq, .ref mz, .ref my, .int 0, .ref mb, .int 0, .int 0, .int 0, .int 0, .int 0, .ref mx, .ref mv])), (nw, .inl (cn, 350, .inl (fun _ => 0))), (mr, .inl (cm, 3, .inl (fun _ => 0)))]) hD hS hA [0, 1, 2] rfl
  refine va_calli (va_runV (As := [.int (xs 1), .int (xs 2), .int (xs 3), .int (xs 4)]) (rest := [.int (if (-99) ≤ (xs 1) ∧ (xs 1) ≤ 99 then (if 1 ≤ (xs 2) ∧ (xs 2) ≤ 20 then (if 0 ≤ (xs 3) ∧ (xs 3) ≤ 30 then (if 0 ≤ (xs 4) ∧ (xs 4) ≤ 10 then 0 else (-2)) else (-2)) else (-2)) else (-2))]) ⟨hx, hb, hml, hown, hts⟩ (k_m_cause l dC dI mo nw kp ik mr mw mq mz my mb mx mv cn cm (xs 1) (xs 2) (xs 3) (xs 4) H.size) (cwV 4 hts gL_law_X12_cause rfl rfl rfl (by decide +kernel) ⟨Nat.le_of_ble_eq_true rfl, Nat.le_of_ble_eq_true rfl⟩) ⟨fun a U g mk q => by obtain ⟨q0, q1, qP, qK, qD⟩ := q; exact ⟨q0, q1, qP, va_K.moved (u := U) (U := U.calling g mk a) (Vm.Alike.refl U.vm) qK, qD⟩, va_recv hK hP (ci := 12) (q0 := 0) rfl rfl, fun U hU hW => ⟨rfl, by rw [hU], by rw [hU]; exact hPc, va_K.moved hW.alike hKc, hDc.weaken (fun _ _ _ _ => trivial)⟩⟩ rfl rfl hl.1 rfl (lv_room (Nat.le_of_ble_eq_true rfl)) dL_law_842 ⟨Nat.le_of_ble_eq_true rfl, Nat.le_of_ble_eq_true rfl⟩) hS (fun q _ h => hFc q h) hFc (fun r_3 u_ t H1 locs ht hvm hw_4 hB hz1 hk1 hS => ?_)
  obtain ⟨hP, hD⟩ := va_join (wr := []) (w1 := []) hP hD [0, 1, 2] [] rfl rfl (by decide) (by decide) hk1 hFc tz_P0 tz_D0
  generalize H1 = H at hP hS ⊢
  have hP : va_P (dC, dI) vwCl [] H := hP
  have hD : va_D A [] := hD
  obtain rfl : (if (-99) ≤ (xs 1) ∧ (xs 1) ≤ 99 then (if 1 ≤ (xs 2) ∧ (xs 2) ≤ 20 then (if 0 ≤ (xs 3) ∧ (xs 3) ≤ 30 then (if 0 ≤ (xs 4) ∧ (xs 4) ≤ 10 then 0 else (-2)) else (-2)) else (-2)) else (-2)) = r_3 := hw_4.symm
  refine lv_icmp_eq (tgt := 1155) hx hb dL_law_845 (by decide) (fun c_5 => ?_) (fun c_5 => ?_)
  · refine lv_iinc (v := 6) (lv' := [(3, .int 6), (2, .ref mo), (1, .ref o), (0, .ref b)]) hx hb dL_law_1155 hl (k := 0) rfl (by decide) (by decide) rfl (fun ls hl => ?_)
    refine lv_goto (tgt := 18) hx hb dL_law_1158 (by decide) ?_
    refine lv_iload_n hx hb dL_law_18 rfl (lv_at hl 0 rfl) ?_
    refine lv_aload_n hx hb dL_law_19 rfl (lv_at hl 3 rfl) ?_
    refine va_slen hx hb hX hbl hbA hS dL_law_20 ?_
    refine tz_i 6 rfl ?_
    refine lv_bipush (v := 6) hx hb dL_law_21 (by decide) ?_
    refine lv_isub hx hb dL_law_23 ?_
    refine tz_i 0 (by decide) ?_
    refine lv_icmp_gt (tgt := 1161) hx hb dL_law_24 (by decide) (fun c_6 => ?_) (fun c_6 => ?_)
    · refine lv_iconst (v := 1) hx hb dL_law_1161 (by decide) ?_
      refine va_forget (fun q hq => hA2 _ (hS.2.2 q hq)) ?_
      refine W.widen (k := 600000) (n := 7302250) (Nat.le_of_ble_eq_true rfl) (Nat.le_of_ble_eq_true rfl) ?_
      exact lw_ret hx hb hr hlocks dL_law_1162
    · exact absurd c_6 (by decide)
  · exact absurd rfl c_5
set_option maxRecDepth 20000 in
theorem gL_law_X11_forget : GoodIn lw_tbl (wsV RL 114 RX11 yX11_forget wsX11_forget) := tz_good [(37, 2), (37, 3), (37, 4), (0, 2), (37, 5), (1, 10), (36, 14), (5, 21), (5, 22), (5, 23), (3, 4), (6, 0), (3, 15), (37, 6), (6, 6), (6, 7), (6, 8), (46, 0), (46, 1), (46, 2), (46, 3), (46, 4), (46, 5), (46, 6), (46, 7), (46, 8), (46, 9), (46, 10), (46, 11), (54, 0), (54, 1), (54, 2), (54, 3), (54, 4), (54, 5), (58, 0), (58, 1), (58, 2), (58, 3)] (by decide +kernel) (by decide +kernel)
set_option maxRecDepth 20000 in
theorem gL_law_X12_forget : GoodIn lw_tbl (wsV RL 117 RX12 yX12_forget wsX12_forget) := tz_good [(37, 7), (37, 8), (37, 9), (0, 5), (37, 10), (5, 4), (47, 0), (47, 1), (47, 2), (47, 3), (47, 4), (47, 5), (47, 6), (47, 7), (47, 8), (47, 9), (47, 10), (47, 11), (47, 12), (47, 13), (47, 14), (47, 15), (47, 16), (47, 17), (47, 18), (47, 19), (47, 20), (47, 21), (47, 22), (47, 23)] (by decide +kernel) (by decide +kernel)
theorem dL_law_850 : decode cL_law 850 = .ok (.aload_n 1, 1) := by decide +kernel
theorem dL_law_851 : decode cL_law 851 = .ok (.invokevirtual 114, 3) := by decide +kernel
theorem dL_law_854 : decode cL_law 854 = .ok (.aload_n 2, 1) := by decide +kernel
theorem dL_law_855 : decode cL_law 855 = .ok (.invokevirtual 117, 3) := by decide +kernel
theorem dL_law_858 : decode cL_law 858 = .ok (.if_icmp .eq 297, 3) := by decide +kernel
set_option maxHeartbeats 4000000 in
set_option maxRecDepth 100000 in
theorem lc_forget {p : Program} {l : Launch} {e : Env} {s : State} {m : MethodId} {below : List Frame} {meth : Method} {c : Code} {b : Nat} {xs : Nat → Int32} (C0 : lw_At p s m meth c b 6 xs) (hN : tz_N s) (A : Nat → Prop) (hA : ∀ q : Nat, s.heap.size ≤ q → A q) (hA2 : ∀ q : Nat, A q → s.heap.size ≤ q) (hbA : ¬ A b) (dC : Nat → ClassId) (dI : Nat → Nat → Nat) (o : Nat) (aw : Nat) (bk : Nat) (ai : Nat) (ak : Nat) (sc : Nat) (rd : Nat) (fo : Nat) (tx : Nat) (ar : Nat) (atr : Nat) (ao : Nat) (rk0 : Nat) (rk1 : Nat) (rk2 : Nat) (rk3 : Nat) (eak : Nat) (cak3 : Nat) (mo : Nat) (nw : Nat) (kp : Nat) (ik : Nat) (mr : Nat) (mw : Nat) (mq : Nat) (mz : Nat) (my : Nat) (mb : Nat) (mx : Nat) (mv : Nat) (cn : ClassId) (H : Heap) (locs : List Loc) (hK : va_K (dC, dI) vwCl [(cn, .int)] s) (hP : va_P (dC, dI) vwCl [(o, .inr (11, [.ref aw, .ref bk, .ref ai, .ref ak, .ref sc, .ref rd, .ref fo, .ref tx, .int 0, .ref ar, .ref atr, .ref ao])), (bk, .inr (0, [.ref rk0, .ref rk1, .ref rk2, .ref rk3, .ref eak, .int 0])), (rk3, .inr (6, [.int 4, .int 6, .ref cak3, .int 0])), (mo, .inr (12, [.ref nw, .ref kp, .ref ik, .ref mr, .long 0, .long 1, .ref mw, .long 0, .int 0, .int 0, .long 0, .long 0, .ref mq, .ref mz, .ref my, .int 0, .ref mb, .int 0, .int 0, .int 0, .int 0, .int 0, .ref mx, .ref mv])), (nw, .inl (cn, 350, .inl (fun _ => 0)))] H) (hD : va_D A [(o, .inr (11, [.ref aw, .ref bk, .ref ai, .ref ak, .ref sc, .ref rd, .ref fo, .ref tx, .int 0, .ref ar, .ref atr, .ref ao])), (bk, .inr (0, [.ref rk0, .ref rk1, .ref rk2, .ref rk3, .ref eak, .int 0])), (rk3, .inr (6, [.int 4, .int 6, .ref cak3, .int 0])), (mo, .inr (12, [.ref nw, .ref kp, .ref ik, .ref mr, .long 0, .long 1, .ref mw, .long 0, .int 0, .int 0, .long 0, .long 0, .ref mq, .ref mz, .ref my, .int 0, .ref mb, .int 0, .int 0, .int 0, .int 0, .int 0, .ref mx, .ref mv])), (nw, .inl (cn, 350, .inl (fun _ => 0)))]) (hS : va_S A s.heap H locs) (ls : Array Slot) (hl : lv_has ls 4 [(3, .int 0), (2, .ref mo), (1, .ref o), (0, .ref b)]) : W p l e room_1 s m #[Value.ref b] below meth c H locs 136 3195 (lw_Z below #[Value.ref b] s) (F0 m 850 ls []) := by
  obtain ⟨hx, hb, hr, hml, hown, hts, hX, hbl, hlocks, hgv⟩ := C0
  have hb : c.code = cL_law := hb
  have hown : s.vm.findClass RL = some m.cls := hown
  refine lv_aload_n hx hb dL_law_850 rfl (lv_at hl 2 rfl) ?_
  have hPc := hP.sub (ws' := [(o, .inr (11, [.ref aw, .ref bk, .ref ai, .ref ak, .ref sc, .ref rd, .ref fo, .ref tx, .int 0, .ref ar, .ref atr, .ref ao])), (bk, .inr (0, [.ref rk0, .ref rk1, .ref rk2, .ref rk3, .ref eak, .int 0])), (rk3, .inr (6, [.int 4, .int 6, .ref cak3, .int 0]))]) [0, 1, 2] rfl
  have hDc := hD.sub (ws' := [(o, .inr (11, [.ref aw, .ref bk, .ref ai, .ref ak, .ref sc, .ref rd, .ref fo, .ref tx, .int 0, .ref ar, .ref atr, .ref ao])), (bk, .inr (0, [.ref rk0, .ref rk1, .ref rk2, .ref rk3, .ref eak, .int 0])), (rk3, .inr (6, [.int 4, .int 6, .ref cak3, .int 0]))]) [0, 1, 2] (by decide) rfl
  have hKc := hK.sub (tys' := []) [] rfl
  have hFc := va_free (wc := [(o, .inr (11, [.ref aw, .ref bk, .ref ai, .ref ak, .ref sc, .ref rd, .ref fo, .ref tx, .int 0, .ref ar, .ref atr, .ref ao])), (bk, .inr (0, [.ref rk0, .ref rk1, .ref rk2, .ref rk3, .ref eak, .int 0])), (rk3, .inr (6, [.int 4, .int 6, .ref cak3, .int 0]))]) hD hS hA [0, 1, 2] rfl
  refine va_calli (va_runV (As := []) (rest := []) ⟨hx, hb, hml, hown, hts⟩ (k_x_forget l dC dI o aw bk ai ak sc rd fo tx ar atr ao rk0 rk1 rk2 rk3 eak cak3 H.size) (cwV 0 hts gL_law_X11_forget rfl rfl rfl (by decide +kernel) ⟨Nat.le_of_ble_eq_true rfl, Nat.le_of_ble_eq_true rfl⟩) ⟨fun a U g mk q => by obtain ⟨q0, q1, qP, qK, qD⟩ := q; exact ⟨q0, q1, qP, va_K.moved (u := U) (U := U.calling g mk a) (Vm.Alike.refl U.vm) qK, qD⟩, va_recv hK hP (ci := 11) (q0 := 0) rfl rfl, fun U hU hW => ⟨rfl, by rw [hU], by rw [hU]; exact hPc, va_K.moved hW.alike hKc, hDc.weaken (fun _ _ _ _ => trivial)⟩⟩ rfl rfl hl.1 rfl (lv_room (Nat.le_of_ble_eq_true rfl)) dL_law_851 ⟨Nat.le_of_ble_eq_true rfl, Nat.le_of_ble_eq_true rfl⟩) hS (fun q _ h => hFc q h) hFc (fun r_1 u_ t H1 locs ht hvm hw_2 hB hz1 hk1 hS => ?_)
  obtain ⟨hP, hD⟩ := va_join (wr := [(mo, .inr (12, [.ref nw, .ref kp, .ref ik, .ref mr, .long 0, .long 1, .ref mw, .long 0, .int 0, .int 0, .long 0, .long 0, .ref mq, .ref mz, .ref my, .int 0, .ref mb, .int 0, .int 0, .int 0, .int 0, .int 0, .ref mx, .ref mv])), (nw, .inl (cn, 350, .inl (fun _ => 0)))]) (w1 := []) hP hD [0, 1, 2] [3, 4] rfl rfl (by decide) (by decide) hk1 hFc tz_P0 tz_D0
  generalize H1 = H at hP hS ⊢
  have hP : va_P (dC, dI) vwCl [(mo, .inr (12, [.ref nw, .ref kp, .ref ik, .ref mr, .long 0, .long 1, .ref mw, .long 0, .int 0, .int 0, .long 0, .long 0, .ref mq, .ref mz, .ref my, .int 0, .ref mb, .int 0, .int 0, .int 0, .int 0, .int 0, .ref mx, .ref mv])), (nw, .inl (cn, 350, .inl (fun _ => 0)))] H := hP
  have hD : va_D A [(mo, .inr (12, [.ref nw, .ref kp, .ref ik, .ref mr, .long 0, .long 1, .ref mw, .long 0, .int 0, .int 0, .long 0, .long 0, .ref mq, .ref mz, .ref my, .int 0, .ref mb, .int 0, .int 0, .int 0, .int 0, .int 0, .ref mx, .ref mv])), (nw, .inl (cn, 350, .inl (fun _ => 0)))] := hD
  obtain rfl : 0 = r_1 := hw_2.symm
  refine lv_aload_n hx hb dL_law_854 rfl (lv_at hl 1 rfl) ?_
  have hPc := hP.sub (ws' := [(mo, .inr (12, [.ref nw, .ref kp, .ref ik, .ref mr, .long 0, .long 1, .ref mw, .long 0, .int 0, .int 0, .long 0, .long 0, .ref mq, .ref mz, .ref my, .int 0, .ref mb, .int 0, .int 0, .int 0, .int 0, .int 0, .ref mx, .ref mv])), (nw, .inl (cn, 350, .inl (fun _ => 0)))]) [0, 1] rfl
  have hDc := hD.sub (ws' := [(mo, .inr (12, [.ref nw, .ref kp, .ref ik, .ref mr, .long 0, .long 1, .ref mw, .long 0, .int 0, .int 0, .long 0, .long 0, .ref mq, .ref mz, .ref my, .int 0, .ref mb, .int 0, .int 0, .int 0, .int 0, .int 0, .ref mx, .ref mv])), (nw, .inl (cn, 350, .inl (fun _ => 0)))]) [0, 1] (by decide) rfl
  have hKc := hK.sub (tys' := [(cn, .int)]) [0] rfl
  have hFc := va_free (wc := [(mo, .inr (12, [.ref nw, .ref kp, .ref ik, .ref mr, .long 0, .long 1, .ref mw, .long 0, .int 0, .int 0, .long 0, .long 0, .ref mq, .ref mz, .ref my, .int 0, .ref mb, .int 0, .int 0, .int 0, .int 0, .int 0, .ref mx, .ref mv])), (nw, .inl (cn, 350, .inl (fun _ => 0)))]) hD hS hA [0, 1] rfl
  refine va_calli (va_runV (As := []) (rest := [.int 0]) ⟨hx, hb, hml, hown, hts⟩ (k_m_forget l dC dI mo nw kp ik mr mw mq mz my mb mx mv cn H.size) (cwV 0 hts gL_law_X12_forget rfl rfl rfl (by decide +kernel) ⟨Nat.le_of_ble_eq_true rfl, Nat.le_of_ble_eq_true rfl⟩) ⟨fun a U g mk q => by obtain ⟨q0, q1, qP, qK, qD⟩ := q; exact ⟨q0, q1, qP, va_K.moved (u := U) (U := U.calling g mk a) (Vm.Alike.refl U.vm) qK, qD⟩, va_recv hK hP (ci := 12) (q0 := 0) rfl rfl, fun U hU hW => ⟨rfl, by rw [hU], by rw [hU]; exact hPc, va_K.moved hW.alike hKc, hDc.weaken (fun _ _ _ _ => trivial)⟩⟩ rfl rfl hl.1 rfl (lv_room (Nat.le_of_ble_eq_true rfl)) dL_law_855 ⟨Nat.le_of_ble_eq_true rfl, Nat.le_of_ble_eq_true rfl⟩) hS (fun q _ h => hFc q h) hFc (fun r_3 u_ t H1 locs ht hvm hw_4 hB hz1 hk1 hS => ?_)
  obtain ⟨hP, hD⟩ := va_join (wr := []) (w1 := []) hP hD [0, 1] [] rfl rfl (by decide) (by decide) hk1 hFc tz_P0 tz_D0
  generalize H1 = H at hP hS ⊢
  have hP : va_P (dC, dI) vwCl [] H := hP
  have hD : va_D A [] := hD
  obtain rfl : 0 = r_3 := hw_4.symm
  refine lv_icmp_eq (tgt := 1155) hx hb dL_law_858 (by decide) (fun c_5 => ?_) (fun c_5 => ?_)
  · refine lv_iinc (v := 6) (lv' := [(3, .int 6), (2, .ref mo), (1, .ref o), (0, .ref b)]) hx hb dL_law_1155 hl (k := 0) rfl (by decide) (by decide) rfl (fun ls hl => ?_)
    refine lv_goto (tgt := 18) hx hb dL_law_1158 (by decide) ?_
    refine lv_iload_n hx hb dL_law_18 rfl (lv_at hl 0 rfl) ?_
    refine lv_aload_n hx hb dL_law_19 rfl (lv_at hl 3 rfl) ?_
    refine va_slen hx hb hX hbl hbA hS dL_law_20 ?_
    refine tz_i 6 rfl ?_
    refine lv_bipush (v := 6) hx hb dL_law_21 (by decide) ?_
    refine lv_isub hx hb dL_law_23 ?_
    refine tz_i 0 (by decide) ?_
    refine lv_icmp_gt (tgt := 1161) hx hb dL_law_24 (by decide) (fun c_6 => ?_) (fun c_6 => ?_)
    · refine lv_iconst (v := 1) hx hb dL_law_1161 (by decide) ?_
      refine va_forget (fun q hq => hA2 _ (hS.2.2 q hq)) ?_
      refine W.widen (k := 600000) (n := 7302250) (Nat.le_of_ble_eq_true rfl) (Nat.le_of_ble_eq_true rfl) ?_
      exact lw_ret hx hb hr hlocks dL_law_1162
    · exact absurd c_6 (by decide)
  · exact absurd c_5 (by decide)
set_option maxRecDepth 20000 in
theorem gL_law_X11_why : GoodIn lw_tbl (wsV RL 118 RX11 yX11_why wsX11_why) := tz_good [(37, 11), (37, 12), (37, 13), (0, 2), (37, 14), (1, 10), (36, 14), (7, 4), (7, 5), (0, 2), (7, 6), (7, 7), (7, 8), (7, 9), (7, 10), (7, 11), (7, 12), (7, 13), (7, 14), (2, 6), (5, 21), (5, 22), (5, 23), (3, 4), (6, 0), (3, 15), (37, 15), (37, 16), (37, 17), (37, 18), (10, 8), (10, 9), (10, 10), (10, 11), (3, 22), (3, 21), (8, 8), (8, 9), (8, 10), (8, 11), (37, 19), (37, 20), (37, 21), (37, 22), (46, 0), (46, 1), (46, 2), (46, 3), (46, 4), (46, 5), (46, 6), (46, 7), (46, 8), (46, 9), (46, 10), (46, 11), (54, 0), (54, 1), (54, 2), (54, 3), (54, 4), (54, 5), (58, 0), (58, 1), (58, 2), (58, 3)] (by decide +kernel) (by decide +kernel)
set_option maxRecDepth 20000 in
theorem gL_law_X12_why : GoodIn lw_tbl (wsV RL 121 RX12 yX12_why wsX12_why) := tz_good [(37, 23), (38, 0), (38, 1), (0, 5), (38, 2), (5, 4), (38, 3), (38, 4), (0, 5), (38, 5), (38, 6), (38, 7), (8, 17), (8, 18), (8, 19), (8, 20), (8, 21), (8, 22), (8, 23), (5, 7), (38, 8), (38, 9), (38, 10), (38, 11), (47, 0), (47, 1), (47, 2), (47, 3), (47, 4), (47, 5), (47, 6), (47, 7), (47, 8), (47, 9), (47, 10), (47, 11), (47, 12), (47, 13), (47, 14), (47, 15), (47, 16), (47, 17), (47, 18), (47, 19), (47, 20), (47, 21), (47, 22), (47, 23)] (by decide +kernel) (by decide +kernel)
theorem dL_law_863 : decode cL_law 863 = .ok (.aload_n 1, 1) := by decide +kernel
theorem dL_law_864 : decode cL_law 864 = .ok (.aload_n 0, 1) := by decide +kernel
theorem dL_law_865 : decode cL_law 865 = .ok (.iload_n 3, 1) := by decide +kernel
theorem dL_law_866 : decode cL_law 866 = .ok (.iconst 1, 1) := by decide +kernel
theorem dL_law_867 : decode cL_law 867 = .ok (.iadd, 1) := by decide +kernel
theorem dL_law_868 : decode cL_law 868 = .ok (.iaload, 1) := by decide +kernel
theorem dL_law_869 : decode cL_law 869 = .ok (.aload_n 0, 1) := by decide +kernel
theorem dL_law_870 : decode cL_law 870 = .ok (.iload_n 3, 1) := by decide +kernel
theorem dL_law_871 : decode cL_law 871 = .ok (.iconst 2, 1) := by decide +kernel
theorem dL_law_872 : decode cL_law 872 = .ok (.iadd, 1) := by decide +kernel
theorem dL_law_873 : decode cL_law 873 = .ok (.iaload, 1) := by decide +kernel
theorem dL_law_874 : decode cL_law 874 = .ok (.invokevirtual 118, 3) := by decide +kernel
theorem dL_law_877 : decode cL_law 877 = .ok (.aload_n 2, 1) := by decide +kernel
theorem dL_law_878 : decode cL_law 878 = .ok (.aload_n 0, 1) := by decide +kernel
theorem dL_law_879 : decode cL_law 879 = .ok (.iload_n 3, 1) := by decide +kernel
theorem dL_law_880 : decode cL_law 880 = .ok (.iconst 1, 1) := by decide +kernel
theorem dL_law_881 : decode cL_law 881 = .ok (.iadd, 1) := by decide +kernel
theorem dL_law_882 : decode cL_law 882 = .ok (.iaload, 1) := by decide +kernel
theorem dL_law_883 : decode cL_law 883 = .ok (.aload_n 0, 1) := by decide +kernel
theorem dL_law_884 : decode cL_law 884 = .ok (.iload_n 3, 1) := by decide +kernel
theorem dL_law_885 : decode cL_law 885 = .ok (.iconst 2, 1) := by decide +kernel
theorem dL_law_886 : decode cL_law 886 = .ok (.iadd, 1) := by decide +kernel
theorem dL_law_887 : decode cL_law 887 = .ok (.iaload, 1) := by decide +kernel
theorem dL_law_888 : decode cL_law 888 = .ok (.invokevirtual 121, 3) := by decide +kernel
theorem dL_law_891 : decode cL_law 891 = .ok (.if_icmp .eq 264, 3) := by decide +kernel
set_option maxHeartbeats 4000000 in
set_option maxRecDepth 100000 in
theorem lc_why {p : Program} {l : Launch} {e : Env} {s : State} {m : MethodId} {below : List Frame} {meth : Method} {c : Code} {b : Nat} {xs : Nat → Int32} (C0 : lw_At p s m meth c b 6 xs) (hN : tz_N s) (A : Nat → Prop) (hA : ∀ q : Nat, s.heap.size ≤ q → A q) (hA2 : ∀ q : Nat, A q → s.heap.size ≤ q) (hbA : ¬ A b) (dC : Nat → ClassId) (dI : Nat → Nat → Nat) (o : Nat) (aw : Nat) (bk : Nat) (ai : Nat) (ak : Nat) (sc : Nat) (rd : Nat) (fo : Nat) (tx : Nat) (ar : Nat) (atr : Nat) (ao : Nat) (rk0 : Nat) (rk1 : Nat) (rk2 : Nat) (rk3 : Nat) (eak : Nat) (cak3 : Nat) (cr : ClassId) (mo : Nat) (nw : Nat) (kp : Nat) (ik : Nat) (mr : Nat) (mw : Nat) (mq : Nat) (mz : Nat) (my : Nat) (mb : Nat) (mx : Nat) (mv : Nat) (cn : ClassId) (cm : ClassId) (H : Heap) (locs : List Loc) (hK : va_K (dC, dI) vwCl [(cr, .int), (cn, .int), (cm, .int)] s) (hP : va_P (dC, dI) vwCl [(o, .inr (11, [.ref aw, .ref bk, .ref ai, .ref ak, .ref sc, .ref rd, .ref fo, .ref tx, .int 0, .ref ar, .ref atr, .ref ao])), (bk, .inr (0, [.ref rk0, .ref rk1, .ref rk2, .ref rk3, .ref eak, .int 0])), (rk3, .inr (6, [.int 4, .int 6, .ref cak3, .int 0])), (ar, .inl (cr, 3, .inl (fun _ => 0))), (mo, .inr (12, [.ref nw, .ref kp, .ref ik, .ref mr, .long 0, .long 1, .ref mw, .long 0, .int 0, .int 0, .long 0, .long 0, .ref mq, .ref mz, .ref my, .int 0, .ref mb, .int 0, .int 0, .int 0, .int 0, .int 0, .ref mx, .ref mv])), (nw, .inl (cn, 350, .inl (fun _ => 0))), (mr, .inl (cm, 3, .inl (fun _ => 0)))] H) (hD : va_D A [(o, .inr (11, [.ref aw, .ref bk, .ref ai, .ref ak, .ref sc, .ref rd, .ref fo, .ref tx, .int 0, .ref ar, .ref atr, .ref ao])), (bk, .inr (0, [.ref rk0, .ref rk1, .ref rk2, .ref rk3, .ref eak, .int 0])), (rk3, .inr (6, [.int 4, .int 6, .ref cak3, .int 0])), (ar, .inl (cr, 3, .inl (fun _ => 0))), (mo, .inr (12, [.ref nw, .ref kp, .ref ik, .ref mr, .long 0, .long 1, .ref mw, .long 0, .int 0, .int 0, .long 0, .long 0, .ref mq, .ref mz, .ref my, .int 0, .ref mb, .int 0, .int 0, .int 0, .int 0, .int 0, .ref mx, .ref mv])), (nw, .inl (cn, 350, .inl (fun _ => 0))), (mr, .inl (cm, 3, .inl (fun _ => 0)))]) (hS : va_S A s.heap H locs) (ls : Array Slot) (hl : lv_has ls 4 [(3, .int 0), (2, .ref mo), (1, .ref o), (0, .ref b)]) : W p l e room_1 s m #[Value.ref b] below meth c H locs 136 3195 (lw_Z below #[Value.ref b] s) (F0 m 863 ls []) := by
  obtain ⟨hx, hb, hr, hml, hown, hts, hX, hbl, hlocks, hgv⟩ := C0
  have hb : c.code = cL_law := hb
  have hown : s.vm.findClass RL = some m.cls := hown
  refine lv_aload_n hx hb dL_law_863 rfl (lv_at hl 2 rfl) ?_
  refine lv_aload_n hx hb dL_law_864 rfl (lv_at hl 3 rfl) ?_
  refine lv_iload_n hx hb dL_law_865 rfl (lv_at hl 0 rfl) ?_
  refine lv_iconst (v := 1) hx hb dL_law_866 (by decide) ?_
  refine lv_iadd hx hb dL_law_867 ?_
  refine tz_i 1 (by decide) ?_
  refine va_sld hx hb hX hbl hbA hS (show ¬ ((1 : Int32) < 0 ∨ 6 ≤ (1 : Int32).toNatClampNeg) by decide) dL_law_868 ?_
  refine tz_i (xs 1) rfl ?_
  refine lv_aload_n hx hb dL_law_869 rfl (lv_at hl 3 rfl) ?_
  refine lv_iload_n hx hb dL_law_870 rfl (lv_at hl 0 rfl) ?_
  refine lv_iconst (v := 2) hx hb dL_law_871 (by decide) ?_
  refine lv_iadd hx hb dL_law_872 ?_
  refine tz_i 2 (by decide) ?_
  refine va_sld hx hb hX hbl hbA hS (show ¬ ((2 : Int32) < 0 ∨ 6 ≤ (2 : Int32).toNatClampNeg) by decide) dL_law_873 ?_
  refine tz_i (xs 2) rfl ?_
  have hPc := hP.sub (ws' := [(o, .inr (11, [.ref aw, .ref bk, .ref ai, .ref ak, .ref sc, .ref rd, .ref fo, .ref tx, .int 0, .ref ar, .ref atr, .ref ao])), (bk, .inr (0, [.ref rk0, .ref rk1, .ref rk2, .ref rk3, .ref eak, .int 0])), (rk3, .inr (6, [.int 4, .int 6, .ref cak3, .int 0])), (ar, .inl (cr, 3, .inl (fun _ => 0)))]) [0, 1, 2, 3] rfl
  have hDc := hD.sub (ws' := [(o, .inr (11, [.ref aw, .ref bk, .ref ai, .ref ak, .ref sc, .ref rd, .ref fo, .ref tx, .int 0, .ref ar, .ref atr, .ref ao])), (bk, .inr (0, [.ref rk0, .ref rk1, .ref rk2, .ref rk3, .ref eak, .int 0])), (rk3, .inr (6, [.int 4, .int 6, .ref cak3, .int 0])), (ar, .inl (cr, 3, .inl (fun _ => 0)))]) [0, 1, 2, 3] (by decide) rfl
  have hKc := hK.sub (tys' := [(cr, .int)]) [0] rfl
  have hFc := va_free (wc := [(o, .inr (11, [.ref aw, .ref bk, .ref ai, .ref ak, .ref sc, .ref rd, .ref fo, .ref tx, .int 0, .ref ar, .ref atr, .ref ao])), (bk, .inr (0, [.ref rk0, .ref rk1, .ref rk2, .ref rk3, .ref eak, .int 0])), (rk3, .inr (6, [.int 4, .int 6, .ref cak3, .int 0])), (ar, .inl (cr, 3, .inl (fun _ => 0)))]) hD hS hA [0, 1, 2, 3] rfl
  refine va_calli (va_runV (As := [.int (xs 1), .int (xs 2)]) (rest := []) ⟨hx, hb, hml, hown, hts⟩ (k_x_why l dC dI o aw bk ai ak sc rd fo tx ar atr ao rk0 rk1 rk2 rk3 eak cak3 cr (xs 1) (xs 2) H.size) (cwV 2 hts gL_law_X11_why rfl rfl rfl (by decide +kernel) ⟨Nat.le_of_ble_eq_true rfl, Nat.le_of_ble_eq_true rfl⟩) ⟨fun a U g mk q => by obtain ⟨q0, q1, qP, qK, qD⟩ := q; exact ⟨q0, q1, qP, va_K.moved (u := U) (U := U.calling g mk a) (Vm.Alike.refl U.vm) qK, qD⟩, va_recv hK hP (ci := 11) (q0 := 0) rfl rfl, fun U hU hW => ⟨rfl, by rw [hU], by rw [hU]; exact hPc, va_K.moved hW.alike hKc, hDc.weaken (fun _ _ _ _ => trivial)⟩⟩ rfl rfl hl.1 rfl (lv_room (Nat.le_of_ble_eq_true rfl)) dL_law_874 ⟨Nat.le_of_ble_eq_true rfl, Nat.le_of_ble_eq_true rfl⟩) hS (fun q _ h => hFc q h) hFc (fun r_1 u_ t H1 locs ht hvm hw_2 hB hz1 hk1 hS => ?_)
  obtain ⟨hP, hD⟩ := va_join (wr := [(mo, .inr (12, [.ref nw, .ref kp, .ref ik, .ref mr, .long 0, .long 1, .ref mw, .long 0, .int 0, .int 0, .long 0, .long 0, .ref mq, .ref mz, .ref my, .int 0, .ref mb, .int 0, .int 0, .int 0, .int 0, .int 0, .ref mx, .ref mv])), (nw, .inl (cn, 350, .inl (fun _ => 0))), (mr, .inl (cm, 3, .inl (fun _ => 0)))]) (w1 := []) hP hD [0, 1, 2, 3] [4, 5, 6] rfl rfl (by decide) (by decide) hk1 hFc tz_P0 tz_D0
  generalize H1 = H at hP hS ⊢
  have hP : va_P (dC, dI) vwCl [(mo, .inr (12, [.ref nw, .ref kp, .ref ik, .ref mr, .long 0, .long 1, .ref mw, .long 0, .int 0, .int 0, .long 0, .long 0, .ref mq, .ref mz, .ref my, .int 0, .ref mb, .int 0, .int 0, .int 0, .int 0, .int 0, .ref mx, .ref mv])), (nw, .inl (cn, 350, .inl (fun _ => 0))), (mr, .inl (cm, 3, .inl (fun _ => 0)))] H := hP
  have hD : va_D A [(mo, .inr (12, [.ref nw, .ref kp, .ref ik, .ref mr, .long 0, .long 1, .ref mw, .long 0, .int 0, .int 0, .long 0, .long 0, .ref mq, .ref mz, .ref my, .int 0, .ref mb, .int 0, .int 0, .int 0, .int 0, .int 0, .ref mx, .ref mv])), (nw, .inl (cn, 350, .inl (fun _ => 0))), (mr, .inl (cm, 3, .inl (fun _ => 0)))] := hD
  obtain rfl : (if (-198) ≤ (xs 1) ∧ (xs 1) ≤ 198 then (if 0 ≤ (xs 2) ∧ (xs 2) ≤ 1 then (if (xs 2) = 0 then 0 else (-1)) else (-2)) else (-2)) = r_1 := hw_2.symm
  refine lv_aload_n hx hb dL_law_877 rfl (lv_at hl 1 rfl) ?_
  refine lv_aload_n hx hb dL_law_878 rfl (lv_at hl 3 rfl) ?_
  refine lv_iload_n hx hb dL_law_879 rfl (lv_at hl 0 rfl) ?_
  refine lv_iconst (v := 1) hx hb dL_law_880 (by decide) ?_
  refine lv_iadd hx hb dL_law_881 ?_
  refine tz_i 1 (by decide) ?_
  refine va_sld hx hb hX hbl hbA hS (show ¬ ((1 : Int32) < 0 ∨ 6 ≤ (1 : Int32).toNatClampNeg) by decide) dL_law_882 ?_
  refine tz_i (xs 1) rfl ?_
  refine lv_aload_n hx hb dL_law_883 rfl (lv_at hl 3 rfl) ?_
  refine lv_iload_n hx hb dL_law_884 rfl (lv_at hl 0 rfl) ?_
  refine lv_iconst (v := 2) hx hb dL_law_885 (by decide) ?_
  refine lv_iadd hx hb dL_law_886 ?_
  refine tz_i 2 (by decide) ?_
  refine va_sld hx hb hX hbl hbA hS (show ¬ ((2 : Int32) < 0 ∨ 6 ≤ (2 : Int32).toNatClampNeg) by decide) dL_law_887 ?_
  refine tz_i (xs 2) rfl ?_
  have hPc := hP.sub (ws' := [(mo, .inr (12, [.ref nw, .ref kp, .ref ik, .ref mr, .long 0, .long 1, .ref mw, .long 0, .int 0, .int 0, .long 0, .long 0, .ref mq, .ref mz, .ref my, .int 0, .ref mb, .int 0, .int 0, .int 0, .int 0, .int 0, .ref mx, .ref mv])), (nw, .inl (cn, 350, .inl (fun _ => 0))), (mr, .inl (cm, 3, .inl (fun _ => 0)))]) [0, 1, 2] rfl
  have hDc := hD.sub (ws' := [(mo, .inr (12, [.ref nw, .ref kp, .ref ik, .ref mr, .long 0, .long 1, .ref mw, .long 0, .int 0, .int 0, .long 0, .long 0, .ref mq, .ref mz, .ref my, .int 0, .ref mb, .int 0, .int 0, .int 0, .int 0, .int 0, .ref mx, .ref mv])), (nw, .inl (cn, 350, .inl (fun _ => 0))), (mr, .inl (cm, 3, .inl (fun _ => 0)))]) [0, 1, 2] (by decide) rfl
  have hKc := hK.sub (tys' := [(cn, .int), (cm, .int)]) [1, 2] rfl
  have hFc := va_free (wc := [(mo, .inr (12, [.ref nw, .ref kp, .ref ik, .ref mr, .long 0, .long 1, .ref mw, .long 0, .int 0, .int 0, .long 0, .long 0, .ref mq, .ref mz, .ref my, .int 0, .ref mb, .int 0, .int 0, .int 0, .int 0, .int 0, .ref mx, .ref mv])), (nw, .inl (cn, 350, .inl (fun _ => 0))), (mr, .inl (cm, 3, .inl (fun _ => 0)))]) hD hS hA [0, 1, 2] rfl
  refine va_calli (va_runV (As := [.int (xs 1), .int (xs 2)]) (rest := [.int (if (-198) ≤ (xs 1) ∧ (xs 1) ≤ 198 then (if 0 ≤ (xs 2) ∧ (xs 2) ≤ 1 then (if (xs 2) = 0 then 0 else (-1)) else (-2)) else (-2))]) ⟨hx, hb, hml, hown, hts⟩ (k_m_why l dC dI mo nw kp ik mr mw mq mz my mb mx mv cn cm (xs 1) (xs 2) H.size) (cwV 2 hts gL_law_X12_why rfl rfl rfl (by decide +kernel) ⟨Nat.le_of_ble_eq_true rfl, Nat.le_of_ble_eq_true rfl⟩) ⟨fun a U g mk q => by obtain ⟨q0, q1, qP, qK, qD⟩ := q; exact ⟨q0, q1, qP, va_K.moved (u := U) (U := U.calling g mk a) (Vm.Alike.refl U.vm) qK, qD⟩, va_recv hK hP (ci := 12) (q0 := 0) rfl rfl, fun U hU hW => ⟨rfl, by rw [hU], by rw [hU]; exact hPc, va_K.moved hW.alike hKc, hDc.weaken (fun _ _ _ _ => trivial)⟩⟩ rfl rfl hl.1 rfl (lv_room (Nat.le_of_ble_eq_true rfl)) dL_law_888 ⟨Nat.le_of_ble_eq_true rfl, Nat.le_of_ble_eq_true rfl⟩) hS (fun q _ h => hFc q h) hFc (fun r_3 u_ t H1 locs ht hvm hw_4 hB hz1 hk1 hS => ?_)
  obtain ⟨hP, hD⟩ := va_join (wr := []) (w1 := []) hP hD [0, 1, 2] [] rfl rfl (by decide) (by decide) hk1 hFc tz_P0 tz_D0
  generalize H1 = H at hP hS ⊢
  have hP : va_P (dC, dI) vwCl [] H := hP
  have hD : va_D A [] := hD
  obtain rfl : (if (-198) ≤ (xs 1) ∧ (xs 1) ≤ 198 then (if 0 ≤ (xs 2) ∧ (xs 2) ≤ 1 then (if (xs 2) = 0 then 0 else (-1)) else (-2)) else (-2)) = r_3 := hw_4.symm
  refine lv_icmp_eq (tgt := 1155) hx hb dL_law_891 (by decide) (fun c_5 => ?_) (fun c_5 => ?_)
  · refine lv_iinc (v := 6) (lv' := [(3, .int 6), (2, .ref mo), (1, .ref o), (0, .ref b)]) hx hb dL_law_1155 hl (k := 0) rfl (by decide) (by decide) rfl (fun ls hl => ?_)
    refine lv_goto (tgt := 18) hx hb dL_law_1158 (by decide) ?_
    refine lv_iload_n hx hb dL_law_18 rfl (lv_at hl 0 rfl) ?_
    refine lv_aload_n hx hb dL_law_19 rfl (lv_at hl 3 rfl) ?_
    refine va_slen hx hb hX hbl hbA hS dL_law_20 ?_
    refine tz_i 6 rfl ?_
    refine lv_bipush (v := 6) hx hb dL_law_21 (by decide) ?_
    refine lv_isub hx hb dL_law_23 ?_
    refine tz_i 0 (by decide) ?_
    refine lv_icmp_gt (tgt := 1161) hx hb dL_law_24 (by decide) (fun c_6 => ?_) (fun c_6 => ?_)
    · refine lv_iconst (v := 1) hx hb dL_law_1161 (by decide) ?_
      refine va_forget (fun q hq => hA2 _ (hS.2.2 q hq)) ?_
      refine W.widen (k := 600000) (n := 7302250) (Nat.le_of_ble_eq_true rfl) (Nat.le_of_ble_eq_true rfl) ?_
      exact lw_ret hx hb hr hlocks dL_law_1162
    · exact absurd c_6 (by decide)
  · exact absurd rfl c_5
set_option maxRecDepth 20000 in
theorem gL_law_X11_look : GoodIn lw_tbl (wsV RL 122 RX11 yX11_look wsX11_look) := tz_good [(38, 12), (38, 13), (38, 14), (0, 2), (38, 15), (2, 8), (7, 4), (7, 5), (0, 2), (7, 6), (7, 11), (7, 12), (7, 13), (7, 14), (2, 6), (38, 16), (38, 17), (38, 18), (38, 19), (1, 10), (36, 14), (5, 21), (5, 22), (5, 23), (3, 4), (6, 0), (3, 15), (10, 8), (10, 9), (10, 10), (10, 11), (3, 22), (3, 21), (8, 8), (8, 9), (8, 10), (8, 11), (38, 20), (38, 21), (38, 22), (38, 23), (39, 0), (39, 1), (39, 2), (39, 3), (39, 4), (39, 5), (39, 6), (39, 7), (39, 8), (39, 9), (39, 10), (39, 11), (2, 1), (33, 15), (6, 9), (6, 10), (6, 11), (2, 0), (6, 12), (4, 22), (4, 23), (6, 13), (6, 14), (6, 15), (46, 0), (46, 1), (46, 2), (46, 3), (46, 4), (46, 5), (46, 6), (46, 7), (46, 8), (46, 9), (46, 10), (46, 11), (54, 0), (54, 1), (54, 2), (54, 3), (54, 4), (54, 5), (58, 0), (58, 1), (58, 2), (58, 3), (57, 0), (57, 1)] (by decide +kernel) (by decide +kernel)
set_option maxRecDepth 20000 in
theorem gL_law_X12_look : GoodIn lw_tbl (wsV RL 125 RX12 yX12_look wsX12_look) := tz_good [(39, 12), (39, 13), (39, 14), (0, 5), (39, 15), (39, 16), (39, 17), (5, 12), (5, 11), (8, 16), (38, 3), (38, 4), (0, 5), (38, 5), (38, 6), (38, 7), (8, 17), (8, 18), (8, 19), (8, 20), (8, 21), (8, 22), (8, 23), (5, 7), (39, 18), (39, 19), (39, 20), (39, 21), (5, 4), (5, 10), (38, 8), (38, 9), (38, 10), (38, 11), (39, 22), (39, 23), (40, 0), (40, 1), (40, 2), (40, 3), (40, 4), (40, 5), (40, 6), (40, 7), (40, 8), (40, 9), (31, 2), (31, 3), (31, 4), (31, 5), (31, 6), (5, 8), (47, 0), (47, 1), (47, 2), (47, 3), (47, 4), (47, 5), (47, 6), (47, 7), (47, 8), (47, 9), (47, 10), (47, 11), (47, 12), (47, 13), (47, 14), (47, 15), (47, 16), (47, 17), (47, 18), (47, 19), (47, 20), (47, 21), (47, 22), (47, 23)] (by decide +kernel) (by decide +kernel)
theorem dL_law_896 : decode cL_law 896 = .ok (.aload_n 1, 1) := by decide +kernel
theorem dL_law_897 : decode cL_law 897 = .ok (.aload_n 0, 1) := by decide +kernel
theorem dL_law_898 : decode cL_law 898 = .ok (.iload_n 3, 1) := by decide +kernel
theorem dL_law_899 : decode cL_law 899 = .ok (.iconst 1, 1) := by decide +kernel
theorem dL_law_900 : decode cL_law 900 = .ok (.iadd, 1) := by decide +kernel
theorem dL_law_901 : decode cL_law 901 = .ok (.iaload, 1) := by decide +kernel
theorem dL_law_902 : decode cL_law 902 = .ok (.aload_n 0, 1) := by decide +kernel
theorem dL_law_903 : decode cL_law 903 = .ok (.iload_n 3, 1) := by decide +kernel
theorem dL_law_904 : decode cL_law 904 = .ok (.iconst 2, 1) := by decide +kernel
theorem dL_law_905 : decode cL_law 905 = .ok (.iadd, 1) := by decide +kernel
theorem dL_law_906 : decode cL_law 906 = .ok (.iaload, 1) := by decide +kernel
theorem dL_law_907 : decode cL_law 907 = .ok (.invokevirtual 122, 3) := by decide +kernel
theorem dL_law_910 : decode cL_law 910 = .ok (.aload_n 2, 1) := by decide +kernel
theorem dL_law_911 : decode cL_law 911 = .ok (.aload_n 0, 1) := by decide +kernel
theorem dL_law_912 : decode cL_law 912 = .ok (.iload_n 3, 1) := by decide +kernel
theorem dL_law_913 : decode cL_law 913 = .ok (.iconst 1, 1) := by decide +kernel
theorem dL_law_914 : decode cL_law 914 = .ok (.iadd, 1) := by decide +kernel
theorem dL_law_915 : decode cL_law 915 = .ok (.iaload, 1) := by decide +kernel
theorem dL_law_916 : decode cL_law 916 = .ok (.aload_n 0, 1) := by decide +kernel
theorem dL_law_917 : decode cL_law 917 = .ok (.iload_n 3, 1) := by decide +kernel
theorem dL_law_918 : decode cL_law 918 = .ok (.iconst 2, 1) := by decide +kernel
theorem dL_law_919 : decode cL_law 919 = .ok (.iadd, 1) := by decide +kernel
theorem dL_law_920 : decode cL_law 920 = .ok (.iaload, 1) := by decide +kernel
theorem dL_law_921 : decode cL_law 921 = .ok (.invokevirtual 125, 3) := by decide +kernel
theorem dL_law_924 : decode cL_law 924 = .ok (.if_icmp .eq 231, 3) := by decide +kernel
set_option maxHeartbeats 4000000 in
set_option maxRecDepth 100000 in
theorem lc_look {p : Program} {l : Launch} {e : Env} {s : State} {m : MethodId} {below : List Frame} {meth : Method} {c : Code} {b : Nat} {xs : Nat → Int32} (C0 : lw_At p s m meth c b 6 xs) (hN : tz_N s) (A : Nat → Prop) (hA : ∀ q : Nat, s.heap.size ≤ q → A q) (hA2 : ∀ q : Nat, A q → s.heap.size ≤ q) (hbA : ¬ A b) (dC : Nat → ClassId) (dI : Nat → Nat → Nat) (o : Nat) (aw : Nat) (bk : Nat) (ai : Nat) (ak : Nat) (sc : Nat) (rd : Nat) (fo : Nat) (tx : Nat) (ar : Nat) (atr : Nat) (ao : Nat) (rk0 : Nat) (rk1 : Nat) (rk2 : Nat) (rk3 : Nat) (eak : Nat) (cak3 : Nat) (cr : ClassId) (mo : Nat) (nw : Nat) (kp : Nat) (ik : Nat) (mr : Nat) (mw : Nat) (mq : Nat) (mz : Nat) (my : Nat) (mb : Nat) (mx : Nat) (mv : Nat) (cn : ClassId) (cm : ClassId) (H : Heap) (locs : List Loc) (hK : va_K (dC, dI) vwCl [(cr, .int), (cn, .int), (cm, .int)] s) (hP : va_P (dC, dI) vwCl [(o, .inr (11, [.ref aw, .ref bk, .ref ai, .ref ak, .ref sc, .ref rd, .ref fo, .ref tx, .int 0, .ref ar, .ref atr, .ref ao])), (bk, .inr (0, [.ref rk0, .ref rk1, .ref rk2, .ref rk3, .ref eak, .int 0])), (rk3, .inr (6, [.int 4, .int 6, .ref cak3, .int 0])), (ar, .inl (cr, 3, .inl (fun _ => 0))), (mo, .inr (12, [.ref nw, .ref kp, .ref ik, .ref mr, .long 0, .long 1, .ref mw, .long 0, .int 0, .int 0, .long 0, .long 0, .ref mq, .ref mz, .ref my, .int 0, .ref mb, .int 0, .int 0, .int 0, .int 0, .int 0, .ref mx, .ref mv])), (nw, .inl (cn, 350, .inl (fun _ => 0))), (mr, .inl (cm, 3, .inl (fun _ => 0)))] H) (hD : va_D A [(o, .inr (11, [.ref aw, .ref bk, .ref ai, .ref ak, .ref sc, .ref rd, .ref fo, .ref tx, .int 0, .ref ar, .ref atr, .ref ao])), (bk, .inr (0, [.ref rk0, .ref rk1, .ref rk2, .ref rk3, .ref eak, .int 0])), (rk3, .inr (6, [.int 4, .int 6, .ref cak3, .int 0])), (ar, .inl (cr, 3, .inl (fun _ => 0))), (mo, .inr (12, [.ref nw, .ref kp, .ref ik, .ref mr, .long 0, .long 1, .ref mw, .long 0, .int 0, .int 0, .long 0, .long 0, .ref mq, .ref mz, .ref my, .int 0, .ref mb, .int 0, .int 0, .int 0, .int 0, .int 0, .ref mx, .ref mv])), (nw, .inl (cn, 350, .inl (fun _ => 0))), (mr, .inl (cm, 3, .inl (fun _ => 0)))]) (hS : va_S A s.heap H locs) (ls : Array Slot) (hl : lv_has ls 4 [(3, .int 0), (2, .ref mo), (1, .ref o), (0, .ref b)]) : W p l e room_1 s m #[Value.ref b] below meth c H locs 136 3195 (lw_Z below #[Value.ref b] s) (F0 m 896 ls []) := by
  obtain ⟨hx, hb, hr, hml, hown, hts, hX, hbl, hlocks, hgv⟩ := C0
  have hb : c.code = cL_law := hb
  have hown : s.vm.findClass RL = some m.cls := hown
  refine lv_aload_n hx hb dL_law_896 rfl (lv_at hl 2 rfl) ?_
  refine lv_aload_n hx hb dL_law_897 rfl (lv_at hl 3 rfl) ?_
  refine lv_iload_n hx hb dL_law_898 rfl (lv_at hl 0 rfl) ?_
  refine lv_iconst (v := 1) hx hb dL_law_899 (by decide) ?_
  refine lv_iadd hx hb dL_law_900 ?_
  refine tz_i 1 (by decide) ?_
  refine va_sld hx hb hX hbl hbA hS (show ¬ ((1 : Int32) < 0 ∨ 6 ≤ (1 : Int32).toNatClampNeg) by decide) dL_law_901 ?_
  refine tz_i (xs 1) rfl ?_
  refine lv_aload_n hx hb dL_law_902 rfl (lv_at hl 3 rfl) ?_
  refine lv_iload_n hx hb dL_law_903 rfl (lv_at hl 0 rfl) ?_
  refine lv_iconst (v := 2) hx hb dL_law_904 (by decide) ?_
  refine lv_iadd hx hb dL_law_905 ?_
  refine tz_i 2 (by decide) ?_
  refine va_sld hx hb hX hbl hbA hS (show ¬ ((2 : Int32) < 0 ∨ 6 ≤ (2 : Int32).toNatClampNeg) by decide) dL_law_906 ?_
  refine tz_i (xs 2) rfl ?_
  have hPc := hP.sub (ws' := [(o, .inr (11, [.ref aw, .ref bk, .ref ai, .ref ak, .ref sc, .ref rd, .ref fo, .ref tx, .int 0, .ref ar, .ref atr, .ref ao])), (bk, .inr (0, [.ref rk0, .ref rk1, .ref rk2, .ref rk3, .ref eak, .int 0])), (rk3, .inr (6, [.int 4, .int 6, .ref cak3, .int 0])), (ar, .inl (cr, 3, .inl (fun _ => 0)))]) [0, 1, 2, 3] rfl
  have hDc := hD.sub (ws' := [(o, .inr (11, [.ref aw, .ref bk, .ref ai, .ref ak, .ref sc, .ref rd, .ref fo, .ref tx, .int 0, .ref ar, .ref atr, .ref ao])), (bk, .inr (0, [.ref rk0, .ref rk1, .ref rk2, .ref rk3, .ref eak, .int 0])), (rk3, .inr (6, [.int 4, .int 6, .ref cak3, .int 0])), (ar, .inl (cr, 3, .inl (fun _ => 0)))]) [0, 1, 2, 3] (by decide) rfl
  have hKc := hK.sub (tys' := [(cr, .int)]) [0] rfl
  have hFc := va_free (wc := [(o, .inr (11, [.ref aw, .ref bk, .ref ai, .ref ak, .ref sc, .ref rd, .ref fo, .ref tx, .int 0, .ref ar, .ref atr, .ref ao])), (bk, .inr (0, [.ref rk0, .ref rk1, .ref rk2, .ref rk3, .ref eak, .int 0])), (rk3, .inr (6, [.int 4, .int 6, .ref cak3, .int 0])), (ar, .inl (cr, 3, .inl (fun _ => 0)))]) hD hS hA [0, 1, 2, 3] rfl
  refine va_calli (va_runV (As := [.int (xs 1), .int (xs 2)]) (rest := []) ⟨hx, hb, hml, hown, hts⟩ (k_x_look l dC dI o aw bk ai ak sc rd fo tx ar atr ao rk0 rk1 rk2 rk3 eak cak3 cr (xs 1) (xs 2) H.size) (cwV 2 hts gL_law_X11_look rfl rfl rfl (by decide +kernel) ⟨Nat.le_of_ble_eq_true rfl, Nat.le_of_ble_eq_true rfl⟩) ⟨fun a U g mk q => by obtain ⟨q0, q1, qP, qK, qD⟩ := q; exact ⟨q0, q1, qP, va_K.moved (u := U) (U := U.calling g mk a) (Vm.Alike.refl U.vm) qK, qD⟩, va_recv hK hP (ci := 11) (q0 := 0) rfl rfl, fun U hU hW => ⟨rfl, by rw [hU], by rw [hU]; exact hPc, va_K.moved hW.alike hKc, hDc.weaken (fun _ _ _ _ => trivial)⟩⟩ rfl rfl hl.1 rfl (lv_room (Nat.le_of_ble_eq_true rfl)) dL_law_907 ⟨Nat.le_of_ble_eq_true rfl, Nat.le_of_ble_eq_true rfl⟩) hS (fun q _ h => hFc q h) hFc (fun r_1 u_ t H1 locs ht hvm hw_2 hB hz1 hk1 hS => ?_)
  obtain ⟨hP, hD⟩ := va_join (wr := [(mo, .inr (12, [.ref nw, .ref kp, .ref ik, .ref mr, .long 0, .long 1, .ref mw, .long 0, .int 0, .int 0, .long 0, .long 0, .ref mq, .ref mz, .ref my, .int 0, .ref mb, .int 0, .int 0, .int 0, .int 0, .int 0, .ref mx, .ref mv])), (nw, .inl (cn, 350, .inl (fun _ => 0))), (mr, .inl (cm, 3, .inl (fun _ => 0)))]) (w1 := []) hP hD [0, 1, 2, 3] [4, 5, 6] rfl rfl (by decide) (by decide) hk1 hFc tz_P0 tz_D0
  generalize H1 = H at hP hS ⊢
  have hP : va_P (dC, dI) vwCl [(mo, .inr (12, [.ref nw, .ref kp, .ref ik, .ref mr, .long 0, .long 1, .ref mw, .long 0, .int 0, .int 0, .long 0, .long 0, .ref mq, .ref mz, .ref my, .int 0, .ref mb, .int 0, .int 0, .int 0, .int 0, .int 0, .ref mx, .ref mv])), (nw, .inl (cn, 350, .inl (fun _ => 0))), (mr, .inl (cm, 3, .inl (fun _ => 0)))] H := hP
  have hD : va_D A [(mo, .inr (12, [.ref nw, .ref kp, .ref ik, .ref mr, .long 0, .long 1, .ref mw, .long 0, .int 0, .int 0, .long 0, .long 0, .ref mq, .ref mz, .ref my, .int 0, .ref mb, .int 0, .int 0, .int 0, .int 0, .int 0, .ref mx, .ref mv])), (nw, .inl (cn, 350, .inl (fun _ => 0))), (mr, .inl (cm, 3, .inl (fun _ => 0)))] := hD
  obtain rfl : (if (-198) ≤ (xs 1) ∧ (xs 1) ≤ 198 then (if 0 ≤ (xs 2) then (-5) else (-10)) else (-10)) = r_1 := hw_2.symm
  refine lv_aload_n hx hb dL_law_910 rfl (lv_at hl 1 rfl) ?_
  refine lv_aload_n hx hb dL_law_911 rfl (lv_at hl 3 rfl) ?_
  refine lv_iload_n hx hb dL_law_912 rfl (lv_at hl 0 rfl) ?_
  refine lv_iconst (v := 1) hx hb dL_law_913 (by decide) ?_
  refine lv_iadd hx hb dL_law_914 ?_
  refine tz_i 1 (by decide) ?_
  refine va_sld hx hb hX hbl hbA hS (show ¬ ((1 : Int32) < 0 ∨ 6 ≤ (1 : Int32).toNatClampNeg) by decide) dL_law_915 ?_
  refine tz_i (xs 1) rfl ?_
  refine lv_aload_n hx hb dL_law_916 rfl (lv_at hl 3 rfl) ?_
  refine lv_iload_n hx hb dL_law_917 rfl (lv_at hl 0 rfl) ?_
  refine lv_iconst (v := 2) hx hb dL_law_918 (by decide) ?_
  refine lv_iadd hx hb dL_law_919 ?_
  refine tz_i 2 (by decide) ?_
  refine va_sld hx hb hX hbl hbA hS (show ¬ ((2 : Int32) < 0 ∨ 6 ≤ (2 : Int32).toNatClampNeg) by decide) dL_law_920 ?_
  refine tz_i (xs 2) rfl ?_
  have hPc := hP.sub (ws' := [(mo, .inr (12, [.ref nw, .ref kp, .ref ik, .ref mr, .long 0, .long 1, .ref mw, .long 0, .int 0, .int 0, .long 0, .long 0, .ref mq, .ref mz, .ref my, .int 0, .ref mb, .int 0, .int 0, .int 0, .int 0, .int 0, .ref mx, .ref mv])), (nw, .inl (cn, 350, .inl (fun _ => 0))), (mr, .inl (cm, 3, .inl (fun _ => 0)))]) [0, 1, 2] rfl
  have hDc := hD.sub (ws' := [(mo, .inr (12, [.ref nw, .ref kp, .ref ik, .ref mr, .long 0, .long 1, .ref mw, .long 0, .int 0, .int 0, .long 0, .long 0, .ref mq, .ref mz, .ref my, .int 0, .ref mb, .int 0, .int 0, .int 0, .int 0, .int 0, .ref mx, .ref mv])), (nw, .inl (cn, 350, .inl (fun _ => 0))), (mr, .inl (cm, 3, .inl (fun _ => 0)))]) [0, 1, 2] (by decide) rfl
  have hKc := hK.sub (tys' := [(cn, .int), (cm, .int)]) [1, 2] rfl
  have hFc := va_free (wc := [(mo, .inr (12, [.ref nw, .ref kp, .ref ik, .ref mr, .long 0, .long 1, .ref mw, .long 0, .int 0, .int 0, .long 0, .long 0, .ref mq, .ref mz, .ref my, .int 0, .ref mb, .int 0, .int 0, .int 0, .int 0, .int 0, .ref mx, .ref mv])), (nw, .inl (cn, 350, .inl (fun _ => 0))), (mr, .inl (cm, 3, .inl (fun _ => 0)))]) hD hS hA [0, 1, 2] rfl
  refine va_calli (va_runV (As := [.int (xs 1), .int (xs 2)]) (rest := [.int (if (-198) ≤ (xs 1) ∧ (xs 1) ≤ 198 then (if 0 ≤ (xs 2) then (-5) else (-10)) else (-10))]) ⟨hx, hb, hml, hown, hts⟩ (k_m_look l dC dI mo nw kp ik mr mw mq mz my mb mx mv cn cm (xs 1) (xs 2) H.size) (cwV 2 hts gL_law_X12_look rfl rfl rfl (by decide +kernel) ⟨Nat.le_of_ble_eq_true rfl, Nat.le_of_ble_eq_true rfl⟩) ⟨fun a U g mk q => by obtain ⟨q0, q1, qP, qK, qD⟩ := q; exact ⟨q0, q1, qP, va_K.moved (u := U) (U := U.calling g mk a) (Vm.Alike.refl U.vm) qK, qD⟩, va_recv hK hP (ci := 12) (q0 := 0) rfl rfl, fun U hU hW => ⟨rfl, by rw [hU], by rw [hU]; exact hPc, va_K.moved hW.alike hKc, hDc.weaken (fun _ _ _ _ => trivial)⟩⟩ rfl rfl hl.1 rfl (lv_room (Nat.le_of_ble_eq_true rfl)) dL_law_921 ⟨Nat.le_of_ble_eq_true rfl, Nat.le_of_ble_eq_true rfl⟩) hS (fun q _ h => hFc q h) hFc (fun r_3 u_ t H1 locs ht hvm hw_4 hB hz1 hk1 hS => ?_)
  obtain ⟨hP, hD⟩ := va_join (wr := []) (w1 := []) hP hD [0, 1, 2] [] rfl rfl (by decide) (by decide) hk1 hFc tz_P0 tz_D0
  generalize H1 = H at hP hS ⊢
  have hP : va_P (dC, dI) vwCl [] H := hP
  have hD : va_D A [] := hD
  obtain rfl : (if (-198) ≤ (xs 1) ∧ (xs 1) ≤ 198 then (if 0 ≤ (xs 2) then (-5) else (-10)) else (-10)) = r_3 := hw_4.symm
  refine lv_icmp_eq (tgt := 1155) hx hb dL_law_924 (by decide) (fun c_5 => ?_) (fun c_5 => ?_)
  · refine lv_iinc (v := 6) (lv' := [(3, .int 6), (2, .ref mo), (1, .ref o), (0, .ref b)]) hx hb dL_law_1155 hl (k := 0) rfl (by decide) (by decide) rfl (fun ls hl => ?_)
    refine lv_goto (tgt := 18) hx hb dL_law_1158 (by decide) ?_
    refine lv_iload_n hx hb dL_law_18 rfl (lv_at hl 0 rfl) ?_
    refine lv_aload_n hx hb dL_law_19 rfl (lv_at hl 3 rfl) ?_
    refine va_slen hx hb hX hbl hbA hS dL_law_20 ?_
    refine tz_i 6 rfl ?_
    refine lv_bipush (v := 6) hx hb dL_law_21 (by decide) ?_
    refine lv_isub hx hb dL_law_23 ?_
    refine tz_i 0 (by decide) ?_
    refine lv_icmp_gt (tgt := 1161) hx hb dL_law_24 (by decide) (fun c_6 => ?_) (fun c_6 => ?_)
    · refine lv_iconst (v := 1) hx hb dL_law_1161 (by decide) ?_
      refine va_forget (fun q hq => hA2 _ (hS.2.2 q hq)) ?_
      refine W.widen (k := 600000) (n := 7302250) (Nat.le_of_ble_eq_true rfl) (Nat.le_of_ble_eq_true rfl) ?_
      exact lw_ret hx hb hr hlocks dL_law_1162
    · exact absurd c_6 (by decide)
  · exact absurd rfl c_5
set_option maxRecDepth 20000 in
theorem gL_law_X11_writeOff : GoodIn lw_tbl (wsV RL 126 RX11 yX11_writeOff wsX11_writeOff) := tz_good [(40, 10), (40, 11), (40, 12), (0, 2), (40, 13), (1, 10), (36, 14), (40, 14), (40, 15), (3, 18), (40, 16), (7, 4), (7, 5), (0, 2), (7, 6), (7, 7), (7, 8), (7, 9), (7, 10), (7, 11), (7, 12), (7, 13), (7, 14), (2, 6), (5, 21), (5, 22), (5, 23), (3, 4), (6, 0), (3, 15), (10, 8), (10, 9), (10, 10), (10, 11), (3, 22), (3, 21), (8, 8), (8, 9), (8, 10), (8, 11), (46, 0), (46, 1), (46, 2), (46, 3), (46, 4), (46, 5), (46, 6), (46, 7), (46, 8), (46, 9), (46, 10), (46, 11), (54, 0), (54, 1), (54, 2), (54, 3), (54, 4), (54, 5), (58, 0), (58, 1), (58, 2), (58, 3)] (by decide +kernel) (by decide +kernel)
set_option maxRecDepth 20000 in
theorem gL_law_X12_writeOff : GoodIn lw_tbl (wsV RL 129 RX12 yX12_writeOff wsX12_writeOff) := tz_good [(40, 17), (40, 18), (40, 19), (0, 5), (40, 20), (37, 0), (5, 4), (38, 3), (38, 4), (0, 5), (38, 5), (38, 6), (38, 7), (8, 17), (8, 18), (8, 19), (8, 20), (8, 21), (8, 22), (8, 23), (5, 7), (38, 8), (38, 9), (38, 10), (38, 11), (47, 0), (47, 1), (47, 2), (47, 3), (47, 4), (47, 5), (47, 6), (47, 7), (47, 8), (47, 9), (47, 10), (47, 11), (47, 12), (47, 13), (47, 14), (47, 15), (47, 16), (47, 17), (47, 18), (47, 19), (47, 20), (47, 21), (47, 22), (47, 23)] (by decide +kernel) (by decide +kernel)
theorem dL_law_929 : decode cL_law 929 = .ok (.aload_n 1, 1) := by decide +kernel
theorem dL_law_930 : decode cL_law 930 = .ok (.aload_n 0, 1) := by decide +kernel
theorem dL_law_931 : decode cL_law 931 = .ok (.iload_n 3, 1) := by decide +kernel
theorem dL_law_932 : decode cL_law 932 = .ok (.iconst 1, 1) := by decide +kernel
theorem dL_law_933 : decode cL_law 933 = .ok (.iadd, 1) := by decide +kernel
theorem dL_law_934 : decode cL_law 934 = .ok (.iaload, 1) := by decide +kernel
theorem dL_law_935 : decode cL_law 935 = .ok (.aload_n 0, 1) := by decide +kernel
theorem dL_law_936 : decode cL_law 936 = .ok (.iload_n 3, 1) := by decide +kernel
theorem dL_law_937 : decode cL_law 937 = .ok (.iconst 2, 1) := by decide +kernel
theorem dL_law_938 : decode cL_law 938 = .ok (.iadd, 1) := by decide +kernel
theorem dL_law_939 : decode cL_law 939 = .ok (.iaload, 1) := by decide +kernel
theorem dL_law_940 : decode cL_law 940 = .ok (.invokevirtual 126, 3) := by decide +kernel
theorem dL_law_943 : decode cL_law 943 = .ok (.aload_n 2, 1) := by decide +kernel
theorem dL_law_944 : decode cL_law 944 = .ok (.aload_n 0, 1) := by decide +kernel
theorem dL_law_945 : decode cL_law 945 = .ok (.iload_n 3, 1) := by decide +kernel
theorem dL_law_946 : decode cL_law 946 = .ok (.iconst 1, 1) := by decide +kernel
theorem dL_law_947 : decode cL_law 947 = .ok (.iadd, 1) := by decide +kernel
theorem dL_law_948 : decode cL_law 948 = .ok (.iaload, 1) := by decide +kernel
theorem dL_law_949 : decode cL_law 949 = .ok (.aload_n 0, 1) := by decide +kernel
theorem dL_law_950 : decode cL_law 950 = .ok (.iload_n 3, 1) := by decide +kernel
theorem dL_law_951 : decode cL_law 951 = .ok (.iconst 2, 1) := by decide +kernel
theorem dL_law_952 : decode cL_law 952 = .ok (.iadd, 1) := by decide +kernel
theorem dL_law_953 : decode cL_law 953 = .ok (.iaload, 1) := by decide +kernel
theorem dL_law_954 : decode cL_law 954 = .ok (.invokevirtual 129, 3) := by decide +kernel
theorem dL_law_957 : decode cL_law 957 = .ok (.if_icmp .eq 198, 3) := by decide +kernel
set_option maxHeartbeats 4000000 in
set_option maxRecDepth 100000 in
theorem lc_writeOff {p : Program} {l : Launch} {e : Env} {s : State} {m : MethodId} {below : List Frame} {meth : Method} {c : Code} {b : Nat} {xs : Nat → Int32} (C0 : lw_At p s m meth c b 6 xs) (hN : tz_N s) (A : Nat → Prop) (hA : ∀ q : Nat, s.heap.size ≤ q → A q) (hA2 : ∀ q : Nat, A q → s.heap.size ≤ q) (hbA : ¬ A b) (dC : Nat → ClassId) (dI : Nat → Nat → Nat) (o : Nat) (aw : Nat) (bk : Nat) (ai : Nat) (ak : Nat) (sc : Nat) (rd : Nat) (fo : Nat) (tx : Nat) (ar : Nat) (atr : Nat) (ao : Nat) (rk0 : Nat) (rk1 : Nat) (rk2 : Nat) (rk3 : Nat) (eak : Nat) (cak3 : Nat) (cr : ClassId) (mo : Nat) (nw : Nat) (kp : Nat) (ik : Nat) (mr : Nat) (mw : Nat) (mq : Nat) (mz : Nat) (my : Nat) (mb : Nat) (mx : Nat) (mv : Nat) (cn : ClassId) (cm : ClassId) (H : Heap) (locs : List Loc) (hK : va_K (dC, dI) vwCl [(cr, .int), (cn, .int), (cm, .int)] s) (hP : va_P (dC, dI) vwCl [(o, .inr (11, [.ref aw, .ref bk, .ref ai, .ref ak, .ref sc, .ref rd, .ref fo, .ref tx, .int 0, .ref ar, .ref atr, .ref ao])), (bk, .inr (0, [.ref rk0, .ref rk1, .ref rk2, .ref rk3, .ref eak, .int 0])), (rk3, .inr (6, [.int 4, .int 6, .ref cak3, .int 0])), (ar, .inl (cr, 3, .inl (fun _ => 0))), (mo, .inr (12, [.ref nw, .ref kp, .ref ik, .ref mr, .long 0, .long 1, .ref mw, .long 0, .int 0, .int 0, .long 0, .long 0, .ref mq, .ref mz, .ref my, .int 0, .ref mb, .int 0, .int 0, .int 0, .int 0, .int 0, .ref mx, .ref mv])), (nw, .inl (cn, 350, .inl (fun _ => 0))), (mr, .inl (cm, 3, .inl (fun _ => 0)))] H) (hD : va_D A [(o, .inr (11, [.ref aw, .ref bk, .ref ai, .ref ak, .ref sc, .ref rd, .ref fo, .ref tx, .int 0, .ref ar, .ref atr, .ref ao])), (bk, .inr (0, [.ref rk0, .ref rk1, .ref rk2, .ref rk3, .ref eak, .int 0])), (rk3, .inr (6, [.int 4, .int 6, .ref cak3, .int 0])), (ar, .inl (cr, 3, .inl (fun _ => 0))), (mo, .inr (12, [.ref nw, .ref kp, .ref ik, .ref mr, .long 0, .long 1, .ref mw, .long 0, .int 0, .int 0, .long 0, .long 0, .ref mq, .ref mz, .ref my, .int 0, .ref mb, .int 0, .int 0, .int 0, .int 0, .int 0, .ref mx, .ref mv])), (nw, .inl (cn, 350, .inl (fun _ => 0))), (mr, .inl (cm, 3, .inl (fun _ => 0)))]) (hS : va_S A s.heap H locs) (ls : Array Slot) (hl : lv_has ls 4 [(3, .int 0), (2, .ref mo), (1, .ref o), (0, .ref b)]) : W p l e room_1 s m #[Value.ref b] below meth c H locs 136 3195 (lw_Z below #[Value.ref b] s) (F0 m 929 ls []) := by
  obtain ⟨hx, hb, hr, hml, hown, hts, hX, hbl, hlocks, hgv⟩ := C0
  have hb : c.code = cL_law := hb
  have hown : s.vm.findClass RL = some m.cls := hown
  refine lv_aload_n hx hb dL_law_929 rfl (lv_at hl 2 rfl) ?_
  refine lv_aload_n hx hb dL_law_930 rfl (lv_at hl 3 rfl) ?_
  refine lv_iload_n hx hb dL_law_931 rfl (lv_at hl 0 rfl) ?_
  refine lv_iconst (v := 1) hx hb dL_law_932 (by decide) ?_
  refine lv_iadd hx hb dL_law_933 ?_
  refine tz_i 1 (by decide) ?_
  refine va_sld hx hb hX hbl hbA hS (show ¬ ((1 : Int32) < 0 ∨ 6 ≤ (1 : Int32).toNatClampNeg) by decide) dL_law_934 ?_
  refine tz_i (xs 1) rfl ?_
  refine lv_aload_n hx hb dL_law_935 rfl (lv_at hl 3 rfl) ?_
  refine lv_iload_n hx hb dL_law_936 rfl (lv_at hl 0 rfl) ?_
  refine lv_iconst (v := 2) hx hb dL_law_937 (by decide) ?_
  refine lv_iadd hx hb dL_law_938 ?_
  refine tz_i 2 (by decide) ?_
  refine va_sld hx hb hX hbl hbA hS (show ¬ ((2 : Int32) < 0 ∨ 6 ≤ (2 : Int32).toNatClampNeg) by decide) dL_law_939 ?_
  refine tz_i (xs 2) rfl ?_
  have hPc := hP.sub (ws' := [(o, .inr (11, [.ref aw, .ref bk, .ref ai, .ref ak, .ref sc, .ref rd, .ref fo, .ref tx, .int 0, .ref ar, .ref atr, .ref ao])), (bk, .inr (0, [.ref rk0, .ref rk1, .ref rk2, .ref rk3, .ref eak, .int 0])), (rk3, .inr (6, [.int 4, .int 6, .ref cak3, .int 0])), (ar, .inl (cr, 3, .inl (fun _ => 0)))]) [0, 1, 2, 3] rfl
  have hDc := hD.sub (ws' := [(o, .inr (11, [.ref aw, .ref bk, .ref ai, .ref ak, .ref sc, .ref rd, .ref fo, .ref tx, .int 0, .ref ar, .ref atr, .ref ao])), (bk, .inr (0, [.ref rk0, .ref rk1, .ref rk2, .ref rk3, .ref eak, .int 0])), (rk3, .inr (6, [.int 4, .int 6, .ref cak3, .int 0])), (ar, .inl (cr, 3, .inl (fun _ => 0)))]) [0, 1, 2, 3] (by decide) rfl
  have hKc := hK.sub (tys' := [(cr, .int)]) [0] rfl
  have hFc := va_free (wc := [(o, .inr (11, [.ref aw, .ref bk, .ref ai, .ref ak, .ref sc, .ref rd, .ref fo, .ref tx, .int 0, .ref ar, .ref atr, .ref ao])), (bk, .inr (0, [.ref rk0, .ref rk1, .ref rk2, .ref rk3, .ref eak, .int 0])), (rk3, .inr (6, [.int 4, .int 6, .ref cak3, .int 0])), (ar, .inl (cr, 3, .inl (fun _ => 0)))]) hD hS hA [0, 1, 2, 3] rfl
  refine va_calli (va_runV (As := [.int (xs 1), .int (xs 2)]) (rest := []) ⟨hx, hb, hml, hown, hts⟩ (k_x_writeOff l dC dI o aw bk ai ak sc rd fo tx ar atr ao rk0 rk1 rk2 rk3 eak cak3 cr (xs 1) (xs 2) H.size) (cwV 2 hts gL_law_X11_writeOff rfl rfl rfl (by decide +kernel) ⟨Nat.le_of_ble_eq_true rfl, Nat.le_of_ble_eq_true rfl⟩) ⟨fun a U g mk q => by obtain ⟨q0, q1, qP, qK, qD⟩ := q; exact ⟨q0, q1, qP, va_K.moved (u := U) (U := U.calling g mk a) (Vm.Alike.refl U.vm) qK, qD⟩, va_recv hK hP (ci := 11) (q0 := 0) rfl rfl, fun U hU hW => ⟨rfl, by rw [hU], by rw [hU]; exact hPc, va_K.moved hW.alike hKc, hDc.weaken (fun _ _ _ _ => trivial)⟩⟩ rfl rfl hl.1 rfl (lv_room (Nat.le_of_ble_eq_true rfl)) dL_law_940 ⟨Nat.le_of_ble_eq_true rfl, Nat.le_of_ble_eq_true rfl⟩) hS (fun q _ h => hFc q h) hFc (fun r_1 u_ t H1 locs ht hvm hw_2 hB hz1 hk1 hS => ?_)
  obtain ⟨hP, hD⟩ := va_join (wr := [(mo, .inr (12, [.ref nw, .ref kp, .ref ik, .ref mr, .long 0, .long 1, .ref mw, .long 0, .int 0, .int 0, .long 0, .long 0, .ref mq, .ref mz, .ref my, .int 0, .ref mb, .int 0, .int 0, .int 0, .int 0, .int 0, .ref mx, .ref mv])), (nw, .inl (cn, 350, .inl (fun _ => 0))), (mr, .inl (cm, 3, .inl (fun _ => 0)))]) (w1 := []) hP hD [0, 1, 2, 3] [4, 5, 6] rfl rfl (by decide) (by decide) hk1 hFc tz_P0 tz_D0
  generalize H1 = H at hP hS ⊢
  have hP : va_P (dC, dI) vwCl [(mo, .inr (12, [.ref nw, .ref kp, .ref ik, .ref mr, .long 0, .long 1, .ref mw, .long 0, .int 0, .int 0, .long 0, .long 0, .ref mq, .ref mz, .ref my, .int 0, .ref mb, .int 0, .int 0, .int 0, .int 0, .int 0, .ref mx, .ref mv])), (nw, .inl (cn, 350, .inl (fun _ => 0))), (mr, .inl (cm, 3, .inl (fun _ => 0)))] H := hP
  have hD : va_D A [(mo, .inr (12, [.ref nw, .ref kp, .ref ik, .ref mr, .long 0, .long 1, .ref mw, .long 0, .int 0, .int 0, .long 0, .long 0, .ref mq, .ref mz, .ref my, .int 0, .ref mb, .int 0, .int 0, .int 0, .int 0, .int 0, .ref mx, .ref mv])), (nw, .inl (cn, 350, .inl (fun _ => 0))), (mr, .inl (cm, 3, .inl (fun _ => 0)))] := hD
  obtain rfl : (if (-198) ≤ (xs 1) ∧ (xs 1) ≤ 198 then (if 0 ≤ (xs 2) ∧ (xs 2) ≤ 99 then 1 else (-2)) else (-2)) = r_1 := hw_2.symm
  refine lv_aload_n hx hb dL_law_943 rfl (lv_at hl 1 rfl) ?_
  refine lv_aload_n hx hb dL_law_944 rfl (lv_at hl 3 rfl) ?_
  refine lv_iload_n hx hb dL_law_945 rfl (lv_at hl 0 rfl) ?_
  refine lv_iconst (v := 1) hx hb dL_law_946 (by decide) ?_
  refine lv_iadd hx hb dL_law_947 ?_
  refine tz_i 1 (by decide) ?_
  refine va_sld hx hb hX hbl hbA hS (show ¬ ((1 : Int32) < 0 ∨ 6 ≤ (1 : Int32).toNatClampNeg) by decide) dL_law_948 ?_
  refine tz_i (xs 1) rfl ?_
  refine lv_aload_n hx hb dL_law_949 rfl (lv_at hl 3 rfl) ?_
  refine lv_iload_n hx hb dL_law_950 rfl (lv_at hl 0 rfl) ?_
  refine lv_iconst (v := 2) hx hb dL_law_951 (by decide) ?_
  refine lv_iadd hx hb dL_law_952 ?_
  refine tz_i 2 (by decide) ?_
  refine va_sld hx hb hX hbl hbA hS (show ¬ ((2 : Int32) < 0 ∨ 6 ≤ (2 : Int32).toNatClampNeg) by decide) dL_law_953 ?_
  refine tz_i (xs 2) rfl ?_
  have hPc := hP.sub (ws' := [(mo, .inr (12, [.ref nw, .ref kp, .ref ik, .ref mr, .long 0, .long 1, .ref mw, .long 0, .int 0, .int 0, .long 0, .long 0, .ref mq, .ref mz, .ref my, .int 0, .ref mb, .int 0, .int 0, .int 0, .int 0, .int 0, .ref mx, .ref mv])), (nw, .inl (cn, 350, .inl (fun _ => 0))), (mr, .inl (cm, 3, .inl (fun _ => 0)))]) [0, 1, 2] rfl
  have hDc := hD.sub (ws' := [(mo, .inr (12, [.ref nw, .ref kp, .ref ik, .ref mr, .long 0, .long 1, .ref mw, .long 0, .int 0, .int 0, .long 0, .long 0, .ref mq, .ref mz, .ref my, .int 0, .ref mb, .int 0, .int 0, .int 0, .int 0, .int 0, .ref mx, .ref mv])), (nw, .inl (cn, 350, .inl (fun _ => 0))), (mr, .inl (cm, 3, .inl (fun _ => 0)))]) [0, 1, 2] (by decide) rfl
  have hKc := hK.sub (tys' := [(cn, .int), (cm, .int)]) [1, 2] rfl
  have hFc := va_free (wc := [(mo, .inr (12, [.ref nw, .ref kp, .ref ik, .ref mr, .long 0, .long 1, .ref mw, .long 0, .int 0, .int 0, .long 0, .long 0, .ref mq, .ref mz, .ref my, .int 0, .ref mb, .int 0, .int 0, .int 0, .int 0, .int 0, .ref mx, .ref mv])), (nw, .inl (cn, 350, .inl (fun _ => 0))), (mr, .inl (cm, 3, .inl (fun _ => 0)))]) hD hS hA [0, 1, 2] rfl
  refine va_calli (va_runV (As := [.int (xs 1), .int (xs 2)]) (rest := [.int (if (-198) ≤ (xs 1) ∧ (xs 1) ≤ 198 then (if 0 ≤ (xs 2) ∧ (xs 2) ≤ 99 then 1 else (-2)) else (-2))]) ⟨hx, hb, hml, hown, hts⟩ (k_m_writeOff l dC dI mo nw kp ik mr mw mq mz my mb mx mv cn cm (xs 1) (xs 2) H.size) (cwV 2 hts gL_law_X12_writeOff rfl rfl rfl (by decide +kernel) ⟨Nat.le_of_ble_eq_true rfl, Nat.le_of_ble_eq_true rfl⟩) ⟨fun a U g mk q => by obtain ⟨q0, q1, qP, qK, qD⟩ := q; exact ⟨q0, q1, qP, va_K.moved (u := U) (U := U.calling g mk a) (Vm.Alike.refl U.vm) qK, qD⟩, va_recv hK hP (ci := 12) (q0 := 0) rfl rfl, fun U hU hW => ⟨rfl, by rw [hU], by rw [hU]; exact hPc, va_K.moved hW.alike hKc, hDc.weaken (fun _ _ _ _ => trivial)⟩⟩ rfl rfl hl.1 rfl (lv_room (Nat.le_of_ble_eq_true rfl)) dL_law_954 ⟨Nat.le_of_ble_eq_true rfl, Nat.le_of_ble_eq_true rfl⟩) hS (fun q _ h => hFc q h) hFc (fun r_3 u_ t H1 locs ht hvm hw_4 hB hz1 hk1 hS => ?_)
  obtain ⟨hP, hD⟩ := va_join (wr := []) (w1 := []) hP hD [0, 1, 2] [] rfl rfl (by decide) (by decide) hk1 hFc tz_P0 tz_D0
  generalize H1 = H at hP hS ⊢
  have hP : va_P (dC, dI) vwCl [] H := hP
  have hD : va_D A [] := hD
  obtain rfl : (if (-198) ≤ (xs 1) ∧ (xs 1) ≤ 198 then (if 0 ≤ (xs 2) ∧ (xs 2) ≤ 99 then 1 else (-2)) else (-2)) = r_3 := hw_4.symm
  refine lv_icmp_eq (tgt := 1155) hx hb dL_law_957 (by decide) (fun c_5 => ?_) (fun c_5 => ?_)
  · refine lv_iinc (v := 6) (lv' := [(3, .int 6), (2, .ref mo), (1, .ref o), (0, .ref b)]) hx hb dL_law_1155 hl (k := 0) rfl (by decide) (by decide) rfl (fun ls hl => ?_)
    refine lv_goto (tgt := 18) hx hb dL_law_1158 (by decide) ?_
    refine lv_iload_n hx hb dL_law_18 rfl (lv_at hl 0 rfl) ?_
    refine lv_aload_n hx hb dL_law_19 rfl (lv_at hl 3 rfl) ?_
    refine va_slen hx hb hX hbl hbA hS dL_law_20 ?_
    refine tz_i 6 rfl ?_
    refine lv_bipush (v := 6) hx hb dL_law_21 (by decide) ?_
    refine lv_isub hx hb dL_law_23 ?_
    refine tz_i 0 (by decide) ?_
    refine lv_icmp_gt (tgt := 1161) hx hb dL_law_24 (by decide) (fun c_6 => ?_) (fun c_6 => ?_)
    · refine lv_iconst (v := 1) hx hb dL_law_1161 (by decide) ?_
      refine va_forget (fun q hq => hA2 _ (hS.2.2 q hq)) ?_
      refine W.widen (k := 600000) (n := 7302250) (Nat.le_of_ble_eq_true rfl) (Nat.le_of_ble_eq_true rfl) ?_
      exact lw_ret hx hb hr hlocks dL_law_1162
    · exact absurd c_6 (by decide)
  · exact absurd rfl c_5
set_option maxRecDepth 20000 in
theorem gL_law_X11_drawn : GoodIn lw_tbl (wsV RL 130 RX11 yX11_drawn wsX11_drawn) := tz_good [(40, 21), (40, 22), (40, 23), (0, 2), (41, 0), (41, 1), (41, 2), (41, 3), (41, 4), (1, 6), (41, 5), (41, 6), (41, 7), (12, 9), (3, 18), (12, 10), (41, 8), (3, 17), (3, 19), (11, 16), (11, 17), (11, 18), (0, 2), (11, 19), (7, 4), (7, 5), (7, 6), (7, 7), (7, 8), (7, 9), (7, 10), (7, 11), (7, 12), (7, 13), (7, 14), (2, 6), (24, 0), (24, 1), (24, 2), (24, 3), (24, 4), (0, 17), (24, 5), (24, 6), (24, 7), (24, 2), (0, 14), (24, 9), (24, 10), (24, 11), (0, 23), (24, 12), (24, 13), (24, 14), (24, 15), (24, 16), (0, 20), (24, 17), (24, 0), (24, 19), (24, 20), (24, 21), (1, 5), (24, 22), (24, 23), (25, 0), (25, 1), (25, 2), (1, 2), (25, 3), (25, 4), (25, 5), (25, 6), (25, 7), (46, 0), (46, 1), (46, 2), (46, 3), (46, 4), (46, 5), (46, 6), (46, 7), (46, 8), (46, 9), (46, 10), (46, 11)] (by decide +kernel) (by decide +kernel)
set_option maxRecDepth 20000 in
theorem gL_law_X12_drawn : GoodIn lw_tbl (wsV RL 134 RX12 yX12_drawn wsX12_drawn) := tz_good [(41, 9), (41, 10), (41, 11), (0, 5), (41, 12), (12, 23), (13, 0), (41, 13), (41, 14), (41, 15), (41, 16), (41, 17), (41, 18), (41, 19), (37, 1), (13, 1), (13, 2), (0, 5), (13, 3), (13, 4), (8, 17), (8, 18), (8, 19), (8, 20), (8, 21), (8, 22), (8, 23), (5, 7), (27, 4), (27, 5), (27, 6), (27, 7), (27, 8), (27, 9), (27, 10), (27, 11), (27, 12), (27, 13), (27, 14), (47, 0), (47, 1), (47, 2), (47, 3), (47, 4), (47, 5), (47, 6), (47, 7), (47, 8), (47, 9), (47, 10), (47, 11), (47, 12), (47, 13), (47, 14), (47, 15), (47, 16), (47, 17), (47, 18), (47, 19), (47, 20), (47, 21), (47, 22), (47, 23)] (by decide +kernel) (by decide +kernel)
theorem dL_law_962 : decode cL_law 962 = .ok (.aload_n 1, 1) := by decide +kernel
theorem dL_law_963 : decode cL_law 963 = .ok (.aload_n 0, 1) := by decide +kernel
theorem dL_law_964 : decode cL_law 964 = .ok (.iload_n 3, 1) := by decide +kernel
theorem dL_law_965 : decode cL_law 965 = .ok (.iconst 1, 1) := by decide +kernel
theorem dL_law_966 : decode cL_law 966 = .ok (.iadd, 1) := by decide +kernel
theorem dL_law_967 : decode cL_law 967 = .ok (.iaload, 1) := by decide +kernel
theorem dL_law_968 : decode cL_law 968 = .ok (.aload_n 0, 1) := by decide +kernel
theorem dL_law_969 : decode cL_law 969 = .ok (.iload_n 3, 1) := by decide +kernel
theorem dL_law_970 : decode cL_law 970 = .ok (.iconst 2, 1) := by decide +kernel
theorem dL_law_971 : decode cL_law 971 = .ok (.iadd, 1) := by decide +kernel
theorem dL_law_972 : decode cL_law 972 = .ok (.iaload, 1) := by decide +kernel
theorem dL_law_973 : decode cL_law 973 = .ok (.aload_n 0, 1) := by decide +kernel
theorem dL_law_974 : decode cL_law 974 = .ok (.iload_n 3, 1) := by decide +kernel
theorem dL_law_975 : decode cL_law 975 = .ok (.iconst 3, 1) := by decide +kernel
theorem dL_law_976 : decode cL_law 976 = .ok (.iadd, 1) := by decide +kernel
theorem dL_law_977 : decode cL_law 977 = .ok (.iaload, 1) := by decide +kernel
theorem dL_law_978 : decode cL_law 978 = .ok (.aload_n 0, 1) := by decide +kernel
theorem dL_law_979 : decode cL_law 979 = .ok (.iload_n 3, 1) := by decide +kernel
theorem dL_law_980 : decode cL_law 980 = .ok (.iconst 4, 1) := by decide +kernel
theorem dL_law_981 : decode cL_law 981 = .ok (.iadd, 1) := by decide +kernel
theorem dL_law_982 : decode cL_law 982 = .ok (.iaload, 1) := by decide +kernel
theorem dL_law_983 : decode cL_law 983 = .ok (.aload_n 0, 1) := by decide +kernel
theorem dL_law_984 : decode cL_law 984 = .ok (.iload_n 3, 1) := by decide +kernel
theorem dL_law_985 : decode cL_law 985 = .ok (.iconst 5, 1) := by decide +kernel
theorem dL_law_986 : decode cL_law 986 = .ok (.iadd, 1) := by decide +kernel
theorem dL_law_987 : decode cL_law 987 = .ok (.iaload, 1) := by decide +kernel
theorem dL_law_988 : decode cL_law 988 = .ok (.invokevirtual 130, 3) := by decide +kernel
theorem dL_law_991 : decode cL_law 991 = .ok (.aload_n 2, 1) := by decide +kernel
theorem dL_law_992 : decode cL_law 992 = .ok (.aload_n 0, 1) := by decide +kernel
theorem dL_law_993 : decode cL_law 993 = .ok (.iload_n 3, 1) := by decide +kernel
theorem dL_law_994 : decode cL_law 994 = .ok (.iconst 1, 1) := by decide +kernel
theorem dL_law_995 : decode cL_law 995 = .ok (.iadd, 1) := by decide +kernel
theorem dL_law_996 : decode cL_law 996 = .ok (.iaload, 1) := by decide +kernel
theorem dL_law_997 : decode cL_law 997 = .ok (.aload_n 0, 1) := by decide +kernel
theorem dL_law_998 : decode cL_law 998 = .ok (.iload_n 3, 1) := by decide +kernel
theorem dL_law_999 : decode cL_law 999 = .ok (.iconst 2, 1) := by decide +kernel
theorem dL_law_1000 : decode cL_law 1000 = .ok (.iadd, 1) := by decide +kernel
theorem dL_law_1001 : decode cL_law 1001 = .ok (.iaload, 1) := by decide +kernel
theorem dL_law_1002 : decode cL_law 1002 = .ok (.aload_n 0, 1) := by decide +kernel
theorem dL_law_1003 : decode cL_law 1003 = .ok (.iload_n 3, 1) := by decide +kernel
theorem dL_law_1004 : decode cL_law 1004 = .ok (.iconst 3, 1) := by decide +kernel
theorem dL_law_1005 : decode cL_law 1005 = .ok (.iadd, 1) := by decide +kernel
theorem dL_law_1006 : decode cL_law 1006 = .ok (.iaload, 1) := by decide +kernel
theorem dL_law_1007 : decode cL_law 1007 = .ok (.aload_n 0, 1) := by decide +kernel
theorem dL_law_1008 : decode cL_law 1008 = .ok (.iload_n 3, 1) := by decide +kernel
theorem dL_law_1009 : decode cL_law 1009 = .ok (.iconst 4, 1) := by decide +kernel
theorem dL_law_1010 : decode cL_law 1010 = .ok (.iadd, 1) := by decide +kernel
theorem dL_law_1011 : decode cL_law 1011 = .ok (.iaload, 1) := by decide +kernel
theorem dL_law_1012 : decode cL_law 1012 = .ok (.aload_n 0, 1) := by decide +kernel
theorem dL_law_1013 : decode cL_law 1013 = .ok (.iload_n 3, 1) := by decide +kernel
theorem dL_law_1014 : decode cL_law 1014 = .ok (.iconst 5, 1) := by decide +kernel
theorem dL_law_1015 : decode cL_law 1015 = .ok (.iadd, 1) := by decide +kernel
theorem dL_law_1016 : decode cL_law 1016 = .ok (.iaload, 1) := by decide +kernel
theorem dL_law_1017 : decode cL_law 1017 = .ok (.invokevirtual 134, 3) := by decide +kernel
theorem dL_law_1020 : decode cL_law 1020 = .ok (.if_icmp .eq 135, 3) := by decide +kernel
set_option maxHeartbeats 4000000 in
set_option maxRecDepth 100000 in
theorem lc_drawn {p : Program} {l : Launch} {e : Env} {s : State} {m : MethodId} {below : List Frame} {meth : Method} {c : Code} {b : Nat} {xs : Nat → Int32} (C0 : lw_At p s m meth c b 6 xs) (hN : tz_N s) (A : Nat → Prop) (hA : ∀ q : Nat, s.heap.size ≤ q → A q) (hA2 : ∀ q : Nat, A q → s.heap.size ≤ q) (hbA : ¬ A b) (dC : Nat → ClassId) (dI : Nat → Nat → Nat) (o : Nat) (aw : Nat) (bk : Nat) (ai : Nat) (ak : Nat) (sc : Nat) (rd : Nat) (fo : Nat) (tx : Nat) (ar : Nat) (atr : Nat) (ao : Nat) (cw : ClassId) (w0 : Nat) (w1 : Nat) (w2 : Nat) (w3 : Nat) (w4 : Nat) (w5 : Nat) (cr : ClassId) (mo : Nat) (nw : Nat) (kp : Nat) (ik : Nat) (mr : Nat) (mw : Nat) (mq : Nat) (mz : Nat) (my : Nat) (mb : Nat) (mx : Nat) (mv : Nat) (cm : ClassId) (H : Heap) (locs : List Loc) (hK : va_K (dC, dI) vwCl [(cw, (.object "ThriceCounted$Ones")), (cr, .int), (cm, .int)] s) (hP : va_P (dC, dI) vwCl [(o, .inr (11, [.ref aw, .ref bk, .ref ai, .ref ak, .ref sc, .ref rd, .ref fo, .ref tx, .int 0, .ref ar, .ref atr, .ref ao])), (aw, .inl (cw, 6, .inr (.inr (.inr (.inr (tz_w w0 w1 w2 w3 w4 w5)))))), (w0, .inr (4, [])), (w1, .inr (1, [])), (w2, .inr (10, [])), (w3, .inr (3, [])), (w4, .inr (9, [])), (w5, .inr (8, [])), (ar, .inl (cr, 3, .inl (fun _ => 0))), (mo, .inr (12, [.ref nw, .ref kp, .ref ik, .ref mr, .long 0, .long 1, .ref mw, .long 0, .int 0, .int 0, .long 0, .long 0, .ref mq, .ref mz, .ref my, .int 0, .ref mb, .int 0, .int 0, .int 0, .int 0, .int 0, .ref mx, .ref mv])), (mr, .inl (cm, 3, .inl (fun _ => 0)))] H) (hD : va_D A [(o, .inr (11, [.ref aw, .ref bk, .ref ai, .ref ak, .ref sc, .ref rd, .ref fo, .ref tx, .int 0, .ref ar, .ref atr, .ref ao])), (aw, .inl (cw, 6, .inr (.inr (.inr (.inr (tz_w w0 w1 w2 w3 w4 w5)))))), (w0, .inr (4, [])), (w1, .inr (1, [])), (w2, .inr (10, [])), (w3, .inr (3, [])), (w4, .inr (9, [])), (w5, .inr (8, [])), (ar, .inl (cr, 3, .inl (fun _ => 0))), (mo, .inr (12, [.ref nw, .ref kp, .ref ik, .ref mr, .long 0, .long 1, .ref mw, .long 0, .int 0, .int 0, .long 0, .long 0, .ref mq, .ref mz, .ref my, .int 0, .ref mb, .int 0, .int 0, .int 0, .int 0, .int 0, .ref mx, .ref mv])), (mr, .inl (cm, 3, .inl (fun _ => 0)))]) (hS : va_S A s.heap H locs) (ls : Array Slot) (hl : lv_has ls 4 [(3, .int 0), (2, .ref mo), (1, .ref o), (0, .ref b)]) : W p l e room_1 s m #[Value.ref b] below meth c H locs 136 3195 (lw_Z below #[Value.ref b] s) (F0 m 962 ls []) := by
  obtain ⟨hx, hb, hr, hml, hown, hts, hX, hbl, hlocks, hgv⟩ := C0
  have hb : c.code = cL_law := hb
  have hown : s.vm.findClass RL = some m.cls := hown
  refine lv_aload_n hx hb dL_law_962 rfl (lv_at hl 2 rfl) ?_
  refine lv_aload_n hx hb dL_law_963 rfl (lv_at hl 3 rfl) ?_
  refine lv_iload_n hx hb dL_law_964 rfl (lv_at hl 0 rfl) ?_
  refine lv_iconst (v := 1) hx hb dL_law_965 (by decide) ?_
  refine lv_iadd hx hb dL_law_966 ?_
  refine tz_i 1 (by decide) ?_
  refine va_sld hx hb hX hbl hbA hS (show ¬ ((1 : Int32) < 0 ∨ 6 ≤ (1 : Int32).toNatClampNeg) by decide) dL_law_967 ?_
  refine tz_i (xs 1) rfl ?_
  refine lv_aload_n hx hb dL_law_968 rfl (lv_at hl 3 rfl) ?_
  refine lv_iload_n hx hb dL_law_969 rfl (lv_at hl 0 rfl) ?_
  refine lv_iconst (v := 2) hx hb dL_law_970 (by decide) ?_
  refine lv_iadd hx hb dL_law_971 ?_
  refine tz_i 2 (by decide) ?_
  refine va_sld hx hb hX hbl hbA hS (show ¬ ((2 : Int32) < 0 ∨ 6 ≤ (2 : Int32).toNatClampNeg) by decide) dL_law_972 ?_
  refine tz_i (xs 2) rfl ?_
  refine lv_aload_n hx hb dL_law_973 rfl (lv_at hl 3 rfl) ?_
  refine lv_iload_n hx hb dL_law_974 rfl (lv_at hl 0 rfl) ?_
  refine lv_iconst (v := 3) hx hb dL_law_975 (by decide) ?_
  refine lv_iadd hx hb dL_law_976 ?_
  refine tz_i 3 (by decide) ?_
  refine va_sld hx hb hX hbl hbA hS (show ¬ ((3 : Int32) < 0 ∨ 6 ≤ (3 : Int32).toNatClampNeg) by decide) dL_law_977 ?_
  refine tz_i (xs 3) rfl ?_
  refine lv_aload_n hx hb dL_law_978 rfl (lv_at hl 3 rfl) ?_
  refine lv_iload_n hx hb dL_law_979 rfl (lv_at hl 0 rfl) ?_
  refine lv_iconst (v := 4) hx hb dL_law_980 (by decide) ?_
  refine lv_iadd hx hb dL_law_981 ?_
  refine tz_i 4 (by decide) ?_
  refine va_sld hx hb hX hbl hbA hS (show ¬ ((4 : Int32) < 0 ∨ 6 ≤ (4 : Int32).toNatClampNeg) by decide) dL_law_982 ?_
  refine tz_i (xs 4) rfl ?_
  refine lv_aload_n hx hb dL_law_983 rfl (lv_at hl 3 rfl) ?_
  refine lv_iload_n hx hb dL_law_984 rfl (lv_at hl 0 rfl) ?_
  refine lv_iconst (v := 5) hx hb dL_law_985 (by decide) ?_
  refine lv_iadd hx hb dL_law_986 ?_
  refine tz_i 5 (by decide) ?_
  refine va_sld hx hb hX hbl hbA hS (show ¬ ((5 : Int32) < 0 ∨ 6 ≤ (5 : Int32).toNatClampNeg) by decide) dL_law_987 ?_
  refine tz_i (xs 5) rfl ?_
  have hPc := hP.sub (ws' := [(o, .inr (11, [.ref aw, .ref bk, .ref ai, .ref ak, .ref sc, .ref rd, .ref fo, .ref tx, .int 0, .ref ar, .ref atr, .ref ao])), (aw, .inl (cw, 6, .inr (.inr (.inr (.inr (tz_w w0 w1 w2 w3 w4 w5)))))), (w0, .inr (4, [])), (w1, .inr (1, [])), (w2, .inr (10, [])), (w3, .inr (3, [])), (w4, .inr (9, [])), (w5, .inr (8, [])), (ar, .inl (cr, 3, .inl (fun _ => 0)))]) [0, 1, 2, 3, 4, 5, 6, 7, 8] rfl
  have hDc := hD.sub (ws' := [(o, .inr (11, [.ref aw, .ref bk, .ref ai, .ref ak, .ref sc, .ref rd, .ref fo, .ref tx, .int 0, .ref ar, .ref atr, .ref ao])), (aw, .inl (cw, 6, .inr (.inr (.inr (.inr (tz_w w0 w1 w2 w3 w4 w5)))))), (w0, .inr (4, [])), (w1, .inr (1, [])), (w2, .inr (10, [])), (w3, .inr (3, [])), (w4, .inr (9, [])), (w5, .inr (8, [])), (ar, .inl (cr, 3, .inl (fun _ => 0)))]) [0, 1, 2, 3, 4, 5, 6, 7, 8] (by decide) rfl
  have hKc := hK.sub (tys' := [(cw, (.object "ThriceCounted$Ones")), (cr, .int)]) [0, 1] rfl
  have hFc := va_free (wc := [(o, .inr (11, [.ref aw, .ref bk, .ref ai, .ref ak, .ref sc, .ref rd, .ref fo, .ref tx, .int 0, .ref ar, .ref atr, .ref ao])), (aw, .inl (cw, 6, .inr (.inr (.inr (.inr (tz_w w0 w1 w2 w3 w4 w5)))))), (w0, .inr (4, [])), (w1, .inr (1, [])), (w2, .inr (10, [])), (w3, .inr (3, [])), (w4, .inr (9, [])), (w5, .inr (8, [])), (ar, .inl (cr, 3, .inl (fun _ => 0)))]) hD hS hA [0, 1, 2, 3, 4, 5, 6, 7, 8] rfl
  refine va_calli (va_runV (As := [.int (xs 1), .int (xs 2), .int (xs 3), .int (xs 4), .int (xs 5)]) (rest := []) ⟨hx, hb, hml, hown, hts⟩ (k_x_drawn l dC dI o aw bk ai ak sc rd fo tx ar atr ao cw w0 w1 w2 w3 w4 w5 cr (xs 1) (xs 2) (xs 3) (xs 4) (xs 5) H.size) (cwV 5 hts gL_law_X11_drawn rfl rfl rfl (by decide +kernel) ⟨Nat.le_of_ble_eq_true rfl, Nat.le_of_ble_eq_true rfl⟩) ⟨fun a U g mk q => by obtain ⟨q0, q1, qP, qK, qD⟩ := q; exact ⟨q0, q1, qP, va_K.moved (u := U) (U := U.calling g mk a) (Vm.Alike.refl U.vm) qK, qD⟩, va_recv hK hP (ci := 11) (q0 := 0) rfl rfl, fun U hU hW => ⟨rfl, by rw [hU], by rw [hU]; exact hPc, va_K.moved hW.alike hKc, hDc.weaken (fun _ _ _ _ => trivial)⟩⟩ rfl rfl hl.1 rfl (lv_room (Nat.le_of_ble_eq_true rfl)) dL_law_988 ⟨Nat.le_of_ble_eq_true rfl, Nat.le_of_ble_eq_true rfl⟩) hS (fun q _ h => hFc q h) hFc (fun r_1 u_ t H1 locs ht hvm hw_2 hB hz1 hk1 hS => ?_)
  obtain ⟨hP, hD⟩ := va_join (wr := [(mo, .inr (12, [.ref nw, .ref kp, .ref ik, .ref mr, .long 0, .long 1, .ref mw, .long 0, .int 0, .int 0, .long 0, .long 0, .ref mq, .ref mz, .ref my, .int 0, .ref mb, .int 0, .int 0, .int 0, .int 0, .int 0, .ref mx, .ref mv])), (mr, .inl (cm, 3, .inl (fun _ => 0)))]) (w1 := []) hP hD [0, 1, 2, 3, 4, 5, 6, 7, 8] [9, 10] rfl rfl (by decide) (by decide) hk1 hFc tz_P0 tz_D0
  generalize H1 = H at hP hS ⊢
  have hP : va_P (dC, dI) vwCl [(mo, .inr (12, [.ref nw, .ref kp, .ref ik, .ref mr, .long 0, .long 1, .ref mw, .long 0, .int 0, .int 0, .long 0, .long 0, .ref mq, .ref mz, .ref my, .int 0, .ref mb, .int 0, .int 0, .int 0, .int 0, .int 0, .ref mx, .ref mv])), (mr, .inl (cm, 3, .inl (fun _ => 0)))] H := hP
  have hD : va_D A [(mo, .inr (12, [.ref nw, .ref kp, .ref ik, .ref mr, .long 0, .long 1, .ref mw, .long 0, .int 0, .int 0, .long 0, .long 0, .ref mq, .ref mz, .ref my, .int 0, .ref mb, .int 0, .int 0, .int 0, .int 0, .int 0, .ref mx, .ref mv])), (mr, .inl (cm, 3, .inl (fun _ => 0)))] := hD
  obtain rfl : (dS zS dL dG (xs 1) (xs 2) (xs 3) (xs 4) (xs 5)) = r_1 := hw_2.symm
  refine lv_aload_n hx hb dL_law_991 rfl (lv_at hl 1 rfl) ?_
  refine lv_aload_n hx hb dL_law_992 rfl (lv_at hl 3 rfl) ?_
  refine lv_iload_n hx hb dL_law_993 rfl (lv_at hl 0 rfl) ?_
  refine lv_iconst (v := 1) hx hb dL_law_994 (by decide) ?_
  refine lv_iadd hx hb dL_law_995 ?_
  refine tz_i 1 (by decide) ?_
  refine va_sld hx hb hX hbl hbA hS (show ¬ ((1 : Int32) < 0 ∨ 6 ≤ (1 : Int32).toNatClampNeg) by decide) dL_law_996 ?_
  refine tz_i (xs 1) rfl ?_
  refine lv_aload_n hx hb dL_law_997 rfl (lv_at hl 3 rfl) ?_
  refine lv_iload_n hx hb dL_law_998 rfl (lv_at hl 0 rfl) ?_
  refine lv_iconst (v := 2) hx hb dL_law_999 (by decide) ?_
  refine lv_iadd hx hb dL_law_1000 ?_
  refine tz_i 2 (by decide) ?_
  refine va_sld hx hb hX hbl hbA hS (show ¬ ((2 : Int32) < 0 ∨ 6 ≤ (2 : Int32).toNatClampNeg) by decide) dL_law_1001 ?_
  refine tz_i (xs 2) rfl ?_
  refine lv_aload_n hx hb dL_law_1002 rfl (lv_at hl 3 rfl) ?_
  refine lv_iload_n hx hb dL_law_1003 rfl (lv_at hl 0 rfl) ?_
  refine lv_iconst (v := 3) hx hb dL_law_1004 (by decide) ?_
  refine lv_iadd hx hb dL_law_1005 ?_
  refine tz_i 3 (by decide) ?_
  refine va_sld hx hb hX hbl hbA hS (show ¬ ((3 : Int32) < 0 ∨ 6 ≤ (3 : Int32).toNatClampNeg) by decide) dL_law_1006 ?_
  refine tz_i (xs 3) rfl ?_
  refine lv_aload_n hx hb dL_law_1007 rfl (lv_at hl 3 rfl) ?_
  refine lv_iload_n hx hb dL_law_1008 rfl (lv_at hl 0 rfl) ?_
  refine lv_iconst (v := 4) hx hb dL_law_1009 (by decide) ?_
  refine lv_iadd hx hb dL_law_1010 ?_
  refine tz_i 4 (by decide) ?_
  refine va_sld hx hb hX hbl hbA hS (show ¬ ((4 : Int32) < 0 ∨ 6 ≤ (4 : Int32).toNatClampNeg) by decide) dL_law_1011 ?_
  refine tz_i (xs 4) rfl ?_
  refine lv_aload_n hx hb dL_law_1012 rfl (lv_at hl 3 rfl) ?_
  refine lv_iload_n hx hb dL_law_1013 rfl (lv_at hl 0 rfl) ?_
  refine lv_iconst (v := 5) hx hb dL_law_1014 (by decide) ?_
  refine lv_iadd hx hb dL_law_1015 ?_
  refine tz_i 5 (by decide) ?_
  refine va_sld hx hb hX hbl hbA hS (show ¬ ((5 : Int32) < 0 ∨ 6 ≤ (5 : Int32).toNatClampNeg) by decide) dL_law_1016 ?_
  refine tz_i (xs 5) rfl ?_
  have hPc := hP.sub (ws' := [(mo, .inr (12, [.ref nw, .ref kp, .ref ik, .ref mr, .long 0, .long 1, .ref mw, .long 0, .int 0, .int 0, .long 0, .long 0, .ref mq, .ref mz, .ref my, .int 0, .ref mb, .int 0, .int 0, .int 0, .int 0, .int 0, .ref mx, .ref mv])), (mr, .inl (cm, 3, .inl (fun _ => 0)))]) [0, 1] rfl
  have hDc := hD.sub (ws' := [(mo, .inr (12, [.ref nw, .ref kp, .ref ik, .ref mr, .long 0, .long 1, .ref mw, .long 0, .int 0, .int 0, .long 0, .long 0, .ref mq, .ref mz, .ref my, .int 0, .ref mb, .int 0, .int 0, .int 0, .int 0, .int 0, .ref mx, .ref mv])), (mr, .inl (cm, 3, .inl (fun _ => 0)))]) [0, 1] (by decide) rfl
  have hKc := hK.sub (tys' := [(cm, .int)]) [2] rfl
  have hFc := va_free (wc := [(mo, .inr (12, [.ref nw, .ref kp, .ref ik, .ref mr, .long 0, .long 1, .ref mw, .long 0, .int 0, .int 0, .long 0, .long 0, .ref mq, .ref mz, .ref my, .int 0, .ref mb, .int 0, .int 0, .int 0, .int 0, .int 0, .ref mx, .ref mv])), (mr, .inl (cm, 3, .inl (fun _ => 0)))]) hD hS hA [0, 1] rfl
  refine va_calli (va_runV (As := [.int (xs 1), .int (xs 2), .int (xs 3), .int (xs 4), .int (xs 5)]) (rest := [.int (dS zS dL dG (xs 1) (xs 2) (xs 3) (xs 4) (xs 5))]) ⟨hx, hb, hml, hown, hts⟩ (k_m_drawn l dC dI mo nw kp ik mr mw mq mz my mb mx mv cm (xs 1) (xs 2) (xs 3) (xs 4) (xs 5) H.size) (cwV 5 hts gL_law_X12_drawn rfl rfl rfl (by decide +kernel) ⟨Nat.le_of_ble_eq_true rfl, Nat.le_of_ble_eq_true rfl⟩) ⟨fun a U g mk q => by obtain ⟨q0, q1, qP, qK, qD⟩ := q; exact ⟨q0, q1, qP, va_K.moved (u := U) (U := U.calling g mk a) (Vm.Alike.refl U.vm) qK, qD⟩, va_recv hK hP (ci := 12) (q0 := 0) rfl rfl, fun U hU hW => ⟨rfl, by rw [hU], by rw [hU]; exact hPc, va_K.moved hW.alike hKc, hDc.weaken (fun _ _ _ _ => trivial)⟩⟩ rfl rfl hl.1 rfl (lv_room (Nat.le_of_ble_eq_true rfl)) dL_law_1017 ⟨Nat.le_of_ble_eq_true rfl, Nat.le_of_ble_eq_true rfl⟩) hS (fun q _ h => hFc q h) hFc (fun r_3 u_ t H1 locs ht hvm hw_4 hB hz1 hk1 hS => ?_)
  obtain ⟨hP, hD⟩ := va_join (wr := []) (w1 := []) hP hD [0, 1] [] rfl rfl (by decide) (by decide) hk1 hFc tz_P0 tz_D0
  generalize H1 = H at hP hS ⊢
  have hP : va_P (dC, dI) vwCl [] H := hP
  have hD : va_D A [] := hD
  obtain rfl : (dS yS eL eG (xs 1) (xs 2) (xs 3) (xs 4) (xs 5)) = r_3 := hw_4.symm
  refine lv_icmp_eq (tgt := 1155) hx hb dL_law_1020 (by decide) (fun c_5 => ?_) (fun c_5 => ?_)
  · refine lv_iinc (v := 6) (lv' := [(3, .int 6), (2, .ref mo), (1, .ref o), (0, .ref b)]) hx hb dL_law_1155 hl (k := 0) rfl (by decide) (by decide) rfl (fun ls hl => ?_)
    refine lv_goto (tgt := 18) hx hb dL_law_1158 (by decide) ?_
    refine lv_iload_n hx hb dL_law_18 rfl (lv_at hl 0 rfl) ?_
    refine lv_aload_n hx hb dL_law_19 rfl (lv_at hl 3 rfl) ?_
    refine va_slen hx hb hX hbl hbA hS dL_law_20 ?_
    refine tz_i 6 rfl ?_
    refine lv_bipush (v := 6) hx hb dL_law_21 (by decide) ?_
    refine lv_isub hx hb dL_law_23 ?_
    refine tz_i 0 (by decide) ?_
    refine lv_icmp_gt (tgt := 1161) hx hb dL_law_24 (by decide) (fun c_6 => ?_) (fun c_6 => ?_)
    · refine lv_iconst (v := 1) hx hb dL_law_1161 (by decide) ?_
      refine va_forget (fun q hq => hA2 _ (hS.2.2 q hq)) ?_
      refine W.widen (k := 600000) (n := 7302250) (Nat.le_of_ble_eq_true rfl) (Nat.le_of_ble_eq_true rfl) ?_
      exact lw_ret hx hb hr hlocks dL_law_1162
    · exact absurd c_6 (by decide)
  · exact absurd (tz_drawn (xs 1) (xs 2) (xs 3) (xs 4) (xs 5)) c_5
set_option maxRecDepth 20000 in
theorem gL_law_X11_part : GoodIn lw_tbl (wsV RL 135 RX11 yX11_part wsX11_part) := tz_good [(41, 20), (41, 21), (41, 22), (0, 2), (41, 23), (2, 1), (7, 4), (7, 5), (0, 2), (7, 6), (7, 7), (7, 8), (7, 9), (7, 10), (7, 11), (7, 12), (7, 13), (7, 14), (2, 6), (42, 0), (42, 1), (42, 2), (2, 0), (42, 3), (4, 22), (42, 4), (42, 5), (42, 6), (42, 7), (4, 23), (46, 0), (46, 1), (46, 2), (46, 3), (46, 4), (46, 5), (46, 6), (46, 7), (46, 8), (46, 9), (46, 10), (46, 11), (57, 0), (57, 1)] (by decide +kernel) (by decide +kernel)
set_option maxRecDepth 20000 in
theorem gL_law_X12_part : GoodIn lw_tbl (wsV RL 139 RX12 yX12_part wsX12_part) := tz_good [(42, 8), (42, 9), (42, 10), (0, 5), (42, 11), (31, 6), (5, 8), (8, 20), (8, 21), (8, 22), (0, 5), (8, 23), (5, 7), (47, 0), (47, 1), (47, 2), (47, 3), (47, 4), (47, 5), (47, 6), (47, 7), (47, 8), (47, 9), (47, 10), (47, 11), (47, 12), (47, 13), (47, 14), (47, 15), (47, 16), (47, 17), (47, 18), (47, 19), (47, 20), (47, 21), (47, 22), (47, 23)] (by decide +kernel) (by decide +kernel)
theorem dL_law_1025 : decode cL_law 1025 = .ok (.aload_n 1, 1) := by decide +kernel
theorem dL_law_1026 : decode cL_law 1026 = .ok (.aload_n 0, 1) := by decide +kernel
theorem dL_law_1027 : decode cL_law 1027 = .ok (.iload_n 3, 1) := by decide +kernel
theorem dL_law_1028 : decode cL_law 1028 = .ok (.iconst 1, 1) := by decide +kernel
theorem dL_law_1029 : decode cL_law 1029 = .ok (.iadd, 1) := by decide +kernel
theorem dL_law_1030 : decode cL_law 1030 = .ok (.iaload, 1) := by decide +kernel
theorem dL_law_1031 : decode cL_law 1031 = .ok (.invokevirtual 135, 3) := by decide +kernel
theorem dL_law_1034 : decode cL_law 1034 = .ok (.aload_n 2, 1) := by decide +kernel
theorem dL_law_1035 : decode cL_law 1035 = .ok (.aload_n 0, 1) := by decide +kernel
theorem dL_law_1036 : decode cL_law 1036 = .ok (.iload_n 3, 1) := by decide +kernel
theorem dL_law_1037 : decode cL_law 1037 = .ok (.iconst 1, 1) := by decide +kernel
theorem dL_law_1038 : decode cL_law 1038 = .ok (.iadd, 1) := by decide +kernel
theorem dL_law_1039 : decode cL_law 1039 = .ok (.iaload, 1) := by decide +kernel
theorem dL_law_1040 : decode cL_law 1040 = .ok (.invokevirtual 139, 3) := by decide +kernel
theorem dL_law_1043 : decode cL_law 1043 = .ok (.lcmp, 1) := by decide +kernel
theorem dL_law_1044 : decode cL_law 1044 = .ok (.ifCond .eq 111, 3) := by decide +kernel
set_option maxHeartbeats 4000000 in
set_option maxRecDepth 100000 in
theorem lc_part {p : Program} {l : Launch} {e : Env} {s : State} {m : MethodId} {below : List Frame} {meth : Method} {c : Code} {b : Nat} {xs : Nat → Int32} (C0 : lw_At p s m meth c b 6 xs) (hN : tz_N s) (A : Nat → Prop) (hA : ∀ q : Nat, s.heap.size ≤ q → A q) (hA2 : ∀ q : Nat, A q → s.heap.size ≤ q) (hbA : ¬ A b) (dC : Nat → ClassId) (dI : Nat → Nat → Nat) (o : Nat) (aw : Nat) (bk : Nat) (ai : Nat) (ak : Nat) (sc : Nat) (rd : Nat) (fo : Nat) (tx : Nat) (ar : Nat) (atr : Nat) (ao : Nat) (cr : ClassId) (mo : Nat) (nw : Nat) (kp : Nat) (ik : Nat) (mr : Nat) (mw : Nat) (mq : Nat) (mz : Nat) (my : Nat) (mb : Nat) (mx : Nat) (mv : Nat) (cm : ClassId) (H : Heap) (locs : List Loc) (hK : va_K (dC, dI) vwCl [(cr, .int), (cm, .int)] s) (hP : va_P (dC, dI) vwCl [(o, .inr (11, [.ref aw, .ref bk, .ref ai, .ref ak, .ref sc, .ref rd, .ref fo, .ref tx, .int 0, .ref ar, .ref atr, .ref ao])), (fo, .inr (2, [.long 0, .long 1])), (ar, .inl (cr, 3, .inl (fun _ => 0))), (mo, .inr (12, [.ref nw, .ref kp, .ref ik, .ref mr, .long 0, .long 1, .ref mw, .long 0, .int 0, .int 0, .long 0, .long 0, .ref mq, .ref mz, .ref my, .int 0, .ref mb, .int 0, .int 0, .int 0, .int 0, .int 0, .ref mx, .ref mv])), (mr, .inl (cm, 3, .inl (fun _ => 0)))] H) (hD : va_D A [(o, .inr (11, [.ref aw, .ref bk, .ref ai, .ref ak, .ref sc, .ref rd, .ref fo, .ref tx, .int 0, .ref ar, .ref atr, .ref ao])), (fo, .inr (2, [.long 0, .long 1])), (ar, .inl (cr, 3, .inl (fun _ => 0))), (mo, .inr (12, [.ref nw, .ref kp, .ref ik, .ref mr, .long 0, .long 1, .ref mw, .long 0, .int 0, .int 0, .long 0, .long 0, .ref mq, .ref mz, .ref my, .int 0, .ref mb, .int 0, .int 0, .int 0, .int 0, .int 0, .ref mx, .ref mv])), (mr, .inl (cm, 3, .inl (fun _ => 0)))]) (hS : va_S A s.heap H locs) (ls : Array Slot) (hl : lv_has ls 4 [(3, .int 0), (2, .ref mo), (1, .ref o), (0, .ref b)]) : W p l e room_1 s m #[Value.ref b] below meth c H locs 136 3195 (lw_Z below #[Value.ref b] s) (F0 m 1025 ls []) := by
  obtain ⟨hx, hb, hr, hml, hown, hts, hX, hbl, hlocks, hgv⟩ := C0
  have hb : c.code = cL_law := hb
  have hown : s.vm.findClass RL = some m.cls := hown
  refine lv_aload_n hx hb dL_law_1025 rfl (lv_at hl 2 rfl) ?_
  refine lv_aload_n hx hb dL_law_1026 rfl (lv_at hl 3 rfl) ?_
  refine lv_iload_n hx hb dL_law_1027 rfl (lv_at hl 0 rfl) ?_
  refine lv_iconst (v := 1) hx hb dL_law_1028 (by decide) ?_
  refine lv_iadd hx hb dL_law_1029 ?_
  refine tz_i 1 (by decide) ?_
  refine va_sld hx hb hX hbl hbA hS (show ¬ ((1 : Int32) < 0 ∨ 6 ≤ (1 : Int32).toNatClampNeg) by decide) dL_law_1030 ?_
  refine tz_i (xs 1) rfl ?_
  have hPc := hP.sub (ws' := [(o, .inr (11, [.ref aw, .ref bk, .ref ai, .ref ak, .ref sc, .ref rd, .ref fo, .ref tx, .int 0, .ref ar, .ref atr, .ref ao])), (fo, .inr (2, [.long 0, .long 1])), (ar, .inl (cr, 3, .inl (fun _ => 0)))]) [0, 1, 2] rfl
  have hDc := hD.sub (ws' := [(o, .inr (11, [.ref aw, .ref bk, .ref ai, .ref ak, .ref sc, .ref rd, .ref fo, .ref tx, .int 0, .ref ar, .ref atr, .ref ao])), (fo, .inr (2, [.long 0, .long 1])), (ar, .inl (cr, 3, .inl (fun _ => 0)))]) [0, 1, 2] (by decide) rfl
  have hKc := hK.sub (tys' := [(cr, .int)]) [0] rfl
  have hFc := va_free (wc := [(o, .inr (11, [.ref aw, .ref bk, .ref ai, .ref ak, .ref sc, .ref rd, .ref fo, .ref tx, .int 0, .ref ar, .ref atr, .ref ao])), (fo, .inr (2, [.long 0, .long 1])), (ar, .inl (cr, 3, .inl (fun _ => 0)))]) hD hS hA [0, 1, 2] rfl
  refine va_calll (va_runV (As := [.int (xs 1)]) (rest := []) ⟨hx, hb, hml, hown, hts⟩ (k_x_part l dC dI o aw bk ai ak sc rd fo tx ar atr ao cr (xs 1) H.size) (cwV 1 hts gL_law_X11_part rfl rfl rfl (by decide +kernel) ⟨Nat.le_of_ble_eq_true rfl, Nat.le_of_ble_eq_true rfl⟩) ⟨fun a U g mk q => by obtain ⟨q0, q1, qP, qK, qD⟩ := q; exact ⟨q0, q1, qP, va_K.moved (u := U) (U := U.calling g mk a) (Vm.Alike.refl U.vm) qK, qD⟩, va_recv hK hP (ci := 11) (q0 := 0) rfl rfl, fun U hU hW => ⟨rfl, by rw [hU], by rw [hU]; exact hPc, va_K.moved hW.alike hKc, hDc.weaken (fun _ _ _ _ => trivial)⟩⟩ rfl rfl hl.1 rfl (lv_room (Nat.le_of_ble_eq_true rfl)) dL_law_1031 ⟨Nat.le_of_ble_eq_true rfl, Nat.le_of_ble_eq_true rfl⟩) hS (fun q _ h => hFc q h) hFc (fun r_1 u_ t H1 locs ht hvm hw_2 hB hz1 hk1 hS => ?_)
  obtain ⟨hP, hD⟩ := va_join (wr := [(mo, .inr (12, [.ref nw, .ref kp, .ref ik, .ref mr, .long 0, .long 1, .ref mw, .long 0, .int 0, .int 0, .long 0, .long 0, .ref mq, .ref mz, .ref my, .int 0, .ref mb, .int 0, .int 0, .int 0, .int 0, .int 0, .ref mx, .ref mv])), (mr, .inl (cm, 3, .inl (fun _ => 0)))]) (w1 := []) hP hD [0, 1, 2] [3, 4] rfl rfl (by decide) (by decide) hk1 hFc tz_P0 tz_D0
  generalize H1 = H at hP hS ⊢
  have hP : va_P (dC, dI) vwCl [(mo, .inr (12, [.ref nw, .ref kp, .ref ik, .ref mr, .long 0, .long 1, .ref mw, .long 0, .int 0, .int 0, .long 0, .long 0, .ref mq, .ref mz, .ref my, .int 0, .ref mb, .int 0, .int 0, .int 0, .int 0, .int 0, .ref mx, .ref mv])), (mr, .inl (cm, 3, .inl (fun _ => 0)))] H := hP
  have hD : va_D A [(mo, .inr (12, [.ref nw, .ref kp, .ref ik, .ref mr, .long 0, .long 1, .ref mw, .long 0, .int 0, .int 0, .long 0, .long 0, .ref mq, .ref mz, .ref my, .int 0, .ref mb, .int 0, .int 0, .int 0, .int 0, .int 0, .ref mx, .ref mv])), (mr, .inl (cm, 3, .inl (fun _ => 0)))] := hD
  obtain rfl : (if 0 ≤ (xs 1) ∧ (xs 1) ≤ 1 then (if (xs 1) = 0 then 0 else 1) else (-2)) = r_1 := hw_2.symm
  refine lv_aload_n hx hb dL_law_1034 rfl (lv_at hl 1 rfl) ?_
  refine lv_aload_n hx hb dL_law_1035 rfl (lv_at hl 3 rfl) ?_
  refine lv_iload_n hx hb dL_law_1036 rfl (lv_at hl 0 rfl) ?_
  refine lv_iconst (v := 1) hx hb dL_law_1037 (by decide) ?_
  refine lv_iadd hx hb dL_law_1038 ?_
  refine tz_i 1 (by decide) ?_
  refine va_sld hx hb hX hbl hbA hS (show ¬ ((1 : Int32) < 0 ∨ 6 ≤ (1 : Int32).toNatClampNeg) by decide) dL_law_1039 ?_
  refine tz_i (xs 1) rfl ?_
  have hPc := hP.sub (ws' := [(mo, .inr (12, [.ref nw, .ref kp, .ref ik, .ref mr, .long 0, .long 1, .ref mw, .long 0, .int 0, .int 0, .long 0, .long 0, .ref mq, .ref mz, .ref my, .int 0, .ref mb, .int 0, .int 0, .int 0, .int 0, .int 0, .ref mx, .ref mv])), (mr, .inl (cm, 3, .inl (fun _ => 0)))]) [0, 1] rfl
  have hDc := hD.sub (ws' := [(mo, .inr (12, [.ref nw, .ref kp, .ref ik, .ref mr, .long 0, .long 1, .ref mw, .long 0, .int 0, .int 0, .long 0, .long 0, .ref mq, .ref mz, .ref my, .int 0, .ref mb, .int 0, .int 0, .int 0, .int 0, .int 0, .ref mx, .ref mv])), (mr, .inl (cm, 3, .inl (fun _ => 0)))]) [0, 1] (by decide) rfl
  have hKc := hK.sub (tys' := [(cm, .int)]) [1] rfl
  have hFc := va_free (wc := [(mo, .inr (12, [.ref nw, .ref kp, .ref ik, .ref mr, .long 0, .long 1, .ref mw, .long 0, .int 0, .int 0, .long 0, .long 0, .ref mq, .ref mz, .ref my, .int 0, .ref mb, .int 0, .int 0, .int 0, .int 0, .int 0, .ref mx, .ref mv])), (mr, .inl (cm, 3, .inl (fun _ => 0)))]) hD hS hA [0, 1] rfl
  refine va_calll (va_runV (As := [.int (xs 1)]) (rest := [.long (if 0 ≤ (xs 1) ∧ (xs 1) ≤ 1 then (if (xs 1) = 0 then 0 else 1) else (-2))]) ⟨hx, hb, hml, hown, hts⟩ (k_m_part l dC dI mo nw kp ik mr mw mq mz my mb mx mv cm (xs 1) H.size) (cwV 1 hts gL_law_X12_part rfl rfl rfl (by decide +kernel) ⟨Nat.le_of_ble_eq_true rfl, Nat.le_of_ble_eq_true rfl⟩) ⟨fun a U g mk q => by obtain ⟨q0, q1, qP, qK, qD⟩ := q; exact ⟨q0, q1, qP, va_K.moved (u := U) (U := U.calling g mk a) (Vm.Alike.refl U.vm) qK, qD⟩, va_recv hK hP (ci := 12) (q0 := 0) rfl rfl, fun U hU hW => ⟨rfl, by rw [hU], by rw [hU]; exact hPc, va_K.moved hW.alike hKc, hDc.weaken (fun _ _ _ _ => trivial)⟩⟩ rfl rfl hl.1 rfl (lv_room (Nat.le_of_ble_eq_true rfl)) dL_law_1040 ⟨Nat.le_of_ble_eq_true rfl, Nat.le_of_ble_eq_true rfl⟩) hS (fun q _ h => hFc q h) hFc (fun r_3 u_ t H1 locs ht hvm hw_4 hB hz1 hk1 hS => ?_)
  obtain ⟨hP, hD⟩ := va_join (wr := []) (w1 := []) hP hD [0, 1] [] rfl rfl (by decide) (by decide) hk1 hFc tz_P0 tz_D0
  generalize H1 = H at hP hS ⊢
  have hP : va_P (dC, dI) vwCl [] H := hP
  have hD : va_D A [] := hD
  obtain rfl : (if (xs 1) = 0 then 0 else if (xs 1) = 1 then 1 else (-2)) = r_3 := hw_4.symm
  refine W.lcmp hx hb dL_law_1043 ?_
  refine tz_i 0 (tz_cmp_self (tz_part (na := xs 1))) ?_
  refine lv_if_eq (tgt := 1155) hx hb dL_law_1044 (by decide) (fun c_5 => ?_) (fun c_5 => ?_)
  · refine lv_iinc (v := 6) (lv' := [(3, .int 6), (2, .ref mo), (1, .ref o), (0, .ref b)]) hx hb dL_law_1155 hl (k := 0) rfl (by decide) (by decide) rfl (fun ls hl => ?_)
    refine lv_goto (tgt := 18) hx hb dL_law_1158 (by decide) ?_
    refine lv_iload_n hx hb dL_law_18 rfl (lv_at hl 0 rfl) ?_
    refine lv_aload_n hx hb dL_law_19 rfl (lv_at hl 3 rfl) ?_
    refine va_slen hx hb hX hbl hbA hS dL_law_20 ?_
    refine tz_i 6 rfl ?_
    refine lv_bipush (v := 6) hx hb dL_law_21 (by decide) ?_
    refine lv_isub hx hb dL_law_23 ?_
    refine tz_i 0 (by decide) ?_
    refine lv_icmp_gt (tgt := 1161) hx hb dL_law_24 (by decide) (fun c_6 => ?_) (fun c_6 => ?_)
    · refine lv_iconst (v := 1) hx hb dL_law_1161 (by decide) ?_
      refine va_forget (fun q hq => hA2 _ (hS.2.2 q hq)) ?_
      refine W.widen (k := 600000) (n := 7302250) (Nat.le_of_ble_eq_true rfl) (Nat.le_of_ble_eq_true rfl) ?_
      exact lw_ret hx hb hr hlocks dL_law_1162
    · exact absurd c_6 (by decide)
  · exact absurd c_5 (by decide)
set_option maxRecDepth 20000 in
theorem gL_law_X11_image : GoodIn lw_tbl (wsV RL 140 RX11 yX11_image wsX11_image) := tz_good [(42, 12), (42, 13), (42, 14), (0, 2), (42, 15), (1, 11), (1, 10), (1, 13), (42, 16), (42, 17), (42, 18), (0, 2), (42, 19), (7, 7), (7, 8), (7, 9), (7, 10), (7, 11), (7, 12), (7, 13), (7, 14), (2, 6), (21, 1), (21, 2), (21, 3), (1, 9), (21, 4), (3, 5), (3, 6), (3, 7), (3, 8), (3, 10), (3, 9), (21, 5), (12, 9), (3, 18), (12, 10), (12, 4), (12, 5), (12, 6), (3, 4), (12, 7), (3, 20), (3, 15), (12, 8), (3, 22), (12, 11), (12, 12), (12, 13), (12, 14), (46, 0), (46, 1), (46, 2), (46, 3), (46, 4), (46, 5), (46, 6), (46, 7), (46, 8), (46, 9), (46, 10), (46, 11), (54, 0), (54, 1), (54, 2), (54, 3), (54, 4), (54, 5), (58, 0), (58, 1), (58, 2), (58, 3)] (by decide +kernel) (by decide +kernel)
set_option maxRecDepth 20000 in
theorem gL_law_X12_image : GoodIn lw_tbl (wsV RL 143 RX12 yX12_image wsX12_image) := tz_good [(42, 20), (42, 21), (42, 22), (0, 5), (42, 23), (5, 5), (5, 4), (5, 6), (8, 17), (8, 18), (0, 5), (8, 19), (8, 20), (8, 21), (8, 22), (8, 23), (5, 7), (47, 0), (47, 1), (47, 2), (47, 3), (47, 4), (47, 5), (47, 6), (47, 7), (47, 8), (47, 9), (47, 10), (47, 11), (47, 12), (47, 13), (47, 14), (47, 15), (47, 16), (47, 17), (47, 18), (47, 19), (47, 20), (47, 21), (47, 22), (47, 23)] (by decide +kernel) (by decide +kernel)
theorem dL_law_1049 : decode cL_law 1049 = .ok (.aload_n 1, 1) := by decide +kernel
theorem dL_law_1050 : decode cL_law 1050 = .ok (.aload_n 0, 1) := by decide +kernel
theorem dL_law_1051 : decode cL_law 1051 = .ok (.iload_n 3, 1) := by decide +kernel
theorem dL_law_1052 : decode cL_law 1052 = .ok (.iconst 1, 1) := by decide +kernel
theorem dL_law_1053 : decode cL_law 1053 = .ok (.iadd, 1) := by decide +kernel
theorem dL_law_1054 : decode cL_law 1054 = .ok (.iaload, 1) := by decide +kernel
theorem dL_law_1055 : decode cL_law 1055 = .ok (.invokevirtual 140, 3) := by decide +kernel
theorem dL_law_1058 : decode cL_law 1058 = .ok (.aload_n 2, 1) := by decide +kernel
theorem dL_law_1059 : decode cL_law 1059 = .ok (.aload_n 0, 1) := by decide +kernel
theorem dL_law_1060 : decode cL_law 1060 = .ok (.iload_n 3, 1) := by decide +kernel
theorem dL_law_1061 : decode cL_law 1061 = .ok (.iconst 1, 1) := by decide +kernel
theorem dL_law_1062 : decode cL_law 1062 = .ok (.iadd, 1) := by decide +kernel
theorem dL_law_1063 : decode cL_law 1063 = .ok (.iaload, 1) := by decide +kernel
theorem dL_law_1064 : decode cL_law 1064 = .ok (.invokevirtual 143, 3) := by decide +kernel
theorem dL_law_1067 : decode cL_law 1067 = .ok (.if_icmp .eq 88, 3) := by decide +kernel
set_option maxHeartbeats 4000000 in
set_option maxRecDepth 100000 in
theorem lc_image {p : Program} {l : Launch} {e : Env} {s : State} {m : MethodId} {below : List Frame} {meth : Method} {c : Code} {b : Nat} {xs : Nat → Int32} (C0 : lw_At p s m meth c b 6 xs) (hN : tz_N s) (A : Nat → Prop) (hA : ∀ q : Nat, s.heap.size ≤ q → A q) (hA2 : ∀ q : Nat, A q → s.heap.size ≤ q) (hbA : ¬ A b) (dC : Nat → ClassId) (dI : Nat → Nat → Nat) (o : Nat) (aw : Nat) (bk : Nat) (ai : Nat) (ak : Nat) (sc : Nat) (rd : Nat) (fo : Nat) (tx : Nat) (ar : Nat) (atr : Nat) (ao : Nat) (ci : ClassId) (i0 : Nat) (i1 : Nat) (ck : ClassId) (cr : ClassId) (rk0 : Nat) (rk1 : Nat) (rk2 : Nat) (rk3 : Nat) (eak : Nat) (cak0 : Nat) (cak1 : Nat) (cak2 : Nat) (cak3 : Nat) (cck0 : ClassId) (cck1 : ClassId) (cck2 : ClassId) (cck3 : ClassId) (rx0 : Nat) (rx1 : Nat) (rx2 : Nat) (rx3 : Nat) (eax : Nat) (cax0 : Nat) (cax1 : Nat) (cax2 : Nat) (cax3 : Nat) (ccx0 : ClassId) (ccx1 : ClassId) (ccx2 : ClassId) (ccx3 : ClassId) (cex : ClassId) (fex : Nat → Option Nat) (ry0 : Nat) (ry1 : Nat) (ry2 : Nat) (ry3 : Nat) (eay : Nat) (cay0 : Nat) (cay1 : Nat) (cay2 : Nat) (cay3 : Nat) (ccy0 : ClassId) (ccy1 : ClassId) (ccy2 : ClassId) (ccy3 : ClassId) (cey : ClassId) (fey : Nat → Option Nat) (mo : Nat) (nw : Nat) (kp : Nat) (ik : Nat) (mr : Nat) (mw : Nat) (mq : Nat) (mz : Nat) (my : Nat) (mb : Nat) (mx : Nat) (mv : Nat) (cn : ClassId) (cp : ClassId) (cik : ClassId) (cm : ClassId) (H : Heap) (locs : List Loc) (hK : va_K (dC, dI) vwCl [(ci, (.object "ThriceCounted$Bank")), (ck, .boolean), (cr, .int), (cck0, .int), (cck1, .int), (cck2, .int), (cck3, .int), (ccx0, .int), (ccx1, .int), (ccx2, .int), (ccx3, .int), (cex, (.object "ThriceCounted$Rows")), (ccy0, .int), (ccy1, .int), (ccy2, .int), (ccy3, .int), (cey, (.object "ThriceCounted$Rows")), (cn, .int), (cp, .int), (cik, .boolean), (cm, .int)] s) (hP : va_P (dC, dI) vwCl [(o, .inr (11, [.ref aw, .ref bk, .ref ai, .ref ak, .ref sc, .ref rd, .ref fo, .ref tx, .int 0, .ref ar, .ref atr, .ref ao])), (ai, .inl (ci, 2, .inr (.inr (.inr (.inr (tz_w2 i0 i1)))))), (ak, .inl (ck, 2, .inl (fun _ => 0))), (ar, .inl (cr, 3, .inl (fun _ => 0))), (bk, .inr (0, [.ref rk0, .ref rk1, .ref rk2, .ref rk3, .ref eak, .int 0])), (rk0, .inr (6, [.int 1, .int 5, .ref cak0, .int 0])), (rk1, .inr (6, [.int 4, .int 5, .ref cak1, .int 0])), (rk2, .inr (6, [.int 4, .int 8, .ref cak2, .int 0])), (rk3, .inr (6, [.int 4, .int 6, .ref cak3, .int 0])), (cak0, .inl (cck0, 5, .inl (fun _ => 0))), (cak1, .inl (cck1, 20, .inl (fun _ => 0))), (cak2, .inl (cck2, 32, .inl (fun _ => 0))), (cak3, .inl (cck3, 24, .inl (fun _ => 0))), (i0, .inr (0, [.ref rx0, .ref rx1, .ref rx2, .ref rx3, .ref eax, .int 0])), (rx0, .inr (6, [.int 1, .int 5, .ref cax0, .int 0])), (rx1, .inr (6, [.int 4, .int 5, .ref cax1, .int 0])), (rx2, .inr (6, [.int 4, .int 8, .ref cax2, .int 0])), (rx3, .inr (6, [.int 4, .int 6, .ref cax3, .int 0])), (cax0, .inl (ccx0, 5, .inl (fun _ => 0))), (cax1, .inl (ccx1, 20, .inl (fun _ => 0))), (cax2, .inl (ccx2, 32, .inl (fun _ => 0))), (cax3, .inl (ccx3, 24, .inl (fun _ => 0))), (eax, .inl (cex, 8, .inr (.inr (.inr (.inr fex))))), (i1, .inr (0, [.ref ry0, .ref ry1, .ref ry2, .ref ry3, .ref eay, .int 0])), (ry0, .inr (6, [.int 1, .int 5, .ref cay0, .int 0])), (ry1, .inr (6, [.int 4, .int 5, .ref cay1, .int 0])), (ry2, .inr (6, [.int 4, .int 8, .ref cay2, .int 0])), (ry3, .inr (6, [.int 4, .int 6, .ref cay3, .int 0])), (cay0, .inl (ccy0, 5, .inl (fun _ => 0))), (cay1, .inl (ccy1, 20, .inl (fun _ => 0))), (cay2, .inl (ccy2, 32, .inl (fun _ => 0))), (cay3, .inl (ccy3, 24, .inl (fun _ => 0))), (eay, .inl (cey, 8, .inr (.inr (.inr (.inr fey))))), (mo, .inr (12, [.ref nw, .ref kp, .ref ik, .ref mr, .long 0, .long 1, .ref mw, .long 0, .int 0, .int 0, .long 0, .long 0, .ref mq, .ref mz, .ref my, .int 0, .ref mb, .int 0, .int 0, .int 0, .int 0, .int 0, .ref mx, .ref mv])), (nw, .inl (cn, 350, .inl (fun _ => 0))), (kp, .inl (cp, 700, .inl (fun _ => 0))), (ik, .inl (cik, 2, .inl (fun _ => 0))), (mr, .inl (cm, 3, .inl (fun _ => 0)))] H) (hD : va_D A [(o, .inr (11, [.ref aw, .ref bk, .ref ai, .ref ak, .ref sc, .ref rd, .ref fo, .ref tx, .int 0, .ref ar, .ref atr, .ref ao])), (ai, .inl (ci, 2, .inr (.inr (.inr (.inr (tz_w2 i0 i1)))))), (ak, .inl (ck, 2, .inl (fun _ => 0))), (ar, .inl (cr, 3, .inl (fun _ => 0))), (bk, .inr (0, [.ref rk0, .ref rk1, .ref rk2, .ref rk3, .ref eak, .int 0])), (rk0, .inr (6, [.int 1, .int 5, .ref cak0, .int 0])), (rk1, .inr (6, [.int 4, .int 5, .ref cak1, .int 0])), (rk2, .inr (6, [.int 4, .int 8, .ref cak2, .int 0])), (rk3, .inr (6, [.int 4, .int 6, .ref cak3, .int 0])), (cak0, .inl (cck0, 5, .inl (fun _ => 0))), (cak1, .inl (cck1, 20, .inl (fun _ => 0))), (cak2, .inl (cck2, 32, .inl (fun _ => 0))), (cak3, .inl (cck3, 24, .inl (fun _ => 0))), (i0, .inr (0, [.ref rx0, .ref rx1, .ref rx2, .ref rx3, .ref eax, .int 0])), (rx0, .inr (6, [.int 1, .int 5, .ref cax0, .int 0])), (rx1, .inr (6, [.int 4, .int 5, .ref cax1, .int 0])), (rx2, .inr (6, [.int 4, .int 8, .ref cax2, .int 0])), (rx3, .inr (6, [.int 4, .int 6, .ref cax3, .int 0])), (cax0, .inl (ccx0, 5, .inl (fun _ => 0))), (cax1, .inl (ccx1, 20, .inl (fun _ => 0))), (cax2, .inl (ccx2, 32, .inl (fun _ => 0))), (cax3, .inl (ccx3, 24, .inl (fun _ => 0))), (eax, .inl (cex, 8, .inr (.inr (.inr (.inr fex))))), (i1, .inr (0, [.ref ry0, .ref ry1, .ref ry2, .ref ry3, .ref eay, .int 0])), (ry0, .inr (6, [.int 1, .int 5, .ref cay0, .int 0])), (ry1, .inr (6, [.int 4, .int 5, .ref cay1, .int 0])), (ry2, .inr (6, [.int 4, .int 8, .ref cay2, .int 0])), (ry3, .inr (6, [.int 4, .int 6, .ref cay3, .int 0])), (cay0, .inl (ccy0, 5, .inl (fun _ => 0))), (cay1, .inl (ccy1, 20, .inl (fun _ => 0))), (cay2, .inl (ccy2, 32, .inl (fun _ => 0))), (cay3, .inl (ccy3, 24, .inl (fun _ => 0))), (eay, .inl (cey, 8, .inr (.inr (.inr (.inr fey))))), (mo, .inr (12, [.ref nw, .ref kp, .ref ik, .ref mr, .long 0, .long 1, .ref mw, .long 0, .int 0, .int 0, .long 0, .long 0, .ref mq, .ref mz, .ref my, .int 0, .ref mb, .int 0, .int 0, .int 0, .int 0, .int 0, .ref mx, .ref mv])), (nw, .inl (cn, 350, .inl (fun _ => 0))), (kp, .inl (cp, 700, .inl (fun _ => 0))), (ik, .inl (cik, 2, .inl (fun _ => 0))), (mr, .inl (cm, 3, .inl (fun _ => 0)))]) (hS : va_S A s.heap H locs) (ls : Array Slot) (hl : lv_has ls 4 [(3, .int 0), (2, .ref mo), (1, .ref o), (0, .ref b)]) : W p l e room_1 s m #[Value.ref b] below meth c H locs 136 3195 (lw_Z below #[Value.ref b] s) (F0 m 1049 ls []) := by
  obtain ⟨hx, hb, hr, hml, hown, hts, hX, hbl, hlocks, hgv⟩ := C0
  have hb : c.code = cL_law := hb
  have hown : s.vm.findClass RL = some m.cls := hown
  refine lv_aload_n hx hb dL_law_1049 rfl (lv_at hl 2 rfl) ?_
  refine lv_aload_n hx hb dL_law_1050 rfl (lv_at hl 3 rfl) ?_
  refine lv_iload_n hx hb dL_law_1051 rfl (lv_at hl 0 rfl) ?_
  refine lv_iconst (v := 1) hx hb dL_law_1052 (by decide) ?_
  refine lv_iadd hx hb dL_law_1053 ?_
  refine tz_i 1 (by decide) ?_
  refine va_sld hx hb hX hbl hbA hS (show ¬ ((1 : Int32) < 0 ∨ 6 ≤ (1 : Int32).toNatClampNeg) by decide) dL_law_1054 ?_
  refine tz_i (xs 1) rfl ?_
  have hPc := hP.sub (ws' := [(o, .inr (11, [.ref aw, .ref bk, .ref ai, .ref ak, .ref sc, .ref rd, .ref fo, .ref tx, .int 0, .ref ar, .ref atr, .ref ao])), (ai, .inl (ci, 2, .inr (.inr (.inr (.inr (tz_w2 i0 i1)))))), (ak, .inl (ck, 2, .inl (fun _ => 0))), (ar, .inl (cr, 3, .inl (fun _ => 0))), (bk, .inr (0, [.ref rk0, .ref rk1, .ref rk2, .ref rk3, .ref eak, .int 0])), (rk0, .inr (6, [.int 1, .int 5, .ref cak0, .int 0])), (rk1, .inr (6, [.int 4, .int 5, .ref cak1, .int 0])), (rk2, .inr (6, [.int 4, .int 8, .ref cak2, .int 0])), (rk3, .inr (6, [.int 4, .int 6, .ref cak3, .int 0])), (cak0, .inl (cck0, 5, .inl (fun _ => 0))), (cak1, .inl (cck1, 20, .inl (fun _ => 0))), (cak2, .inl (cck2, 32, .inl (fun _ => 0))), (cak3, .inl (cck3, 24, .inl (fun _ => 0))), (i0, .inr (0, [.ref rx0, .ref rx1, .ref rx2, .ref rx3, .ref eax, .int 0])), (rx0, .inr (6, [.int 1, .int 5, .ref cax0, .int 0])), (rx1, .inr (6, [.int 4, .int 5, .ref cax1, .int 0])), (rx2, .inr (6, [.int 4, .int 8, .ref cax2, .int 0])), (rx3, .inr (6, [.int 4, .int 6, .ref cax3, .int 0])), (cax0, .inl (ccx0, 5, .inl (fun _ => 0))), (cax1, .inl (ccx1, 20, .inl (fun _ => 0))), (cax2, .inl (ccx2, 32, .inl (fun _ => 0))), (cax3, .inl (ccx3, 24, .inl (fun _ => 0))), (eax, .inl (cex, 8, .inr (.inr (.inr (.inr fex))))), (i1, .inr (0, [.ref ry0, .ref ry1, .ref ry2, .ref ry3, .ref eay, .int 0])), (ry0, .inr (6, [.int 1, .int 5, .ref cay0, .int 0])), (ry1, .inr (6, [.int 4, .int 5, .ref cay1, .int 0])), (ry2, .inr (6, [.int 4, .int 8, .ref cay2, .int 0])), (ry3, .inr (6, [.int 4, .int 6, .ref cay3, .int 0])), (cay0, .inl (ccy0, 5, .inl (fun _ => 0))), (cay1, .inl (ccy1, 20, .inl (fun _ => 0))), (cay2, .inl (ccy2, 32, .inl (fun _ => 0))), (cay3, .inl (ccy3, 24, .inl (fun _ => 0))), (eay, .inl (cey, 8, .inr (.inr (.inr (.inr fey)))))]) [0, 1, 2, 3, 4, 5, 6, 7, 8, 9, 10, 11, 12, 13, 14, 15, 16, 17, 18, 19, 20, 21, 22, 23, 24, 25, 26, 27, 28, 29, 30, 31, 32] rfl
  have hDc := hD.sub (ws' := [(o, .inr (11, [.ref aw, .ref bk, .ref ai, .ref ak, .ref sc, .ref rd, .ref fo, .ref tx, .int 0, .ref ar, .ref atr, .ref ao])), (ai, .inl (ci, 2, .inr (.inr (.inr (.inr (tz_w2 i0 i1)))))), (ak, .inl (ck, 2, .inl (fun _ => 0))), (ar, .inl (cr, 3, .inl (fun _ => 0))), (bk, .inr (0, [.ref rk0, .ref rk1, .ref rk2, .ref rk3, .ref eak, .int 0])), (rk0, .inr (6, [.int 1, .int 5, .ref cak0, .int 0])), (rk1, .inr (6, [.int 4, .int 5, .ref cak1, .int 0])), (rk2, .inr (6, [.int 4, .int 8, .ref cak2, .int 0])), (rk3, .inr (6, [.int 4, .int 6, .ref cak3, .int 0])), (cak0, .inl (cck0, 5, .inl (fun _ => 0))), (cak1, .inl (cck1, 20, .inl (fun _ => 0))), (cak2, .inl (cck2, 32, .inl (fun _ => 0))), (cak3, .inl (cck3, 24, .inl (fun _ => 0))), (i0, .inr (0, [.ref rx0, .ref rx1, .ref rx2, .ref rx3, .ref eax, .int 0])), (rx0, .inr (6, [.int 1, .int 5, .ref cax0, .int 0])), (rx1, .inr (6, [.int 4, .int 5, .ref cax1, .int 0])), (rx2, .inr (6, [.int 4, .int 8, .ref cax2, .int 0])), (rx3, .inr (6, [.int 4, .int 6, .ref cax3, .int 0])), (cax0, .inl (ccx0, 5, .inl (fun _ => 0))), (cax1, .inl (ccx1, 20, .inl (fun _ => 0))), (cax2, .inl (ccx2, 32, .inl (fun _ => 0))), (cax3, .inl (ccx3, 24, .inl (fun _ => 0))), (eax, .inl (cex, 8, .inr (.inr (.inr (.inr fex))))), (i1, .inr (0, [.ref ry0, .ref ry1, .ref ry2, .ref ry3, .ref eay, .int 0])), (ry0, .inr (6, [.int 1, .int 5, .ref cay0, .int 0])), (ry1, .inr (6, [.int 4, .int 5, .ref cay1, .int 0])), (ry2, .inr (6, [.int 4, .int 8, .ref cay2, .int 0])), (ry3, .inr (6, [.int 4, .int 6, .ref cay3, .int 0])), (cay0, .inl (ccy0, 5, .inl (fun _ => 0))), (cay1, .inl (ccy1, 20, .inl (fun _ => 0))), (cay2, .inl (ccy2, 32, .inl (fun _ => 0))), (cay3, .inl (ccy3, 24, .inl (fun _ => 0))), (eay, .inl (cey, 8, .inr (.inr (.inr (.inr fey)))))]) [0, 1, 2, 3, 4, 5, 6, 7, 8, 9, 10, 11, 12, 13, 14, 15, 16, 17, 18, 19, 20, 21, 22, 23, 24, 25, 26, 27, 28, 29, 30, 31, 32] (by decide) rfl
  have hKc := hK.sub (tys' := [(ci, (.object "ThriceCounted$Bank")), (ck, .boolean), (cr, .int), (cck0, .int), (cck1, .int), (cck2, .int), (cck3, .int), (ccx0, .int), (ccx1, .int), (ccx2, .int), (ccx3, .int), (cex, (.object "ThriceCounted$Rows")), (ccy0, .int), (ccy1, .int), (ccy2, .int), (ccy3, .int), (cey, (.object "ThriceCounted$Rows"))]) [0, 1, 2, 3, 4, 5, 6, 7, 8, 9, 10, 11, 12, 13, 14, 15, 16] rfl
  have hFc := va_free (wc := [(o, .inr (11, [.ref aw, .ref bk, .ref ai, .ref ak, .ref sc, .ref rd, .ref fo, .ref tx, .int 0, .ref ar, .ref atr, .ref ao])), (ai, .inl (ci, 2, .inr (.inr (.inr (.inr (tz_w2 i0 i1)))))), (ak, .inl (ck, 2, .inl (fun _ => 0))), (ar, .inl (cr, 3, .inl (fun _ => 0))), (bk, .inr (0, [.ref rk0, .ref rk1, .ref rk2, .ref rk3, .ref eak, .int 0])), (rk0, .inr (6, [.int 1, .int 5, .ref cak0, .int 0])), (rk1, .inr (6, [.int 4, .int 5, .ref cak1, .int 0])), (rk2, .inr (6, [.int 4, .int 8, .ref cak2, .int 0])), (rk3, .inr (6, [.int 4, .int 6, .ref cak3, .int 0])), (cak0, .inl (cck0, 5, .inl (fun _ => 0))), (cak1, .inl (cck1, 20, .inl (fun _ => 0))), (cak2, .inl (cck2, 32, .inl (fun _ => 0))), (cak3, .inl (cck3, 24, .inl (fun _ => 0))), (i0, .inr (0, [.ref rx0, .ref rx1, .ref rx2, .ref rx3, .ref eax, .int 0])), (rx0, .inr (6, [.int 1, .int 5, .ref cax0, .int 0])), (rx1, .inr (6, [.int 4, .int 5, .ref cax1, .int 0])), (rx2, .inr (6, [.int 4, .int 8, .ref cax2, .int 0])), (rx3, .inr (6, [.int 4, .int 6, .ref cax3, .int 0])), (cax0, .inl (ccx0, 5, .inl (fun _ => 0))), (cax1, .inl (ccx1, 20, .inl (fun _ => 0))), (cax2, .inl (ccx2, 32, .inl (fun _ => 0))), (cax3, .inl (ccx3, 24, .inl (fun _ => 0))), (eax, .inl (cex, 8, .inr (.inr (.inr (.inr fex))))), (i1, .inr (0, [.ref ry0, .ref ry1, .ref ry2, .ref ry3, .ref eay, .int 0])), (ry0, .inr (6, [.int 1, .int 5, .ref cay0, .int 0])), (ry1, .inr (6, [.int 4, .int 5, .ref cay1, .int 0])), (ry2, .inr (6, [.int 4, .int 8, .ref cay2, .int 0])), (ry3, .inr (6, [.int 4, .int 6, .ref cay3, .int 0])), (cay0, .inl (ccy0, 5, .inl (fun _ => 0))), (cay1, .inl (ccy1, 20, .inl (fun _ => 0))), (cay2, .inl (ccy2, 32, .inl (fun _ => 0))), (cay3, .inl (ccy3, 24, .inl (fun _ => 0))), (eay, .inl (cey, 8, .inr (.inr (.inr (.inr fey)))))]) hD hS hA [0, 1, 2, 3, 4, 5, 6, 7, 8, 9, 10, 11, 12, 13, 14, 15, 16, 17, 18, 19, 20, 21, 22, 23, 24, 25, 26, 27, 28, 29, 30, 31, 32] rfl
  refine va_calli (va_runV (As := [.int (xs 1)]) (rest := []) ⟨hx, hb, hml, hown, hts⟩ (k_x_image l dC dI o aw bk ai ak sc rd fo tx ar atr ao ci i0 i1 ck cr rk0 rk1 rk2 rk3 eak cak0 cak1 cak2 cak3 cck0 cck1 cck2 cck3 rx0 rx1 rx2 rx3 eax cax0 cax1 cax2 cax3 ccx0 ccx1 ccx2 ccx3 cex fex ry0 ry1 ry2 ry3 eay cay0 cay1 cay2 cay3 ccy0 ccy1 ccy2 ccy3 cey fey (xs 1) H.size) (cwV 1 hts gL_law_X11_image rfl rfl rfl (by decide +kernel) ⟨Nat.le_of_ble_eq_true rfl, Nat.le_of_ble_eq_true rfl⟩) ⟨fun a U g mk q => by obtain ⟨q0, q1, qP, qK, qD⟩ := q; exact ⟨q0, q1, qP, va_K.moved (u := U) (U := U.calling g mk a) (Vm.Alike.refl U.vm) qK, qD⟩, va_recv hK hP (ci := 11) (q0 := 0) rfl rfl, fun U hU hW => ⟨rfl, by rw [hU], by rw [hU]; exact hPc, va_K.moved hW.alike hKc, hDc.weaken (fun _ _ _ _ => trivial)⟩⟩ rfl rfl hl.1 rfl (lv_room (Nat.le_of_ble_eq_true rfl)) dL_law_1055 ⟨Nat.le_of_ble_eq_true rfl, Nat.le_of_ble_eq_true rfl⟩) hS (fun q _ h => hFc q h) hFc (fun r_1 u_ t H1 locs ht hvm hw_2 hB hz1 hk1 hS => ?_)
  obtain ⟨hP, hD⟩ := va_join (wr := [(mo, .inr (12, [.ref nw, .ref kp, .ref ik, .ref mr, .long 0, .long 1, .ref mw, .long 0, .int 0, .int 0, .long 0, .long 0, .ref mq, .ref mz, .ref my, .int 0, .ref mb, .int 0, .int 0, .int 0, .int 0, .int 0, .ref mx, .ref mv])), (nw, .inl (cn, 350, .inl (fun _ => 0))), (kp, .inl (cp, 700, .inl (fun _ => 0))), (ik, .inl (cik, 2, .inl (fun _ => 0))), (mr, .inl (cm, 3, .inl (fun _ => 0)))]) (w1 := []) hP hD [0, 1, 2, 3, 4, 5, 6, 7, 8, 9, 10, 11, 12, 13, 14, 15, 16, 17, 18, 19, 20, 21, 22, 23, 24, 25, 26, 27, 28, 29, 30, 31, 32] [33, 34, 35, 36, 37] rfl rfl (by decide) (by decide) hk1 hFc tz_P0 tz_D0
  generalize H1 = H at hP hS ⊢
  have hP : va_P (dC, dI) vwCl [(mo, .inr (12, [.ref nw, .ref kp, .ref ik, .ref mr, .long 0, .long 1, .ref mw, .long 0, .int 0, .int 0, .long 0, .long 0, .ref mq, .ref mz, .ref my, .int 0, .ref mb, .int 0, .int 0, .int 0, .int 0, .int 0, .ref mx, .ref mv])), (nw, .inl (cn, 350, .inl (fun _ => 0))), (kp, .inl (cp, 700, .inl (fun _ => 0))), (ik, .inl (cik, 2, .inl (fun _ => 0))), (mr, .inl (cm, 3, .inl (fun _ => 0)))] H := hP
  have hD : va_D A [(mo, .inr (12, [.ref nw, .ref kp, .ref ik, .ref mr, .long 0, .long 1, .ref mw, .long 0, .int 0, .int 0, .long 0, .long 0, .ref mq, .ref mz, .ref my, .int 0, .ref mb, .int 0, .int 0, .int 0, .int 0, .int 0, .ref mx, .ref mv])), (nw, .inl (cn, 350, .inl (fun _ => 0))), (kp, .inl (cp, 700, .inl (fun _ => 0))), (ik, .inl (cik, 2, .inl (fun _ => 0))), (mr, .inl (cm, 3, .inl (fun _ => 0)))] := hD
  obtain rfl : (if 0 ≤ (xs 1) ∧ (xs 1) ≤ 1 then 1 else (-2)) = r_1 := hw_2.symm
  refine lv_aload_n hx hb dL_law_1058 rfl (lv_at hl 1 rfl) ?_
  refine lv_aload_n hx hb dL_law_1059 rfl (lv_at hl 3 rfl) ?_
  refine lv_iload_n hx hb dL_law_1060 rfl (lv_at hl 0 rfl) ?_
  refine lv_iconst (v := 1) hx hb dL_law_1061 (by decide) ?_
  refine lv_iadd hx hb dL_law_1062 ?_
  refine tz_i 1 (by decide) ?_
  refine va_sld hx hb hX hbl hbA hS (show ¬ ((1 : Int32) < 0 ∨ 6 ≤ (1 : Int32).toNatClampNeg) by decide) dL_law_1063 ?_
  refine tz_i (xs 1) rfl ?_
  have hPc := hP.sub (ws' := [(mo, .inr (12, [.ref nw, .ref kp, .ref ik, .ref mr, .long 0, .long 1, .ref mw, .long 0, .int 0, .int 0, .long 0, .long 0, .ref mq, .ref mz, .ref my, .int 0, .ref mb, .int 0, .int 0, .int 0, .int 0, .int 0, .ref mx, .ref mv])), (nw, .inl (cn, 350, .inl (fun _ => 0))), (kp, .inl (cp, 700, .inl (fun _ => 0))), (ik, .inl (cik, 2, .inl (fun _ => 0))), (mr, .inl (cm, 3, .inl (fun _ => 0)))]) [0, 1, 2, 3, 4] rfl
  have hDc := hD.sub (ws' := [(mo, .inr (12, [.ref nw, .ref kp, .ref ik, .ref mr, .long 0, .long 1, .ref mw, .long 0, .int 0, .int 0, .long 0, .long 0, .ref mq, .ref mz, .ref my, .int 0, .ref mb, .int 0, .int 0, .int 0, .int 0, .int 0, .ref mx, .ref mv])), (nw, .inl (cn, 350, .inl (fun _ => 0))), (kp, .inl (cp, 700, .inl (fun _ => 0))), (ik, .inl (cik, 2, .inl (fun _ => 0))), (mr, .inl (cm, 3, .inl (fun _ => 0)))]) [0, 1, 2, 3, 4] (by decide) rfl
  have hKc := hK.sub (tys' := [(cn, .int), (cp, .int), (cik, .boolean), (cm, .int)]) [17, 18, 19, 20] rfl
  have hFc := va_free (wc := [(mo, .inr (12, [.ref nw, .ref kp, .ref ik, .ref mr, .long 0, .long 1, .ref mw, .long 0, .int 0, .int 0, .long 0, .long 0, .ref mq, .ref mz, .ref my, .int 0, .ref mb, .int 0, .int 0, .int 0, .int 0, .int 0, .ref mx, .ref mv])), (nw, .inl (cn, 350, .inl (fun _ => 0))), (kp, .inl (cp, 700, .inl (fun _ => 0))), (ik, .inl (cik, 2, .inl (fun _ => 0))), (mr, .inl (cm, 3, .inl (fun _ => 0)))]) hD hS hA [0, 1, 2, 3, 4] rfl
  refine va_calli (va_runV (As := [.int (xs 1)]) (rest := [.int (if 0 ≤ (xs 1) ∧ (xs 1) ≤ 1 then 1 else (-2))]) ⟨hx, hb, hml, hown, hts⟩ (k_m_image l dC dI mo nw kp ik mr mw mq mz my mb mx mv cn cp cik cm (xs 1) H.size) (cwV 1 hts gL_law_X12_image rfl rfl rfl (by decide +kernel) ⟨Nat.le_of_ble_eq_true rfl, Nat.le_of_ble_eq_true rfl⟩) ⟨fun a U g mk q => by obtain ⟨q0, q1, qP, qK, qD⟩ := q; exact ⟨q0, q1, qP, va_K.moved (u := U) (U := U.calling g mk a) (Vm.Alike.refl U.vm) qK, qD⟩, va_recv hK hP (ci := 12) (q0 := 0) rfl rfl, fun U hU hW => ⟨rfl, by rw [hU], by rw [hU]; exact hPc, va_K.moved hW.alike hKc, hDc.weaken (fun _ _ _ _ => trivial)⟩⟩ rfl rfl hl.1 rfl (lv_room (Nat.le_of_ble_eq_true rfl)) dL_law_1064 ⟨Nat.le_of_ble_eq_true rfl, Nat.le_of_ble_eq_true rfl⟩) hS (fun q _ h => hFc q h) hFc (fun r_3 u_ t H1 locs ht hvm hw_4 hB hz1 hk1 hS => ?_)
  obtain ⟨hP, hD⟩ := va_join (wr := []) (w1 := []) hP hD [0, 1, 2, 3, 4] [] rfl rfl (by decide) (by decide) hk1 hFc tz_P0 tz_D0
  generalize H1 = H at hP hS ⊢
  have hP : va_P (dC, dI) vwCl [] H := hP
  have hD : va_D A [] := hD
  obtain rfl : (if 0 ≤ (xs 1) ∧ (xs 1) ≤ 1 then 1 else (-2)) = r_3 := hw_4.symm
  refine lv_icmp_eq (tgt := 1155) hx hb dL_law_1067 (by decide) (fun c_5 => ?_) (fun c_5 => ?_)
  · refine lv_iinc (v := 6) (lv' := [(3, .int 6), (2, .ref mo), (1, .ref o), (0, .ref b)]) hx hb dL_law_1155 hl (k := 0) rfl (by decide) (by decide) rfl (fun ls hl => ?_)
    refine lv_goto (tgt := 18) hx hb dL_law_1158 (by decide) ?_
    refine lv_iload_n hx hb dL_law_18 rfl (lv_at hl 0 rfl) ?_
    refine lv_aload_n hx hb dL_law_19 rfl (lv_at hl 3 rfl) ?_
    refine va_slen hx hb hX hbl hbA hS dL_law_20 ?_
    refine tz_i 6 rfl ?_
    refine lv_bipush (v := 6) hx hb dL_law_21 (by decide) ?_
    refine lv_isub hx hb dL_law_23 ?_
    refine tz_i 0 (by decide) ?_
    refine lv_icmp_gt (tgt := 1161) hx hb dL_law_24 (by decide) (fun c_6 => ?_) (fun c_6 => ?_)
    · refine lv_iconst (v := 1) hx hb dL_law_1161 (by decide) ?_
      refine va_forget (fun q hq => hA2 _ (hS.2.2 q hq)) ?_
      refine W.widen (k := 600000) (n := 7302250) (Nat.le_of_ble_eq_true rfl) (Nat.le_of_ble_eq_true rfl) ?_
      exact lw_ret hx hb hr hlocks dL_law_1162
    · exact absurd c_6 (by decide)
  · exact absurd rfl c_5
set_option maxRecDepth 20000 in
theorem gL_law_X11_from : GoodIn lw_tbl (wsV RL 144 RX11 yX11_from wsX11_from) := tz_good [(43, 0), (43, 1), (43, 2), (0, 2), (43, 3), (1, 13), (1, 10), (1, 11), (42, 16), (42, 17), (42, 18), (0, 2), (42, 19), (7, 7), (7, 8), (7, 9), (7, 10), (7, 11), (7, 12), (7, 13), (7, 14), (2, 6), (21, 1), (21, 2), (21, 3), (1, 9), (21, 4), (3, 5), (3, 6), (3, 7), (3, 8), (3, 10), (3, 9), (21, 5), (12, 9), (3, 18), (12, 10), (12, 4), (12, 5), (12, 6), (3, 4), (12, 7), (3, 20), (3, 15), (12, 8), (3, 22), (12, 11), (12, 12), (12, 13), (12, 14), (46, 0), (46, 1), (46, 2), (46, 3), (46, 4), (46, 5), (46, 6), (46, 7), (46, 8), (46, 9), (46, 10), (46, 11), (54, 0), (54, 1), (54, 2), (54, 3), (54, 4), (54, 5), (58, 0), (58, 1), (58, 2), (58, 3)] (by decide +kernel) (by decide +kernel)
set_option maxRecDepth 20000 in
theorem gL_law_X12_from : GoodIn lw_tbl (wsV RL 147 RX12 yX12_from wsX12_from) := tz_good [(43, 4), (43, 5), (43, 6), (0, 5), (43, 7), (5, 6), (5, 4), (5, 5), (8, 17), (8, 18), (0, 5), (8, 19), (8, 20), (8, 21), (8, 22), (8, 23), (5, 7), (14, 19), (14, 20), (14, 21), (14, 22), (47, 0), (47, 1), (47, 2), (47, 3), (47, 4), (47, 5), (47, 6), (47, 7), (47, 8), (47, 9), (47, 10), (47, 11), (47, 12), (47, 13), (47, 14), (47, 15), (47, 16), (47, 17), (47, 18), (47, 19), (47, 20), (47, 21), (47, 22), (47, 23)] (by decide +kernel) (by decide +kernel)
theorem dL_law_1072 : decode cL_law 1072 = .ok (.aload_n 1, 1) := by decide +kernel
theorem dL_law_1073 : decode cL_law 1073 = .ok (.aload_n 0, 1) := by decide +kernel
theorem dL_law_1074 : decode cL_law 1074 = .ok (.iload_n 3, 1) := by decide +kernel
theorem dL_law_1075 : decode cL_law 1075 = .ok (.iconst 1, 1) := by decide +kernel
theorem dL_law_1076 : decode cL_law 1076 = .ok (.iadd, 1) := by decide +kernel
theorem dL_law_1077 : decode cL_law 1077 = .ok (.iaload, 1) := by decide +kernel
theorem dL_law_1078 : decode cL_law 1078 = .ok (.invokevirtual 144, 3) := by decide +kernel
theorem dL_law_1081 : decode cL_law 1081 = .ok (.aload_n 2, 1) := by decide +kernel
theorem dL_law_1082 : decode cL_law 1082 = .ok (.aload_n 0, 1) := by decide +kernel
theorem dL_law_1083 : decode cL_law 1083 = .ok (.iload_n 3, 1) := by decide +kernel
theorem dL_law_1084 : decode cL_law 1084 = .ok (.iconst 1, 1) := by decide +kernel
theorem dL_law_1085 : decode cL_law 1085 = .ok (.iadd, 1) := by decide +kernel
theorem dL_law_1086 : decode cL_law 1086 = .ok (.iaload, 1) := by decide +kernel
theorem dL_law_1087 : decode cL_law 1087 = .ok (.invokevirtual 147, 3) := by decide +kernel
theorem dL_law_1090 : decode cL_law 1090 = .ok (.if_icmp .eq 65, 3) := by decide +kernel
set_option maxHeartbeats 4000000 in
set_option maxRecDepth 100000 in
theorem lc_from {p : Program} {l : Launch} {e : Env} {s : State} {m : MethodId} {below : List Frame} {meth : Method} {c : Code} {b : Nat} {xs : Nat → Int32} (C0 : lw_At p s m meth c b 6 xs) (hN : tz_N s) (A : Nat → Prop) (hA : ∀ q : Nat, s.heap.size ≤ q → A q) (hA2 : ∀ q : Nat, A q → s.heap.size ≤ q) (hbA : ¬ A b) (dC : Nat → ClassId) (dI : Nat → Nat → Nat) (o : Nat) (aw : Nat) (bk : Nat) (ai : Nat) (ak : Nat) (sc : Nat) (rd : Nat) (fo : Nat) (tx : Nat) (ar : Nat) (atr : Nat) (ao : Nat) (ci : ClassId) (i0 : Nat) (i1 : Nat) (ck : ClassId) (cr : ClassId) (mo : Nat) (nw : Nat) (kp : Nat) (ik : Nat) (mr : Nat) (mw : Nat) (mq : Nat) (mz : Nat) (my : Nat) (mb : Nat) (mx : Nat) (mv : Nat) (cik : ClassId) (cm : ClassId) (H : Heap) (locs : List Loc) (hK : va_K (dC, dI) vwCl [(ci, (.object "ThriceCounted$Bank")), (ck, .boolean), (cr, .int), (cik, .boolean), (cm, .int)] s) (hP : va_P (dC, dI) vwCl [(o, .inr (11, [.ref aw, .ref bk, .ref ai, .ref ak, .ref sc, .ref rd, .ref fo, .ref tx, .int 0, .ref ar, .ref atr, .ref ao])), (ai, .inl (ci, 2, .inr (.inr (.inr (.inr (tz_w2 i0 i1)))))), (ak, .inl (ck, 2, .inl (fun _ => 0))), (ar, .inl (cr, 3, .inl (fun _ => 0))), (mo, .inr (12, [.ref nw, .ref kp, .ref ik, .ref mr, .long 0, .long 1, .ref mw, .long 0, .int 0, .int 0, .long 0, .long 0, .ref mq, .ref mz, .ref my, .int 0, .ref mb, .int 0, .int 0, .int 0, .int 0, .int 0, .ref mx, .ref mv])), (ik, .inl (cik, 2, .inl (fun _ => 0))), (mr, .inl (cm, 3, .inl (fun _ => 0)))] H) (hD : va_D A [(o, .inr (11, [.ref aw, .ref bk, .ref ai, .ref ak, .ref sc, .ref rd, .ref fo, .ref tx, .int 0, .ref ar, .ref atr, .ref ao])), (ai, .inl (ci, 2, .inr (.inr (.inr (.inr (tz_w2 i0 i1)))))), (ak, .inl (ck, 2, .inl (fun _ => 0))), (ar, .inl (cr, 3, .inl (fun _ => 0))), (mo, .inr (12, [.ref nw, .ref kp, .ref ik, .ref mr, .long 0, .long 1, .ref mw, .long 0, .int 0, .int 0, .long 0, .long 0, .ref mq, .ref mz, .ref my, .int 0, .ref mb, .int 0, .int 0, .int 0, .int 0, .int 0, .ref mx, .ref mv])), (ik, .inl (cik, 2, .inl (fun _ => 0))), (mr, .inl (cm, 3, .inl (fun _ => 0)))]) (hS : va_S A s.heap H locs) (ls : Array Slot) (hl : lv_has ls 4 [(3, .int 0), (2, .ref mo), (1, .ref o), (0, .ref b)]) : W p l e room_1 s m #[Value.ref b] below meth c H locs 136 3195 (lw_Z below #[Value.ref b] s) (F0 m 1072 ls []) := by
  obtain ⟨hx, hb, hr, hml, hown, hts, hX, hbl, hlocks, hgv⟩ := C0
  have hb : c.code = cL_law := hb
  have hown : s.vm.findClass RL = some m.cls := hown
  refine lv_aload_n hx hb dL_law_1072 rfl (lv_at hl 2 rfl) ?_
  refine lv_aload_n hx hb dL_law_1073 rfl (lv_at hl 3 rfl) ?_
  refine lv_iload_n hx hb dL_law_1074 rfl (lv_at hl 0 rfl) ?_
  refine lv_iconst (v := 1) hx hb dL_law_1075 (by decide) ?_
  refine lv_iadd hx hb dL_law_1076 ?_
  refine tz_i 1 (by decide) ?_
  refine va_sld hx hb hX hbl hbA hS (show ¬ ((1 : Int32) < 0 ∨ 6 ≤ (1 : Int32).toNatClampNeg) by decide) dL_law_1077 ?_
  refine tz_i (xs 1) rfl ?_
  have hPc := hP.sub (ws' := [(o, .inr (11, [.ref aw, .ref bk, .ref ai, .ref ak, .ref sc, .ref rd, .ref fo, .ref tx, .int 0, .ref ar, .ref atr, .ref ao])), (ai, .inl (ci, 2, .inr (.inr (.inr (.inr (tz_w2 i0 i1)))))), (ak, .inl (ck, 2, .inl (fun _ => 0))), (ar, .inl (cr, 3, .inl (fun _ => 0)))]) [0, 1, 2, 3] rfl
  have hDc := hD.sub (ws' := [(o, .inr (11, [.ref aw, .ref bk, .ref ai, .ref ak, .ref sc, .ref rd, .ref fo, .ref tx, .int 0, .ref ar, .ref atr, .ref ao])), (ai, .inl (ci, 2, .inr (.inr (.inr (.inr (tz_w2 i0 i1)))))), (ak, .inl (ck, 2, .inl (fun _ => 0))), (ar, .inl (cr, 3, .inl (fun _ => 0)))]) [0, 1, 2, 3] (by decide) rfl
  have hKc := hK.sub (tys' := [(ci, (.object "ThriceCounted$Bank")), (ck, .boolean), (cr, .int)]) [0, 1, 2] rfl
  have hFc := va_free (wc := [(o, .inr (11, [.ref aw, .ref bk, .ref ai, .ref ak, .ref sc, .ref rd, .ref fo, .ref tx, .int 0, .ref ar, .ref atr, .ref ao])), (ai, .inl (ci, 2, .inr (.inr (.inr (.inr (tz_w2 i0 i1)))))), (ak, .inl (ck, 2, .inl (fun _ => 0))), (ar, .inl (cr, 3, .inl (fun _ => 0)))]) hD hS hA [0, 1, 2, 3] rfl
  refine va_calli (va_runV (As := [.int (xs 1)]) (rest := []) ⟨hx, hb, hml, hown, hts⟩ (k_x_from l dC dI o aw bk ai ak sc rd fo tx ar atr ao ci i0 i1 ck cr (xs 1) H.size) (cwV 1 hts gL_law_X11_from rfl rfl rfl (by decide +kernel) ⟨Nat.le_of_ble_eq_true rfl, Nat.le_of_ble_eq_true rfl⟩) ⟨fun a U g mk q => by obtain ⟨q0, q1, qP, qK, qD⟩ := q; exact ⟨q0, q1, qP, va_K.moved (u := U) (U := U.calling g mk a) (Vm.Alike.refl U.vm) qK, qD⟩, va_recv hK hP (ci := 11) (q0 := 0) rfl rfl, fun U hU hW => ⟨rfl, by rw [hU], by rw [hU]; exact hPc, va_K.moved hW.alike hKc, hDc.weaken (fun _ _ _ _ => trivial)⟩⟩ rfl rfl hl.1 rfl (lv_room (Nat.le_of_ble_eq_true rfl)) dL_law_1078 ⟨Nat.le_of_ble_eq_true rfl, Nat.le_of_ble_eq_true rfl⟩) hS (fun q _ h => hFc q h) hFc (fun r_1 u_ t H1 locs ht hvm hw_2 hB hz1 hk1 hS => ?_)
  obtain ⟨hP, hD⟩ := va_join (wr := [(mo, .inr (12, [.ref nw, .ref kp, .ref ik, .ref mr, .long 0, .long 1, .ref mw, .long 0, .int 0, .int 0, .long 0, .long 0, .ref mq, .ref mz, .ref my, .int 0, .ref mb, .int 0, .int 0, .int 0, .int 0, .int 0, .ref mx, .ref mv])), (ik, .inl (cik, 2, .inl (fun _ => 0))), (mr, .inl (cm, 3, .inl (fun _ => 0)))]) (w1 := []) hP hD [0, 1, 2, 3] [4, 5, 6] rfl rfl (by decide) (by decide) hk1 hFc tz_P0 tz_D0
  generalize H1 = H at hP hS ⊢
  have hP : va_P (dC, dI) vwCl [(mo, .inr (12, [.ref nw, .ref kp, .ref ik, .ref mr, .long 0, .long 1, .ref mw, .long 0, .int 0, .int 0, .long 0, .long 0, .ref mq, .ref mz, .ref my, .int 0, .ref mb, .int 0, .int 0, .int 0, .int 0, .int 0, .ref mx, .ref mv])), (ik, .inl (cik, 2, .inl (fun _ => 0))), (mr, .inl (cm, 3, .inl (fun _ => 0)))] H := hP
  have hD : va_D A [(mo, .inr (12, [.ref nw, .ref kp, .ref ik, .ref mr, .long 0, .long 1, .ref mw, .long 0, .int 0, .int 0, .long 0, .long 0, .ref mq, .ref mz, .ref my, .int 0, .ref mb, .int 0, .int 0, .int 0, .int 0, .int 0, .ref mx, .ref mv])), (ik, .inl (cik, 2, .inl (fun _ => 0))), (mr, .inl (cm, 3, .inl (fun _ => 0)))] := hD
  obtain rfl : (if 0 ≤ (xs 1) ∧ (xs 1) ≤ 1 then (-3) else (-2)) = r_1 := hw_2.symm
  refine lv_aload_n hx hb dL_law_1081 rfl (lv_at hl 1 rfl) ?_
  refine lv_aload_n hx hb dL_law_1082 rfl (lv_at hl 3 rfl) ?_
  refine lv_iload_n hx hb dL_law_1083 rfl (lv_at hl 0 rfl) ?_
  refine lv_iconst (v := 1) hx hb dL_law_1084 (by decide) ?_
  refine lv_iadd hx hb dL_law_1085 ?_
  refine tz_i 1 (by decide) ?_
  refine va_sld hx hb hX hbl hbA hS (show ¬ ((1 : Int32) < 0 ∨ 6 ≤ (1 : Int32).toNatClampNeg) by decide) dL_law_1086 ?_
  refine tz_i (xs 1) rfl ?_
  have hPc := hP.sub (ws' := [(mo, .inr (12, [.ref nw, .ref kp, .ref ik, .ref mr, .long 0, .long 1, .ref mw, .long 0, .int 0, .int 0, .long 0, .long 0, .ref mq, .ref mz, .ref my, .int 0, .ref mb, .int 0, .int 0, .int 0, .int 0, .int 0, .ref mx, .ref mv])), (ik, .inl (cik, 2, .inl (fun _ => 0))), (mr, .inl (cm, 3, .inl (fun _ => 0)))]) [0, 1, 2] rfl
  have hDc := hD.sub (ws' := [(mo, .inr (12, [.ref nw, .ref kp, .ref ik, .ref mr, .long 0, .long 1, .ref mw, .long 0, .int 0, .int 0, .long 0, .long 0, .ref mq, .ref mz, .ref my, .int 0, .ref mb, .int 0, .int 0, .int 0, .int 0, .int 0, .ref mx, .ref mv])), (ik, .inl (cik, 2, .inl (fun _ => 0))), (mr, .inl (cm, 3, .inl (fun _ => 0)))]) [0, 1, 2] (by decide) rfl
  have hKc := hK.sub (tys' := [(cik, .boolean), (cm, .int)]) [3, 4] rfl
  have hFc := va_free (wc := [(mo, .inr (12, [.ref nw, .ref kp, .ref ik, .ref mr, .long 0, .long 1, .ref mw, .long 0, .int 0, .int 0, .long 0, .long 0, .ref mq, .ref mz, .ref my, .int 0, .ref mb, .int 0, .int 0, .int 0, .int 0, .int 0, .ref mx, .ref mv])), (ik, .inl (cik, 2, .inl (fun _ => 0))), (mr, .inl (cm, 3, .inl (fun _ => 0)))]) hD hS hA [0, 1, 2] rfl
  refine va_calli (va_runV (As := [.int (xs 1)]) (rest := [.int (if 0 ≤ (xs 1) ∧ (xs 1) ≤ 1 then (-3) else (-2))]) ⟨hx, hb, hml, hown, hts⟩ (k_m_from l dC dI mo nw kp ik mr mw mq mz my mb mx mv cik cm (xs 1) H.size) (cwV 1 hts gL_law_X12_from rfl rfl rfl (by decide +kernel) ⟨Nat.le_of_ble_eq_true rfl, Nat.le_of_ble_eq_true rfl⟩) ⟨fun a U g mk q => by obtain ⟨q0, q1, qP, qK, qD⟩ := q; exact ⟨q0, q1, qP, va_K.moved (u := U) (U := U.calling g mk a) (Vm.Alike.refl U.vm) qK, qD⟩, va_recv hK hP (ci := 12) (q0 := 0) rfl rfl, fun U hU hW => ⟨rfl, by rw [hU], by rw [hU]; exact hPc, va_K.moved hW.alike hKc, hDc.weaken (fun _ _ _ _ => trivial)⟩⟩ rfl rfl hl.1 rfl (lv_room (Nat.le_of_ble_eq_true rfl)) dL_law_1087 ⟨Nat.le_of_ble_eq_true rfl, Nat.le_of_ble_eq_true rfl⟩) hS (fun q _ h => hFc q h) hFc (fun r_3 u_ t H1 locs ht hvm hw_4 hB hz1 hk1 hS => ?_)
  obtain ⟨hP, hD⟩ := va_join (wr := []) (w1 := []) hP hD [0, 1, 2] [] rfl rfl (by decide) (by decide) hk1 hFc tz_P0 tz_D0
  generalize H1 = H at hP hS ⊢
  have hP : va_P (dC, dI) vwCl [] H := hP
  have hD : va_D A [] := hD
  obtain rfl : (if 0 ≤ (xs 1) ∧ (xs 1) ≤ 1 then (-3) else (-2)) = r_3 := hw_4.symm
  refine lv_icmp_eq (tgt := 1155) hx hb dL_law_1090 (by decide) (fun c_5 => ?_) (fun c_5 => ?_)
  · refine lv_iinc (v := 6) (lv' := [(3, .int 6), (2, .ref mo), (1, .ref o), (0, .ref b)]) hx hb dL_law_1155 hl (k := 0) rfl (by decide) (by decide) rfl (fun ls hl => ?_)
    refine lv_goto (tgt := 18) hx hb dL_law_1158 (by decide) ?_
    refine lv_iload_n hx hb dL_law_18 rfl (lv_at hl 0 rfl) ?_
    refine lv_aload_n hx hb dL_law_19 rfl (lv_at hl 3 rfl) ?_
    refine va_slen hx hb hX hbl hbA hS dL_law_20 ?_
    refine tz_i 6 rfl ?_
    refine lv_bipush (v := 6) hx hb dL_law_21 (by decide) ?_
    refine lv_isub hx hb dL_law_23 ?_
    refine tz_i 0 (by decide) ?_
    refine lv_icmp_gt (tgt := 1161) hx hb dL_law_24 (by decide) (fun c_6 => ?_) (fun c_6 => ?_)
    · refine lv_iconst (v := 1) hx hb dL_law_1161 (by decide) ?_
      refine va_forget (fun q hq => hA2 _ (hS.2.2 q hq)) ?_
      refine W.widen (k := 600000) (n := 7302250) (Nat.le_of_ble_eq_true rfl) (Nat.le_of_ble_eq_true rfl) ?_
      exact lw_ret hx hb hr hlocks dL_law_1162
    · exact absurd c_6 (by decide)
  · exact absurd rfl c_5
set_option maxRecDepth 20000 in
theorem gL_law_X11_status : GoodIn lw_tbl (wsV RL 148 RX11 yX11_status wsX11_status) := tz_good [(43, 8), (43, 9), (43, 10), (0, 2), (43, 11), (2, 6), (7, 11), (7, 12), (7, 13), (0, 2), (7, 14), (46, 0), (46, 1), (46, 2), (46, 3), (46, 4), (46, 5), (46, 6), (46, 7), (46, 8), (46, 9), (46, 10), (46, 11)] (by decide +kernel) (by decide +kernel)
set_option maxRecDepth 20000 in
theorem gL_law_X12_status : GoodIn lw_tbl (wsV RL 151 RX12 yX12_status wsX12_status) := tz_good [(43, 12), (43, 13), (43, 14), (0, 5), (43, 15), (41, 15), (5, 7), (8, 17), (8, 18), (0, 5), (8, 19), (8, 20), (8, 21), (8, 22), (8, 23), (47, 0), (47, 1), (47, 2), (47, 3), (47, 4), (47, 5), (47, 6), (47, 7), (47, 8), (47, 9), (47, 10), (47, 11), (47, 12), (47, 13), (47, 14), (47, 15), (47, 16), (47, 17), (47, 18), (47, 19), (47, 20), (47, 21), (47, 22), (47, 23)] (by decide +kernel) (by decide +kernel)
theorem dL_law_1095 : decode cL_law 1095 = .ok (.aload_n 1, 1) := by decide +kernel
theorem dL_law_1096 : decode cL_law 1096 = .ok (.aload_n 0, 1) := by decide +kernel
theorem dL_law_1097 : decode cL_law 1097 = .ok (.iload_n 3, 1) := by decide +kernel
theorem dL_law_1098 : decode cL_law 1098 = .ok (.iconst 1, 1) := by decide +kernel
theorem dL_law_1099 : decode cL_law 1099 = .ok (.iadd, 1) := by decide +kernel
theorem dL_law_1100 : decode cL_law 1100 = .ok (.iaload, 1) := by decide +kernel
theorem dL_law_1101 : decode cL_law 1101 = .ok (.invokevirtual 148, 3) := by decide +kernel
theorem dL_law_1104 : decode cL_law 1104 = .ok (.aload_n 2, 1) := by decide +kernel
theorem dL_law_1105 : decode cL_law 1105 = .ok (.aload_n 0, 1) := by decide +kernel
theorem dL_law_1106 : decode cL_law 1106 = .ok (.iload_n 3, 1) := by decide +kernel
theorem dL_law_1107 : decode cL_law 1107 = .ok (.iconst 1, 1) := by decide +kernel
theorem dL_law_1108 : decode cL_law 1108 = .ok (.iadd, 1) := by decide +kernel
theorem dL_law_1109 : decode cL_law 1109 = .ok (.iaload, 1) := by decide +kernel
theorem dL_law_1110 : decode cL_law 1110 = .ok (.invokevirtual 151, 3) := by decide +kernel
theorem dL_law_1113 : decode cL_law 1113 = .ok (.if_icmp .eq 42, 3) := by decide +kernel
set_option maxHeartbeats 4000000 in
set_option maxRecDepth 100000 in
theorem lc_status {p : Program} {l : Launch} {e : Env} {s : State} {m : MethodId} {below : List Frame} {meth : Method} {c : Code} {b : Nat} {xs : Nat → Int32} (C0 : lw_At p s m meth c b 6 xs) (hN : tz_N s) (A : Nat → Prop) (hA : ∀ q : Nat, s.heap.size ≤ q → A q) (hA2 : ∀ q : Nat, A q → s.heap.size ≤ q) (hbA : ¬ A b) (dC : Nat → ClassId) (dI : Nat → Nat → Nat) (o : Nat) (aw : Nat) (bk : Nat) (ai : Nat) (ak : Nat) (sc : Nat) (rd : Nat) (fo : Nat) (tx : Nat) (ar : Nat) (atr : Nat) (ao : Nat) (cr : ClassId) (mo : Nat) (nw : Nat) (kp : Nat) (ik : Nat) (mr : Nat) (mw : Nat) (mq : Nat) (mz : Nat) (my : Nat) (mb : Nat) (mx : Nat) (mv : Nat) (cm : ClassId) (H : Heap) (locs : List Loc) (hK : va_K (dC, dI) vwCl [(cr, .int), (cm, .int)] s) (hP : va_P (dC, dI) vwCl [(o, .inr (11, [.ref aw, .ref bk, .ref ai, .ref ak, .ref sc, .ref rd, .ref fo, .ref tx, .int 0, .ref ar, .ref atr, .ref ao])), (ar, .inl (cr, 3, .inl (fun _ => 0))), (mo, .inr (12, [.ref nw, .ref kp, .ref ik, .ref mr, .long 0, .long 1, .ref mw, .long 0, .int 0, .int 0, .long 0, .long 0, .ref mq, .ref mz, .ref my, .int 0, .ref mb, .int 0, .int 0, .int 0, .int 0, .int 0, .ref mx, .ref mv])), (mr, .inl (cm, 3, .inl (fun _ => 0)))] H) (hD : va_D A [(o, .inr (11, [.ref aw, .ref bk, .ref ai, .ref ak, .ref sc, .ref rd, .ref fo, .ref tx, .int 0, .ref ar, .ref atr, .ref ao])), (ar, .inl (cr, 3, .inl (fun _ => 0))), (mo, .inr (12, [.ref nw, .ref kp, .ref ik, .ref mr, .long 0, .long 1, .ref mw, .long 0, .int 0, .int 0, .long 0, .long 0, .ref mq, .ref mz, .ref my, .int 0, .ref mb, .int 0, .int 0, .int 0, .int 0, .int 0, .ref mx, .ref mv])), (mr, .inl (cm, 3, .inl (fun _ => 0)))]) (hS : va_S A s.heap H locs) (ls : Array Slot) (hl : lv_has ls 4 [(3, .int 0), (2, .ref mo), (1, .ref o), (0, .ref b)]) : W p l e room_1 s m #[Value.ref b] below meth c H locs 136 3195 (lw_Z below #[Value.ref b] s) (F0 m 1095 ls []) := by
  obtain ⟨hx, hb, hr, hml, hown, hts, hX, hbl, hlocks, hgv⟩ := C0
  have hb : c.code = cL_law := hb
  have hown : s.vm.findClass RL = some m.cls := hown
  refine lv_aload_n hx hb dL_law_1095 rfl (lv_at hl 2 rfl) ?_
  refine lv_aload_n hx hb dL_law_1096 rfl (lv_at hl 3 rfl) ?_
  refine lv_iload_n hx hb dL_law_1097 rfl (lv_at hl 0 rfl) ?_
  refine lv_iconst (v := 1) hx hb dL_law_1098 (by decide) ?_
  refine lv_iadd hx hb dL_law_1099 ?_
  refine tz_i 1 (by decide) ?_
  refine va_sld hx hb hX hbl hbA hS (show ¬ ((1 : Int32) < 0 ∨ 6 ≤ (1 : Int32).toNatClampNeg) by decide) dL_law_1100 ?_
  refine tz_i (xs 1) rfl ?_
  have hPc := hP.sub (ws' := [(o, .inr (11, [.ref aw, .ref bk, .ref ai, .ref ak, .ref sc, .ref rd, .ref fo, .ref tx, .int 0, .ref ar, .ref atr, .ref ao])), (ar, .inl (cr, 3, .inl (fun _ => 0)))]) [0, 1] rfl
  have hDc := hD.sub (ws' := [(o, .inr (11, [.ref aw, .ref bk, .ref ai, .ref ak, .ref sc, .ref rd, .ref fo, .ref tx, .int 0, .ref ar, .ref atr, .ref ao])), (ar, .inl (cr, 3, .inl (fun _ => 0)))]) [0, 1] (by decide) rfl
  have hKc := hK.sub (tys' := [(cr, .int)]) [0] rfl
  have hFc := va_free (wc := [(o, .inr (11, [.ref aw, .ref bk, .ref ai, .ref ak, .ref sc, .ref rd, .ref fo, .ref tx, .int 0, .ref ar, .ref atr, .ref ao])), (ar, .inl (cr, 3, .inl (fun _ => 0)))]) hD hS hA [0, 1] rfl
  refine va_calli (va_runV (As := [.int (xs 1)]) (rest := []) ⟨hx, hb, hml, hown, hts⟩ (k_x_status l dC dI o aw bk ai ak sc rd fo tx ar atr ao cr (xs 1) H.size) (cwV 1 hts gL_law_X11_status rfl rfl rfl (by decide +kernel) ⟨Nat.le_of_ble_eq_true rfl, Nat.le_of_ble_eq_true rfl⟩) ⟨fun a U g mk q => by obtain ⟨q0, q1, qP, qK, qD⟩ := q; exact ⟨q0, q1, qP, va_K.moved (u := U) (U := U.calling g mk a) (Vm.Alike.refl U.vm) qK, qD⟩, va_recv hK hP (ci := 11) (q0 := 0) rfl rfl, fun U hU hW => ⟨rfl, by rw [hU], by rw [hU]; exact hPc, va_K.moved hW.alike hKc, hDc.weaken (fun _ _ _ _ => trivial)⟩⟩ rfl rfl hl.1 rfl (lv_room (Nat.le_of_ble_eq_true rfl)) dL_law_1101 ⟨Nat.le_of_ble_eq_true rfl, Nat.le_of_ble_eq_true rfl⟩) hS (fun q _ h => hFc q h) hFc (fun r_1 u_ t H1 locs ht hvm hw_2 hB hz1 hk1 hS => ?_)
  obtain ⟨hP, hD⟩ := va_join (wr := [(mo, .inr (12, [.ref nw, .ref kp, .ref ik, .ref mr, .long 0, .long 1, .ref mw, .long 0, .int 0, .int 0, .long 0, .long 0, .ref mq, .ref mz, .ref my, .int 0, .ref mb, .int 0, .int 0, .int 0, .int 0, .int 0, .ref mx, .ref mv])), (mr, .inl (cm, 3, .inl (fun _ => 0)))]) (w1 := []) hP hD [0, 1] [2, 3] rfl rfl (by decide) (by decide) hk1 hFc tz_P0 tz_D0
  generalize H1 = H at hP hS ⊢
  have hP : va_P (dC, dI) vwCl [(mo, .inr (12, [.ref nw, .ref kp, .ref ik, .ref mr, .long 0, .long 1, .ref mw, .long 0, .int 0, .int 0, .long 0, .long 0, .ref mq, .ref mz, .ref my, .int 0, .ref mb, .int 0, .int 0, .int 0, .int 0, .int 0, .ref mx, .ref mv])), (mr, .inl (cm, 3, .inl (fun _ => 0)))] H := hP
  have hD : va_D A [(mo, .inr (12, [.ref nw, .ref kp, .ref ik, .ref mr, .long 0, .long 1, .ref mw, .long 0, .int 0, .int 0, .long 0, .long 0, .ref mq, .ref mz, .ref my, .int 0, .ref mb, .int 0, .int 0, .int 0, .int 0, .int 0, .ref mx, .ref mv])), (mr, .inl (cm, 3, .inl (fun _ => 0)))] := hD
  obtain rfl : (if 0 ≤ (xs 1) ∧ (xs 1) ≤ 2 then 0 else (-1)) = r_1 := hw_2.symm
  refine lv_aload_n hx hb dL_law_1104 rfl (lv_at hl 1 rfl) ?_
  refine lv_aload_n hx hb dL_law_1105 rfl (lv_at hl 3 rfl) ?_
  refine lv_iload_n hx hb dL_law_1106 rfl (lv_at hl 0 rfl) ?_
  refine lv_iconst (v := 1) hx hb dL_law_1107 (by decide) ?_
  refine lv_iadd hx hb dL_law_1108 ?_
  refine tz_i 1 (by decide) ?_
  refine va_sld hx hb hX hbl hbA hS (show ¬ ((1 : Int32) < 0 ∨ 6 ≤ (1 : Int32).toNatClampNeg) by decide) dL_law_1109 ?_
  refine tz_i (xs 1) rfl ?_
  have hPc := hP.sub (ws' := [(mo, .inr (12, [.ref nw, .ref kp, .ref ik, .ref mr, .long 0, .long 1, .ref mw, .long 0, .int 0, .int 0, .long 0, .long 0, .ref mq, .ref mz, .ref my, .int 0, .ref mb, .int 0, .int 0, .int 0, .int 0, .int 0, .ref mx, .ref mv])), (mr, .inl (cm, 3, .inl (fun _ => 0)))]) [0, 1] rfl
  have hDc := hD.sub (ws' := [(mo, .inr (12, [.ref nw, .ref kp, .ref ik, .ref mr, .long 0, .long 1, .ref mw, .long 0, .int 0, .int 0, .long 0, .long 0, .ref mq, .ref mz, .ref my, .int 0, .ref mb, .int 0, .int 0, .int 0, .int 0, .int 0, .ref mx, .ref mv])), (mr, .inl (cm, 3, .inl (fun _ => 0)))]) [0, 1] (by decide) rfl
  have hKc := hK.sub (tys' := [(cm, .int)]) [1] rfl
  have hFc := va_free (wc := [(mo, .inr (12, [.ref nw, .ref kp, .ref ik, .ref mr, .long 0, .long 1, .ref mw, .long 0, .int 0, .int 0, .long 0, .long 0, .ref mq, .ref mz, .ref my, .int 0, .ref mb, .int 0, .int 0, .int 0, .int 0, .int 0, .ref mx, .ref mv])), (mr, .inl (cm, 3, .inl (fun _ => 0)))]) hD hS hA [0, 1] rfl
  refine va_calli (va_runV (As := [.int (xs 1)]) (rest := [.int (if 0 ≤ (xs 1) ∧ (xs 1) ≤ 2 then 0 else (-1))]) ⟨hx, hb, hml, hown, hts⟩ (k_m_status l dC dI mo nw kp ik mr mw mq mz my mb mx mv cm (xs 1) H.size) (cwV 1 hts gL_law_X12_status rfl rfl rfl (by decide +kernel) ⟨Nat.le_of_ble_eq_true rfl, Nat.le_of_ble_eq_true rfl⟩) ⟨fun a U g mk q => by obtain ⟨q0, q1, qP, qK, qD⟩ := q; exact ⟨q0, q1, qP, va_K.moved (u := U) (U := U.calling g mk a) (Vm.Alike.refl U.vm) qK, qD⟩, va_recv hK hP (ci := 12) (q0 := 0) rfl rfl, fun U hU hW => ⟨rfl, by rw [hU], by rw [hU]; exact hPc, va_K.moved hW.alike hKc, hDc.weaken (fun _ _ _ _ => trivial)⟩⟩ rfl rfl hl.1 rfl (lv_room (Nat.le_of_ble_eq_true rfl)) dL_law_1110 ⟨Nat.le_of_ble_eq_true rfl, Nat.le_of_ble_eq_true rfl⟩) hS (fun q _ h => hFc q h) hFc (fun r_3 u_ t H1 locs ht hvm hw_4 hB hz1 hk1 hS => ?_)
  obtain ⟨hP, hD⟩ := va_join (wr := []) (w1 := []) hP hD [0, 1] [] rfl rfl (by decide) (by decide) hk1 hFc tz_P0 tz_D0
  generalize H1 = H at hP hS ⊢
  have hP : va_P (dC, dI) vwCl [] H := hP
  have hD : va_D A [] := hD
  obtain rfl : (if 0 ≤ (xs 1) ∧ (xs 1) ≤ 2 then 0 else (-1)) = r_3 := hw_4.symm
  refine lv_icmp_eq (tgt := 1155) hx hb dL_law_1113 (by decide) (fun c_5 => ?_) (fun c_5 => ?_)
  · refine lv_iinc (v := 6) (lv' := [(3, .int 6), (2, .ref mo), (1, .ref o), (0, .ref b)]) hx hb dL_law_1155 hl (k := 0) rfl (by decide) (by decide) rfl (fun ls hl => ?_)
    refine lv_goto (tgt := 18) hx hb dL_law_1158 (by decide) ?_
    refine lv_iload_n hx hb dL_law_18 rfl (lv_at hl 0 rfl) ?_
    refine lv_aload_n hx hb dL_law_19 rfl (lv_at hl 3 rfl) ?_
    refine va_slen hx hb hX hbl hbA hS dL_law_20 ?_
    refine tz_i 6 rfl ?_
    refine lv_bipush (v := 6) hx hb dL_law_21 (by decide) ?_
    refine lv_isub hx hb dL_law_23 ?_
    refine tz_i 0 (by decide) ?_
    refine lv_icmp_gt (tgt := 1161) hx hb dL_law_24 (by decide) (fun c_6 => ?_) (fun c_6 => ?_)
    · refine lv_iconst (v := 1) hx hb dL_law_1161 (by decide) ?_
      refine va_forget (fun q hq => hA2 _ (hS.2.2 q hq)) ?_
      refine W.widen (k := 600000) (n := 7302250) (Nat.le_of_ble_eq_true rfl) (Nat.le_of_ble_eq_true rfl) ?_
      exact lw_ret hx hb hr hlocks dL_law_1162
    · exact absurd c_6 (by decide)
  · exact absurd rfl c_5
set_option maxRecDepth 20000 in
theorem gL_law_X11_count : GoodIn lw_tbl (wsV RL 152 RX11 yX11_count wsX11_count) := tz_good [(43, 16), (43, 17), (43, 18), (0, 2), (43, 19), (7, 4), (7, 5), (0, 2), (7, 6), (7, 7), (7, 8), (7, 9), (7, 10), (7, 11), (7, 12), (7, 13), (7, 14), (2, 6), (43, 20), (43, 21), (43, 22), (43, 23), (1, 10), (7, 3), (5, 20), (11, 15), (36, 14), (2, 4), (5, 21), (5, 22), (5, 23), (3, 4), (6, 0), (3, 15), (44, 0), (44, 1), (44, 2), (1, 9), (44, 3), (3, 10), (46, 0), (46, 1), (46, 2), (46, 3), (46, 4), (46, 5), (46, 6), (46, 7), (46, 8), (46, 9), (46, 10), (46, 11), (54, 0), (54, 1), (54, 2), (54, 3), (54, 4), (54, 5), (58, 0), (58, 1), (58, 2), (58, 3)] (by decide +kernel) (by decide +kernel)
set_option maxRecDepth 20000 in
theorem gL_law_X12_count : GoodIn lw_tbl (wsV RL 155 RX12 yX12_count wsX12_count) := tz_good [(44, 4), (44, 5), (44, 6), (0, 5), (44, 7), (13, 4), (8, 17), (8, 18), (0, 5), (8, 19), (44, 8), (44, 9), (44, 10), (44, 11), (5, 4), (15, 8), (8, 20), (8, 21), (8, 22), (8, 23), (5, 7), (47, 0), (47, 1), (47, 2), (47, 3), (47, 4), (47, 5), (47, 6), (47, 7), (47, 8), (47, 9), (47, 10), (47, 11), (47, 12), (47, 13), (47, 14), (47, 15), (47, 16), (47, 17), (47, 18), (47, 19), (47, 20), (47, 21), (47, 22), (47, 23)] (by decide +kernel) (by decide +kernel)
theorem dL_law_1118 : decode cL_law 1118 = .ok (.aload_n 1, 1) := by decide +kernel
theorem dL_law_1119 : decode cL_law 1119 = .ok (.aload_n 0, 1) := by decide +kernel
theorem dL_law_1120 : decode cL_law 1120 = .ok (.iload_n 3, 1) := by decide +kernel
theorem dL_law_1121 : decode cL_law 1121 = .ok (.iconst 1, 1) := by decide +kernel
theorem dL_law_1122 : decode cL_law 1122 = .ok (.iadd, 1) := by decide +kernel
theorem dL_law_1123 : decode cL_law 1123 = .ok (.iaload, 1) := by decide +kernel
theorem dL_law_1124 : decode cL_law 1124 = .ok (.invokevirtual 152, 3) := by decide +kernel
theorem dL_law_1127 : decode cL_law 1127 = .ok (.aload_n 2, 1) := by decide +kernel
theorem dL_law_1128 : decode cL_law 1128 = .ok (.aload_n 0, 1) := by decide +kernel
theorem dL_law_1129 : decode cL_law 1129 = .ok (.iload_n 3, 1) := by decide +kernel
theorem dL_law_1130 : decode cL_law 1130 = .ok (.iconst 1, 1) := by decide +kernel
theorem dL_law_1131 : decode cL_law 1131 = .ok (.iadd, 1) := by decide +kernel
theorem dL_law_1132 : decode cL_law 1132 = .ok (.iaload, 1) := by decide +kernel
theorem dL_law_1133 : decode cL_law 1133 = .ok (.invokevirtual 155, 3) := by decide +kernel
theorem dL_law_1136 : decode cL_law 1136 = .ok (.if_icmp .eq 19, 3) := by decide +kernel
set_option maxHeartbeats 4000000 in
set_option maxRecDepth 100000 in
theorem lc_count {p : Program} {l : Launch} {e : Env} {s : State} {m : MethodId} {below : List Frame} {meth : Method} {c : Code} {b : Nat} {xs : Nat → Int32} (C0 : lw_At p s m meth c b 6 xs) (hN : tz_N s) (A : Nat → Prop) (hA : ∀ q : Nat, s.heap.size ≤ q → A q) (hA2 : ∀ q : Nat, A q → s.heap.size ≤ q) (hbA : ¬ A b) (dC : Nat → ClassId) (dI : Nat → Nat → Nat) (o : Nat) (aw : Nat) (bk : Nat) (ai : Nat) (ak : Nat) (sc : Nat) (rd : Nat) (fo : Nat) (tx : Nat) (ar : Nat) (atr : Nat) (ao : Nat) (rk0 : Nat) (rk1 : Nat) (rk2 : Nat) (rk3 : Nat) (eak : Nat) (cak0 : Nat) (cak1 : Nat) (cak2 : Nat) (cak3 : Nat) (cr : ClassId) (mo : Nat) (nw : Nat) (kp : Nat) (ik : Nat) (mr : Nat) (mw : Nat) (mq : Nat) (mz : Nat) (my : Nat) (mb : Nat) (mx : Nat) (mv : Nat) (cn : ClassId) (cm : ClassId) (H : Heap) (locs : List Loc) (hK : va_K (dC, dI) vwCl [(cr, .int), (cn, .int), (cm, .int)] s) (hP : va_P (dC, dI) vwCl [(o, .inr (11, [.ref aw, .ref bk, .ref ai, .ref ak, .ref sc, .ref rd, .ref fo, .ref tx, .int 0, .ref ar, .ref atr, .ref ao])), (bk, .inr (0, [.ref rk0, .ref rk1, .ref rk2, .ref rk3, .ref eak, .int 0])), (rk0, .inr (6, [.int 1, .int 5, .ref cak0, .int 0])), (rk1, .inr (6, [.int 4, .int 5, .ref cak1, .int 0])), (rk2, .inr (6, [.int 4, .int 8, .ref cak2, .int 0])), (rk3, .inr (6, [.int 4, .int 6, .ref cak3, .int 0])), (ar, .inl (cr, 3, .inl (fun _ => 0))), (mo, .inr (12, [.ref nw, .ref kp, .ref ik, .ref mr, .long 0, .long 1, .ref mw, .long 0, .int 0, .int 0, .long 0, .long 0, .ref mq, .ref mz, .ref my, .int 0, .ref mb, .int 0, .int 0, .int 0, .int 0, .int 0, .ref mx, .ref mv])), (nw, .inl (cn, 350, .inl (fun _ => 0))), (mr, .inl (cm, 3, .inl (fun _ => 0)))] H) (hD : va_D A [(o, .inr (11, [.ref aw, .ref bk, .ref ai, .ref ak, .ref sc, .ref rd, .ref fo, .ref tx, .int 0, .ref ar, .ref atr, .ref ao])), (bk, .inr (0, [.ref rk0, .ref rk1, .ref rk2, .ref rk3, .ref eak, .int 0])), (rk0, .inr (6, [.int 1, .int 5, .ref cak0, .int 0])), (rk1, .inr (6, [.int 4, .int 5, .ref cak1, .int 0])), (rk2, .inr (6, [.int 4, .int 8, .ref cak2, .int 0])), (rk3, .inr (6, [.int 4, .int 6, .ref cak3, .int 0])), (ar, .inl (cr, 3, .inl (fun _ => 0))), (mo, .inr (12, [.ref nw, .ref kp, .ref ik, .ref mr, .long 0, .long 1, .ref mw, .long 0, .int 0, .int 0, .long 0, .long 0, .ref mq, .ref mz, .ref my, .int 0, .ref mb, .int 0, .int 0, .int 0, .int 0, .int 0, .ref mx, .ref mv])), (nw, .inl (cn, 350, .inl (fun _ => 0))), (mr, .inl (cm, 3, .inl (fun _ => 0)))]) (hS : va_S A s.heap H locs) (ls : Array Slot) (hl : lv_has ls 4 [(3, .int 0), (2, .ref mo), (1, .ref o), (0, .ref b)]) : W p l e room_1 s m #[Value.ref b] below meth c H locs 136 3195 (lw_Z below #[Value.ref b] s) (F0 m 1118 ls []) := by
  obtain ⟨hx, hb, hr, hml, hown, hts, hX, hbl, hlocks, hgv⟩ := C0
  have hb : c.code = cL_law := hb
  have hown : s.vm.findClass RL = some m.cls := hown
  refine lv_aload_n hx hb dL_law_1118 rfl (lv_at hl 2 rfl) ?_
  refine lv_aload_n hx hb dL_law_1119 rfl (lv_at hl 3 rfl) ?_
  refine lv_iload_n hx hb dL_law_1120 rfl (lv_at hl 0 rfl) ?_
  refine lv_iconst (v := 1) hx hb dL_law_1121 (by decide) ?_
  refine lv_iadd hx hb dL_law_1122 ?_
  refine tz_i 1 (by decide) ?_
  refine va_sld hx hb hX hbl hbA hS (show ¬ ((1 : Int32) < 0 ∨ 6 ≤ (1 : Int32).toNatClampNeg) by decide) dL_law_1123 ?_
  refine tz_i (xs 1) rfl ?_
  have hPc := hP.sub (ws' := [(o, .inr (11, [.ref aw, .ref bk, .ref ai, .ref ak, .ref sc, .ref rd, .ref fo, .ref tx, .int 0, .ref ar, .ref atr, .ref ao])), (bk, .inr (0, [.ref rk0, .ref rk1, .ref rk2, .ref rk3, .ref eak, .int 0])), (rk0, .inr (6, [.int 1, .int 5, .ref cak0, .int 0])), (rk1, .inr (6, [.int 4, .int 5, .ref cak1, .int 0])), (rk2, .inr (6, [.int 4, .int 8, .ref cak2, .int 0])), (rk3, .inr (6, [.int 4, .int 6, .ref cak3, .int 0])), (ar, .inl (cr, 3, .inl (fun _ => 0)))]) [0, 1, 2, 3, 4, 5, 6] rfl
  have hDc := hD.sub (ws' := [(o, .inr (11, [.ref aw, .ref bk, .ref ai, .ref ak, .ref sc, .ref rd, .ref fo, .ref tx, .int 0, .ref ar, .ref atr, .ref ao])), (bk, .inr (0, [.ref rk0, .ref rk1, .ref rk2, .ref rk3, .ref eak, .int 0])), (rk0, .inr (6, [.int 1, .int 5, .ref cak0, .int 0])), (rk1, .inr (6, [.int 4, .int 5, .ref cak1, .int 0])), (rk2, .inr (6, [.int 4, .int 8, .ref cak2, .int 0])), (rk3, .inr (6, [.int 4, .int 6, .ref cak3, .int 0])), (ar, .inl (cr, 3, .inl (fun _ => 0)))]) [0, 1, 2, 3, 4, 5, 6] (by decide) rfl
  have hKc := hK.sub (tys' := [(cr, .int)]) [0] rfl
  have hFc := va_free (wc := [(o, .inr (11, [.ref aw, .ref bk, .ref ai, .ref ak, .ref sc, .ref rd, .ref fo, .ref tx, .int 0, .ref ar, .ref atr, .ref ao])), (bk, .inr (0, [.ref rk0, .ref rk1, .ref rk2, .ref rk3, .ref eak, .int 0])), (rk0, .inr (6, [.int 1, .int 5, .ref cak0, .int 0])), (rk1, .inr (6, [.int 4, .int 5, .ref cak1, .int 0])), (rk2, .inr (6, [.int 4, .int 8, .ref cak2, .int 0])), (rk3, .inr (6, [.int 4, .int 6, .ref cak3, .int 0])), (ar, .inl (cr, 3, .inl (fun _ => 0)))]) hD hS hA [0, 1, 2, 3, 4, 5, 6] rfl
  refine va_calli (va_runV (As := [.int (xs 1)]) (rest := []) ⟨hx, hb, hml, hown, hts⟩ (k_x_count l dC dI o aw bk ai ak sc rd fo tx ar atr ao rk0 rk1 rk2 rk3 eak cak0 cak1 cak2 cak3 cr (xs 1) H.size) (cwV 1 hts gL_law_X11_count rfl rfl rfl (by decide +kernel) ⟨Nat.le_of_ble_eq_true rfl, Nat.le_of_ble_eq_true rfl⟩) ⟨fun a U g mk q => by obtain ⟨q0, q1, qP, qK, qD⟩ := q; exact ⟨q0, q1, qP, va_K.moved (u := U) (U := U.calling g mk a) (Vm.Alike.refl U.vm) qK, qD⟩, va_recv hK hP (ci := 11) (q0 := 0) rfl rfl, fun U hU hW => ⟨rfl, by rw [hU], by rw [hU]; exact hPc, va_K.moved hW.alike hKc, hDc.weaken (fun _ _ _ _ => trivial)⟩⟩ rfl rfl hl.1 rfl (lv_room (Nat.le_of_ble_eq_true rfl)) dL_law_1124 ⟨Nat.le_of_ble_eq_true rfl, Nat.le_of_ble_eq_true rfl⟩) hS (fun q _ h => hFc q h) hFc (fun r_1 u_ t H1 locs ht hvm hw_2 hB hz1 hk1 hS => ?_)
  obtain ⟨hP, hD⟩ := va_join (wr := [(mo, .inr (12, [.ref nw, .ref kp, .ref ik, .ref mr, .long 0, .long 1, .ref mw, .long 0, .int 0, .int 0, .long 0, .long 0, .ref mq, .ref mz, .ref my, .int 0, .ref mb, .int 0, .int 0, .int 0, .int 0, .int 0, .ref mx, .ref mv])), (nw, .inl (cn, 350, .inl (fun _ => 0))), (mr, .inl (cm, 3, .inl (fun _ => 0)))]) (w1 := []) hP hD [0, 1, 2, 3, 4, 5, 6] [7, 8, 9] rfl rfl (by decide) (by decide) hk1 hFc tz_P0 tz_D0
  generalize H1 = H at hP hS ⊢
  have hP : va_P (dC, dI) vwCl [(mo, .inr (12, [.ref nw, .ref kp, .ref ik, .ref mr, .long 0, .long 1, .ref mw, .long 0, .int 0, .int 0, .long 0, .long 0, .ref mq, .ref mz, .ref my, .int 0, .ref mb, .int 0, .int 0, .int 0, .int 0, .int 0, .ref mx, .ref mv])), (nw, .inl (cn, 350, .inl (fun _ => 0))), (mr, .inl (cm, 3, .inl (fun _ => 0)))] H := hP
  have hD : va_D A [(mo, .inr (12, [.ref nw, .ref kp, .ref ik, .ref mr, .long 0, .long 1, .ref mw, .long 0, .int 0, .int 0, .long 0, .long 0, .ref mq, .ref mz, .ref my, .int 0, .ref mb, .int 0, .int 0, .int 0, .int 0, .int 0, .ref mx, .ref mv])), (nw, .inl (cn, 350, .inl (fun _ => 0))), (mr, .inl (cm, 3, .inl (fun _ => 0)))] := hD
  obtain rfl : (if 0 ≤ (xs 1) ∧ (xs 1) ≤ 5 then 0 else (-2)) = r_1 := hw_2.symm
  refine lv_aload_n hx hb dL_law_1127 rfl (lv_at hl 1 rfl) ?_
  refine lv_aload_n hx hb dL_law_1128 rfl (lv_at hl 3 rfl) ?_
  refine lv_iload_n hx hb dL_law_1129 rfl (lv_at hl 0 rfl) ?_
  refine lv_iconst (v := 1) hx hb dL_law_1130 (by decide) ?_
  refine lv_iadd hx hb dL_law_1131 ?_
  refine tz_i 1 (by decide) ?_
  refine va_sld hx hb hX hbl hbA hS (show ¬ ((1 : Int32) < 0 ∨ 6 ≤ (1 : Int32).toNatClampNeg) by decide) dL_law_1132 ?_
  refine tz_i (xs 1) rfl ?_
  have hPc := hP.sub (ws' := [(mo, .inr (12, [.ref nw, .ref kp, .ref ik, .ref mr, .long 0, .long 1, .ref mw, .long 0, .int 0, .int 0, .long 0, .long 0, .ref mq, .ref mz, .ref my, .int 0, .ref mb, .int 0, .int 0, .int 0, .int 0, .int 0, .ref mx, .ref mv])), (nw, .inl (cn, 350, .inl (fun _ => 0))), (mr, .inl (cm, 3, .inl (fun _ => 0)))]) [0, 1, 2] rfl
  have hDc := hD.sub (ws' := [(mo, .inr (12, [.ref nw, .ref kp, .ref ik, .ref mr, .long 0, .long 1, .ref mw, .long 0, .int 0, .int 0, .long 0, .long 0, .ref mq, .ref mz, .ref my, .int 0, .ref mb, .int 0, .int 0, .int 0, .int 0, .int 0, .ref mx, .ref mv])), (nw, .inl (cn, 350, .inl (fun _ => 0))), (mr, .inl (cm, 3, .inl (fun _ => 0)))]) [0, 1, 2] (by decide) rfl
  have hKc := hK.sub (tys' := [(cn, .int), (cm, .int)]) [1, 2] rfl
  have hFc := va_free (wc := [(mo, .inr (12, [.ref nw, .ref kp, .ref ik, .ref mr, .long 0, .long 1, .ref mw, .long 0, .int 0, .int 0, .long 0, .long 0, .ref mq, .ref mz, .ref my, .int 0, .ref mb, .int 0, .int 0, .int 0, .int 0, .int 0, .ref mx, .ref mv])), (nw, .inl (cn, 350, .inl (fun _ => 0))), (mr, .inl (cm, 3, .inl (fun _ => 0)))]) hD hS hA [0, 1, 2] rfl
  refine va_calli (va_runV (As := [.int (xs 1)]) (rest := [.int (if 0 ≤ (xs 1) ∧ (xs 1) ≤ 5 then 0 else (-2))]) ⟨hx, hb, hml, hown, hts⟩ (k_m_count l dC dI mo nw kp ik mr mw mq mz my mb mx mv cn cm (xs 1) H.size) (cwV 1 hts gL_law_X12_count rfl rfl rfl (by decide +kernel) ⟨Nat.le_of_ble_eq_true rfl, Nat.le_of_ble_eq_true rfl⟩) ⟨fun a U g mk q => by obtain ⟨q0, q1, qP, qK, qD⟩ := q; exact ⟨q0, q1, qP, va_K.moved (u := U) (U := U.calling g mk a) (Vm.Alike.refl U.vm) qK, qD⟩, va_recv hK hP (ci := 12) (q0 := 0) rfl rfl, fun U hU hW => ⟨rfl, by rw [hU], by rw [hU]; exact hPc, va_K.moved hW.alike hKc, hDc.weaken (fun _ _ _ _ => trivial)⟩⟩ rfl rfl hl.1 rfl (lv_room (Nat.le_of_ble_eq_true rfl)) dL_law_1133 ⟨Nat.le_of_ble_eq_true rfl, Nat.le_of_ble_eq_true rfl⟩) hS (fun q _ h => hFc q h) hFc (fun r_3 u_ t H1 locs ht hvm hw_4 hB hz1 hk1 hS => ?_)
  obtain ⟨hP, hD⟩ := va_join (wr := []) (w1 := []) hP hD [0, 1, 2] [] rfl rfl (by decide) (by decide) hk1 hFc tz_P0 tz_D0
  generalize H1 = H at hP hS ⊢
  have hP : va_P (dC, dI) vwCl [] H := hP
  have hD : va_D A [] := hD
  obtain rfl : (if 0 ≤ (xs 1) ∧ (xs 1) ≤ 5 then 0 else (-2)) = r_3 := hw_4.symm
  refine lv_icmp_eq (tgt := 1155) hx hb dL_law_1136 (by decide) (fun c_5 => ?_) (fun c_5 => ?_)
  · refine lv_iinc (v := 6) (lv' := [(3, .int 6), (2, .ref mo), (1, .ref o), (0, .ref b)]) hx hb dL_law_1155 hl (k := 0) rfl (by decide) (by decide) rfl (fun ls hl => ?_)
    refine lv_goto (tgt := 18) hx hb dL_law_1158 (by decide) ?_
    refine lv_iload_n hx hb dL_law_18 rfl (lv_at hl 0 rfl) ?_
    refine lv_aload_n hx hb dL_law_19 rfl (lv_at hl 3 rfl) ?_
    refine va_slen hx hb hX hbl hbA hS dL_law_20 ?_
    refine tz_i 6 rfl ?_
    refine lv_bipush (v := 6) hx hb dL_law_21 (by decide) ?_
    refine lv_isub hx hb dL_law_23 ?_
    refine tz_i 0 (by decide) ?_
    refine lv_icmp_gt (tgt := 1161) hx hb dL_law_24 (by decide) (fun c_6 => ?_) (fun c_6 => ?_)
    · refine lv_iconst (v := 1) hx hb dL_law_1161 (by decide) ?_
      refine va_forget (fun q hq => hA2 _ (hS.2.2 q hq)) ?_
      refine W.widen (k := 600000) (n := 7302250) (Nat.le_of_ble_eq_true rfl) (Nat.le_of_ble_eq_true rfl) ?_
      exact lw_ret hx hb hr hlocks dL_law_1162
    · exact absurd c_6 (by decide)
  · exact absurd rfl c_5
set_option maxRecDepth 20000 in
theorem gL_law_X11_digest : GoodIn lw_tbl (wsV RL 156 RX11 yX11_digest wsX11_digest) := tz_good [(44, 12), (44, 13), (44, 14), (0, 2), (44, 15), (44, 16), (44, 17), (1, 10), (7, 3), (5, 20), (11, 15), (36, 14), (2, 1), (43, 20), (43, 21), (43, 22), (0, 2), (43, 23), (2, 4), (5, 21), (5, 22), (5, 23), (3, 4), (6, 0), (3, 15), (44, 0), (44, 1), (44, 2), (1, 9), (44, 3), (3, 10), (44, 18), (44, 19), (44, 20), (44, 21), (3, 21), (3, 22), (44, 22), (42, 0), (42, 1), (42, 2), (2, 0), (42, 3), (4, 22), (42, 4), (42, 5), (42, 6), (42, 7), (4, 23), (46, 0), (46, 1), (46, 2), (46, 3), (46, 4), (46, 5), (46, 6), (46, 7), (46, 8), (46, 9), (46, 10), (46, 11), (54, 0), (54, 1), (54, 2), (54, 3), (54, 4), (54, 5), (58, 0), (58, 1), (58, 2), (58, 3), (57, 0), (57, 1)] (by decide +kernel) (by decide +kernel)
set_option maxRecDepth 20000 in
theorem gL_law_X12_digest : GoodIn lw_tbl (wsV RL 160 RX12 yX12_digest wsX12_digest) := tz_good [(44, 23), (45, 0), (45, 1), (0, 5), (45, 2), (45, 3), (45, 4), (5, 4), (31, 6), (5, 8), (44, 8), (44, 9), (44, 10), (0, 5), (44, 11), (15, 8), (45, 5), (45, 6), (45, 7), (45, 8), (47, 0), (47, 1), (47, 2), (47, 3), (47, 4), (47, 5), (47, 6), (47, 7), (47, 8), (47, 9), (47, 10), (47, 11), (47, 12), (47, 13), (47, 14), (47, 15), (47, 16), (47, 17), (47, 18), (47, 19), (47, 20), (47, 21), (47, 22), (47, 23)] (by decide +kernel) (by decide +kernel)
theorem dL_law_1141 : decode cL_law 1141 = .ok (.aload_n 1, 1) := by decide +kernel
theorem dL_law_1142 : decode cL_law 1142 = .ok (.invokevirtual 156, 3) := by decide +kernel
theorem dL_law_1145 : decode cL_law 1145 = .ok (.aload_n 2, 1) := by decide +kernel
theorem dL_law_1146 : decode cL_law 1146 = .ok (.invokevirtual 160, 3) := by decide +kernel
theorem dL_law_1149 : decode cL_law 1149 = .ok (.lcmp, 1) := by decide +kernel
theorem dL_law_1150 : decode cL_law 1150 = .ok (.ifCond .eq 5, 3) := by decide +kernel
set_option maxHeartbeats 4000000 in
set_option maxRecDepth 100000 in
theorem lc_digest {p : Program} {l : Launch} {e : Env} {s : State} {m : MethodId} {below : List Frame} {meth : Method} {c : Code} {b : Nat} {xs : Nat → Int32} (C0 : lw_At p s m meth c b 6 xs) (hN : tz_N s) (A : Nat → Prop) (hA : ∀ q : Nat, s.heap.size ≤ q → A q) (hA2 : ∀ q : Nat, A q → s.heap.size ≤ q) (hbA : ¬ A b) (dC : Nat → ClassId) (dI : Nat → Nat → Nat) (o : Nat) (aw : Nat) (bk : Nat) (ai : Nat) (ak : Nat) (sc : Nat) (rd : Nat) (fo : Nat) (tx : Nat) (ar : Nat) (atr : Nat) (ao : Nat) (rk0 : Nat) (rk1 : Nat) (rk2 : Nat) (rk3 : Nat) (eak : Nat) (cak0 : Nat) (cak1 : Nat) (cak2 : Nat) (cak3 : Nat) (mo : Nat) (nw : Nat) (kp : Nat) (ik : Nat) (mr : Nat) (mw : Nat) (mq : Nat) (mz : Nat) (my : Nat) (mb : Nat) (mx : Nat) (mv : Nat) (cn : ClassId) (H : Heap) (locs : List Loc) (hK : va_K (dC, dI) vwCl [(cn, .int)] s) (hP : va_P (dC, dI) vwCl [(o, .inr (11, [.ref aw, .ref bk, .ref ai, .ref ak, .ref sc, .ref rd, .ref fo, .ref tx, .int 0, .ref ar, .ref atr, .ref ao])), (bk, .inr (0, [.ref rk0, .ref rk1, .ref rk2, .ref rk3, .ref eak, .int 0])), (rk0, .inr (6, [.int 1, .int 5, .ref cak0, .int 0])), (rk1, .inr (6, [.int 4, .int 5, .ref cak1, .int 0])), (rk2, .inr (6, [.int 4, .int 8, .ref cak2, .int 0])), (rk3, .inr (6, [.int 4, .int 6, .ref cak3, .int 0])), (fo, .inr (2, [.long 0, .long 1])), (mo, .inr (12, [.ref nw, .ref kp, .ref ik, .ref mr, .long 0, .long 1, .ref mw, .long 0, .int 0, .int 0, .long 0, .long 0, .ref mq, .ref mz, .ref my, .int 0, .ref mb, .int 0, .int 0, .int 0, .int 0, .int 0, .ref mx, .ref mv])), (nw, .inl (cn, 350, .inl (fun _ => 0)))] H) (hD : va_D A [(o, .inr (11, [.ref aw, .ref bk, .ref ai, .ref ak, .ref sc, .ref rd, .ref fo, .ref tx, .int 0, .ref ar, .ref atr, .ref ao])), (bk, .inr (0, [.ref rk0, .ref rk1, .ref rk2, .ref rk3, .ref eak, .int 0])), (rk0, .inr (6, [.int 1, .int 5, .ref cak0, .int 0])), (rk1, .inr (6, [.int 4, .int 5, .ref cak1, .int 0])), (rk2, .inr (6, [.int 4, .int 8, .ref cak2, .int 0])), (rk3, .inr (6, [.int 4, .int 6, .ref cak3, .int 0])), (fo, .inr (2, [.long 0, .long 1])), (mo, .inr (12, [.ref nw, .ref kp, .ref ik, .ref mr, .long 0, .long 1, .ref mw, .long 0, .int 0, .int 0, .long 0, .long 0, .ref mq, .ref mz, .ref my, .int 0, .ref mb, .int 0, .int 0, .int 0, .int 0, .int 0, .ref mx, .ref mv])), (nw, .inl (cn, 350, .inl (fun _ => 0)))]) (hS : va_S A s.heap H locs) (ls : Array Slot) (hl : lv_has ls 4 [(3, .int 0), (2, .ref mo), (1, .ref o), (0, .ref b)]) : W p l e room_1 s m #[Value.ref b] below meth c H locs 136 3195 (lw_Z below #[Value.ref b] s) (F0 m 1141 ls []) := by
  obtain ⟨hx, hb, hr, hml, hown, hts, hX, hbl, hlocks, hgv⟩ := C0
  have hb : c.code = cL_law := hb
  have hown : s.vm.findClass RL = some m.cls := hown
  refine lv_aload_n hx hb dL_law_1141 rfl (lv_at hl 2 rfl) ?_
  have hPc := hP.sub (ws' := [(o, .inr (11, [.ref aw, .ref bk, .ref ai, .ref ak, .ref sc, .ref rd, .ref fo, .ref tx, .int 0, .ref ar, .ref atr, .ref ao])), (bk, .inr (0, [.ref rk0, .ref rk1, .ref rk2, .ref rk3, .ref eak, .int 0])), (rk0, .inr (6, [.int 1, .int 5, .ref cak0, .int 0])), (rk1, .inr (6, [.int 4, .int 5, .ref cak1, .int 0])), (rk2, .inr (6, [.int 4, .int 8, .ref cak2, .int 0])), (rk3, .inr (6, [.int 4, .int 6, .ref cak3, .int 0])), (fo, .inr (2, [.long 0, .long 1]))]) [0, 1, 2, 3, 4, 5, 6] rfl
  have hDc := hD.sub (ws' := [(o, .inr (11, [.ref aw, .ref bk, .ref ai, .ref ak, .ref sc, .ref rd, .ref fo, .ref tx, .int 0, .ref ar, .ref atr, .ref ao])), (bk, .inr (0, [.ref rk0, .ref rk1, .ref rk2, .ref rk3, .ref eak, .int 0])), (rk0, .inr (6, [.int 1, .int 5, .ref cak0, .int 0])), (rk1, .inr (6, [.int 4, .int 5, .ref cak1, .int 0])), (rk2, .inr (6, [.int 4, .int 8, .ref cak2, .int 0])), (rk3, .inr (6, [.int 4, .int 6, .ref cak3, .int 0])), (fo, .inr (2, [.long 0, .long 1]))]) [0, 1, 2, 3, 4, 5, 6] (by decide) rfl
  have hKc := hK.sub (tys' := []) [] rfl
  have hFc := va_free (wc := [(o, .inr (11, [.ref aw, .ref bk, .ref ai, .ref ak, .ref sc, .ref rd, .ref fo, .ref tx, .int 0, .ref ar, .ref atr, .ref ao])), (bk, .inr (0, [.ref rk0, .ref rk1, .ref rk2, .ref rk3, .ref eak, .int 0])), (rk0, .inr (6, [.int 1, .int 5, .ref cak0, .int 0])), (rk1, .inr (6, [.int 4, .int 5, .ref cak1, .int 0])), (rk2, .inr (6, [.int 4, .int 8, .ref cak2, .int 0])), (rk3, .inr (6, [.int 4, .int 6, .ref cak3, .int 0])), (fo, .inr (2, [.long 0, .long 1]))]) hD hS hA [0, 1, 2, 3, 4, 5, 6] rfl
  refine va_calll (va_runV (As := []) (rest := []) ⟨hx, hb, hml, hown, hts⟩ (k_x_digest l dC dI o aw bk ai ak sc rd fo tx ar atr ao rk0 rk1 rk2 rk3 eak cak0 cak1 cak2 cak3 H.size) (cwV 0 hts gL_law_X11_digest rfl rfl rfl (by decide +kernel) ⟨Nat.le_of_ble_eq_true rfl, Nat.le_of_ble_eq_true rfl⟩) ⟨fun a U g mk q => by obtain ⟨q0, q1, qP, qK, qD⟩ := q; exact ⟨q0, q1, qP, va_K.moved (u := U) (U := U.calling g mk a) (Vm.Alike.refl U.vm) qK, qD⟩, va_recv hK hP (ci := 11) (q0 := 0) rfl rfl, fun U hU hW => ⟨rfl, by rw [hU], by rw [hU]; exact hPc, va_K.moved hW.alike hKc, hDc.weaken (fun _ _ _ _ => trivial)⟩⟩ rfl rfl hl.1 rfl (lv_room (Nat.le_of_ble_eq_true rfl)) dL_law_1142 ⟨Nat.le_of_ble_eq_true rfl, Nat.le_of_ble_eq_true rfl⟩) hS (fun q _ h => hFc q h) hFc (fun r_1 u_ t H1 locs ht hvm hw_2 hB hz1 hk1 hS => ?_)
  obtain ⟨hP, hD⟩ := va_join (wr := [(mo, .inr (12, [.ref nw, .ref kp, .ref ik, .ref mr, .long 0, .long 1, .ref mw, .long 0, .int 0, .int 0, .long 0, .long 0, .ref mq, .ref mz, .ref my, .int 0, .ref mb, .int 0, .int 0, .int 0, .int 0, .int 0, .ref mx, .ref mv])), (nw, .inl (cn, 350, .inl (fun _ => 0)))]) (w1 := []) hP hD [0, 1, 2, 3, 4, 5, 6] [7, 8] rfl rfl (by decide) (by decide) hk1 hFc tz_P0 tz_D0
  generalize H1 = H at hP hS ⊢
  have hP : va_P (dC, dI) vwCl [(mo, .inr (12, [.ref nw, .ref kp, .ref ik, .ref mr, .long 0, .long 1, .ref mw, .long 0, .int 0, .int 0, .long 0, .long 0, .ref mq, .ref mz, .ref my, .int 0, .ref mb, .int 0, .int 0, .int 0, .int 0, .int 0, .ref mx, .ref mv])), (nw, .inl (cn, 350, .inl (fun _ => 0)))] H := hP
  have hD : va_D A [(mo, .inr (12, [.ref nw, .ref kp, .ref ik, .ref mr, .long 0, .long 1, .ref mw, .long 0, .int 0, .int 0, .long 0, .long 0, .ref mq, .ref mz, .ref my, .int 0, .ref mb, .int 0, .int 0, .int 0, .int 0, .int 0, .ref mx, .ref mv])), (nw, .inl (cn, 350, .inl (fun _ => 0)))] := hD
  obtain rfl : 799158902082218 = r_1 := hw_2.symm
  refine lv_aload_n hx hb dL_law_1145 rfl (lv_at hl 1 rfl) ?_
  have hPc := hP.sub (ws' := [(mo, .inr (12, [.ref nw, .ref kp, .ref ik, .ref mr, .long 0, .long 1, .ref mw, .long 0, .int 0, .int 0, .long 0, .long 0, .ref mq, .ref mz, .ref my, .int 0, .ref mb, .int 0, .int 0, .int 0, .int 0, .int 0, .ref mx, .ref mv])), (nw, .inl (cn, 350, .inl (fun _ => 0)))]) [0, 1] rfl
  have hDc := hD.sub (ws' := [(mo, .inr (12, [.ref nw, .ref kp, .ref ik, .ref mr, .long 0, .long 1, .ref mw, .long 0, .int 0, .int 0, .long 0, .long 0, .ref mq, .ref mz, .ref my, .int 0, .ref mb, .int 0, .int 0, .int 0, .int 0, .int 0, .ref mx, .ref mv])), (nw, .inl (cn, 350, .inl (fun _ => 0)))]) [0, 1] (by decide) rfl
  have hKc := hK.sub (tys' := [(cn, .int)]) [0] rfl
  have hFc := va_free (wc := [(mo, .inr (12, [.ref nw, .ref kp, .ref ik, .ref mr, .long 0, .long 1, .ref mw, .long 0, .int 0, .int 0, .long 0, .long 0, .ref mq, .ref mz, .ref my, .int 0, .ref mb, .int 0, .int 0, .int 0, .int 0, .int 0, .ref mx, .ref mv])), (nw, .inl (cn, 350, .inl (fun _ => 0)))]) hD hS hA [0, 1] rfl
  refine va_calll (va_runV (As := []) (rest := [.long 799158902082218]) ⟨hx, hb, hml, hown, hts⟩ (k_m_digest l dC dI mo nw kp ik mr mw mq mz my mb mx mv cn H.size) (cwV 0 hts gL_law_X12_digest rfl rfl rfl (by decide +kernel) ⟨Nat.le_of_ble_eq_true rfl, Nat.le_of_ble_eq_true rfl⟩) ⟨fun a U g mk q => by obtain ⟨q0, q1, qP, qK, qD⟩ := q; exact ⟨q0, q1, qP, va_K.moved (u := U) (U := U.calling g mk a) (Vm.Alike.refl U.vm) qK, qD⟩, va_recv hK hP (ci := 12) (q0 := 0) rfl rfl, fun U hU hW => ⟨rfl, by rw [hU], by rw [hU]; exact hPc, va_K.moved hW.alike hKc, hDc.weaken (fun _ _ _ _ => trivial)⟩⟩ rfl rfl hl.1 rfl (lv_room (Nat.le_of_ble_eq_true rfl)) dL_law_1146 ⟨Nat.le_of_ble_eq_true rfl, Nat.le_of_ble_eq_true rfl⟩) hS (fun q _ h => hFc q h) hFc (fun r_3 u_ t H1 locs ht hvm hw_4 hB hz1 hk1 hS => ?_)
  obtain ⟨hP, hD⟩ := va_join (wr := []) (w1 := []) hP hD [0, 1] [] rfl rfl (by decide) (by decide) hk1 hFc tz_P0 tz_D0
  generalize H1 = H at hP hS ⊢
  have hP : va_P (dC, dI) vwCl [] H := hP
  have hD : va_D A [] := hD
  obtain rfl : 799158902082218 = r_3 := hw_4.symm
  refine W.lcmp hx hb dL_law_1149 ?_
  refine tz_i 0 (by decide) ?_
  refine lv_if_eq (tgt := 1155) hx hb dL_law_1150 (by decide) (fun c_5 => ?_) (fun c_5 => ?_)
  · refine lv_iinc (v := 6) (lv' := [(3, .int 6), (2, .ref mo), (1, .ref o), (0, .ref b)]) hx hb dL_law_1155 hl (k := 0) rfl (by decide) (by decide) rfl (fun ls hl => ?_)
    refine lv_goto (tgt := 18) hx hb dL_law_1158 (by decide) ?_
    refine lv_iload_n hx hb dL_law_18 rfl (lv_at hl 0 rfl) ?_
    refine lv_aload_n hx hb dL_law_19 rfl (lv_at hl 3 rfl) ?_
    refine va_slen hx hb hX hbl hbA hS dL_law_20 ?_
    refine tz_i 6 rfl ?_
    refine lv_bipush (v := 6) hx hb dL_law_21 (by decide) ?_
    refine lv_isub hx hb dL_law_23 ?_
    refine tz_i 0 (by decide) ?_
    refine lv_icmp_gt (tgt := 1161) hx hb dL_law_24 (by decide) (fun c_6 => ?_) (fun c_6 => ?_)
    · refine lv_iconst (v := 1) hx hb dL_law_1161 (by decide) ?_
      refine va_forget (fun q hq => hA2 _ (hS.2.2 q hq)) ?_
      refine W.widen (k := 600000) (n := 7302250) (Nat.le_of_ble_eq_true rfl) (Nat.le_of_ble_eq_true rfl) ?_
      exact lw_ret hx hb hr hlocks dL_law_1162
    · exact absurd c_6 (by decide)
  · exact absurd c_5 (by decide)
