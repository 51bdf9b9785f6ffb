set_option maxRecDepth 20000 in
theorem gL_law_X11_bank : GoodIn lw_tbl (wsV RL 13 RX11 yX11_bank wsX11_bank) := tz_good [(5, 16), (5, 17), (5, 18), (0, 2), (5, 19), (1, 10), (5, 20), (2, 4), (2, 1), (1, 13), (2, 6), (5, 21), (5, 22), (5, 23), (3, 4), (6, 0), (3, 15), (6, 1), (6, 2), (6, 3), (1, 9), (6, 4), (3, 5), (3, 6), (3, 7), (3, 8), (3, 10), (6, 5), (6, 6), (6, 7), (6, 8), (6, 9), (6, 10), (6, 11), (2, 0), (6, 12), (4, 22), (4, 23), (6, 13), (6, 14), (6, 15), (46, 0), (46, 1), (46, 2), (46, 3), (46, 4), (46, 5), (46, 6), (46, 7), (46, 8), (46, 9), (46, 10), (46, 11), (54, 0), (54, 1), (54, 2), (54, 3), (54, 4), (54, 5), (58, 0), (58, 1), (58, 2), (58, 3), (57, 0), (57, 1)] (by decide +kernel) (by decide +kernel)
set_option maxRecDepth 20000 in
theorem gL_law_X12_bank : GoodIn lw_tbl (wsV RL 17 RX12 yX12_bank wsX12_bank) := tz_good [(6, 16), (6, 17), (6, 18), (0, 5), (6, 19), (5, 4), (6, 20), (6, 21), (0, 5), (6, 22), (47, 0), (47, 1), (47, 2), (47, 3), (47, 4), (47, 5), (47, 6), (47, 7), (47, 8), (47, 9), (47, 10), (47, 11), (47, 12), (47, 13), (47, 14), (47, 15), (47, 16), (47, 17), (47, 18), (47, 19), (47, 20), (47, 21), (47, 22), (47, 23)] (by decide +kernel) (by decide +kernel)
theorem dL_law_188 : decode cL_law 188 = .ok (.aload_n 1, 1) := by decide +kernel
theorem dL_law_189 : decode cL_law 189 = .ok (.invokevirtual 13, 3) := by decide +kernel
theorem dL_law_192 : decode cL_law 192 = .ok (.aload_n 2, 1) := by decide +kernel
theorem dL_law_193 : decode cL_law 193 = .ok (.invokevirtual 17, 3) := by decide +kernel
theorem dL_law_196 : decode cL_law 196 = .ok (.if_icmp .eq 959, 3) := by decide +kernel
theorem dL_law_1155 : decode cL_law 1155 = .ok (.iinc 3 6, 3) := by decide +kernel
theorem dL_law_1158 : decode cL_law 1158 = .ok (.goto (-1140), 3) := by decide +kernel
theorem dL_law_18 : decode cL_law 18 = .ok (.iload_n 3, 1) := by decide +kernel
theorem dL_law_19 : decode cL_law 19 = .ok (.aload_n 0, 1) := by decide +kernel
theorem dL_law_20 : decode cL_law 20 = .ok (.arraylength, 1) := by decide +kernel
theorem dL_law_21 : decode cL_law 21 = .ok (.bipush 6, 2) := by decide +kernel
theorem dL_law_23 : decode cL_law 23 = .ok (.isub, 1) := by decide +kernel
theorem dL_law_24 : decode cL_law 24 = .ok (.if_icmp .gt 1137, 3) := by decide +kernel
theorem dL_law_1161 : decode cL_law 1161 = .ok (.iconst 1, 1) := by decide +kernel
theorem dL_law_1162 : decode cL_law 1162 = .ok (.ireturn, 1) := by decide +kernel
set_option maxHeartbeats 4000000 in
set_option maxRecDepth 100000 in
theorem lc_bank {p : Program} {l : Launch} {e : Env} {s : State} {m : MethodId} {below : List Frame} {meth : Method} {c : Code} {b : Nat} {xs : Nat → Int32} (C0 : lw_At p s m meth c b 6 xs) (hN : tz_N s) (A : Nat → Prop) (hA : ∀ q : Nat, s.heap.size ≤ q → A q) (hA2 : ∀ q : Nat, A q → s.heap.size ≤ q) (hbA : ¬ A b) (dC : Nat → ClassId) (dI : Nat → Nat → Nat) (o : Nat) (aw : Nat) (bk : Nat) (ai : Nat) (ak : Nat) (sc : Nat) (rd : Nat) (fo : Nat) (tx : Nat) (ar : Nat) (atr : Nat) (ao : Nat) (rk0 : Nat) (rk1 : Nat) (rk2 : Nat) (rk3 : Nat) (eak : Nat) (cak0 : Nat) (cak1 : Nat) (cak2 : Nat) (cak3 : Nat) (ck : ClassId) (cr : ClassId) (mo : Nat) (nw : Nat) (kp : Nat) (ik : Nat) (mr : Nat) (mw : Nat) (mq : Nat) (mz : Nat) (my : Nat) (mb : Nat) (mx : Nat) (mv : Nat) (cn : ClassId) (H : Heap) (locs : List Loc) (hK : va_K (dC, dI) vwCl [(ck, .boolean), (cr, .int), (cn, .int)] s) (hP : va_P (dC, dI) vwCl [(o, .inr (11, [.ref aw, .ref bk, .ref ai, .ref ak, .ref sc, .ref rd, .ref fo, .ref tx, .int 0, .ref ar, .ref atr, .ref ao])), (bk, .inr (0, [.ref rk0, .ref rk1, .ref rk2, .ref rk3, .ref eak, .int 0])), (rk0, .inr (6, [.int 1, .int 5, .ref cak0, .int 0])), (rk1, .inr (6, [.int 4, .int 5, .ref cak1, .int 0])), (rk2, .inr (6, [.int 4, .int 8, .ref cak2, .int 0])), (rk3, .inr (6, [.int 4, .int 6, .ref cak3, .int 0])), (fo, .inr (2, [.long 0, .long 1])), (ak, .inl (ck, 2, .inl (fun _ => 0))), (ar, .inl (cr, 3, .inl (fun _ => 0))), (mo, .inr (12, [.ref nw, .ref kp, .ref ik, .ref mr, .long 0, .long 1, .ref mw, .long 0, .int 0, .int 0, .long 0, .long 0, .ref mq, .ref mz, .ref my, .int 0, .ref mb, .int 0, .int 0, .int 0, .int 0, .int 0, .ref mx, .ref mv])), (nw, .inl (cn, 350, .inl (fun _ => 0)))] H) (hD : va_D A [(o, .inr (11, [.ref aw, .ref bk, .ref ai, .ref ak, .ref sc, .ref rd, .ref fo, .ref tx, .int 0, .ref ar, .ref atr, .ref ao])), (bk, .inr (0, [.ref rk0, .ref rk1, .ref rk2, .ref rk3, .ref eak, .int 0])), (rk0, .inr (6, [.int 1, .int 5, .ref cak0, .int 0])), (rk1, .inr (6, [.int 4, .int 5, .ref cak1, .int 0])), (rk2, .inr (6, [.int 4, .int 8, .ref cak2, .int 0])), (rk3, .inr (6, [.int 4, .int 6, .ref cak3, .int 0])), (fo, .inr (2, [.long 0, .long 1])), (ak, .inl (ck, 2, .inl (fun _ => 0))), (ar, .inl (cr, 3, .inl (fun _ => 0))), (mo, .inr (12, [.ref nw, .ref kp, .ref ik, .ref mr, .long 0, .long 1, .ref mw, .long 0, .int 0, .int 0, .long 0, .long 0, .ref mq, .ref mz, .ref my, .int 0, .ref mb, .int 0, .int 0, .int 0, .int 0, .int 0, .ref mx, .ref mv])), (nw, .inl (cn, 350, .inl (fun _ => 0)))]) (hS : va_S A s.heap H locs) (ls : Array Slot) (hl : lv_has ls 4 [(3, .int 0), (2, .ref mo), (1, .ref o), (0, .ref b)]) : W p l e room_1 s m #[Value.ref b] below meth c H locs 136 3195 (lw_Z below #[Value.ref b] s) (F0 m 188 ls []) := by
  obtain ⟨hx, hb, hr, hml, hown, hts, hX, hbl, hlocks, hgv⟩ := C0
  have hb : c.code = cL_law := hb
  have hown : s.vm.findClass RL = some m.cls := hown
  refine lv_aload_n hx hb dL_law_188 rfl (lv_at hl 2 rfl) ?_
  have hPc := hP.sub (ws' := [(o, .inr (11, [.ref aw, .ref bk, .ref ai, .ref ak, .ref sc, .ref rd, .ref fo, .ref tx, .int 0, .ref ar, .ref atr, .ref ao])), (bk, .inr (0, [.ref rk0, .ref rk1, .ref rk2, .ref rk3, .ref eak, .int 0])), (rk0, .inr (6, [.int 1, .int 5, .ref cak0, .int 0])), (rk1, .inr (6, [.int 4, .int 5, .ref cak1, .int 0])), (rk2, .inr (6, [.int 4, .int 8, .ref cak2, .int 0])), (rk3, .inr (6, [.int 4, .int 6, .ref cak3, .int 0])), (fo, .inr (2, [.long 0, .long 1])), (ak, .inl (ck, 2, .inl (fun _ => 0))), (ar, .inl (cr, 3, .inl (fun _ => 0)))]) [0, 1, 2, 3, 4, 5, 6, 7, 8] rfl
  have hDc := hD.sub (ws' := [(o, .inr (11, [.ref aw, .ref bk, .ref ai, .ref ak, .ref sc, .ref rd, .ref fo, .ref tx, .int 0, .ref ar, .ref atr, .ref ao])), (bk, .inr (0, [.ref rk0, .ref rk1, .ref rk2, .ref rk3, .ref eak, .int 0])), (rk0, .inr (6, [.int 1, .int 5, .ref cak0, .int 0])), (rk1, .inr (6, [.int 4, .int 5, .ref cak1, .int 0])), (rk2, .inr (6, [.int 4, .int 8, .ref cak2, .int 0])), (rk3, .inr (6, [.int 4, .int 6, .ref cak3, .int 0])), (fo, .inr (2, [.long 0, .long 1])), (ak, .inl (ck, 2, .inl (fun _ => 0))), (ar, .inl (cr, 3, .inl (fun _ => 0)))]) [0, 1, 2, 3, 4, 5, 6, 7, 8] (by decide) rfl
  have hKc := hK.sub (tys' := [(ck, .boolean), (cr, .int)]) [0, 1] rfl
  have hFc := va_free (wc := [(o, .inr (11, [.ref aw, .ref bk, .ref ai, .ref ak, .ref sc, .ref rd, .ref fo, .ref tx, .int 0, .ref ar, .ref atr, .ref ao])), (bk, .inr (0, [.ref rk0, .ref rk1, .ref rk2, .ref rk3, .ref eak, .int 0])), (rk0, .inr (6, [.int 1, .int 5, .ref cak0, .int 0])), (rk1, .inr (6, [.int 4, .int 5, .ref cak1, .int 0])), (rk2, .inr (6, [.int 4, .int 8, .ref cak2, .int 0])), (rk3, .inr (6, [.int 4, .int 6, .ref cak3, .int 0])), (fo, .inr (2, [.long 0, .long 1])), (ak, .inl (ck, 2, .inl (fun _ => 0))), (ar, .inl (cr, 3, .inl (fun _ => 0)))]) hD hS hA [0, 1, 2, 3, 4, 5, 6, 7, 8] rfl
  refine va_calli (va_runV (As := []) (rest := []) ⟨hx, hb, hml, hown, hts⟩ (k_x_bank l dC dI o aw bk ai ak sc rd fo tx ar atr ao rk0 rk1 rk2 rk3 eak cak0 cak1 cak2 cak3 ck cr H.size) (cwV 0 hts gL_law_X11_bank rfl rfl rfl (by decide +kernel) ⟨Nat.le_of_ble_eq_true rfl, Nat.le_of_ble_eq_true rfl⟩) ⟨fun a U g mk q => by obtain ⟨q0, q1, qP, qK, qD⟩ := q; exact ⟨q0, q1, qP, va_K.moved (u := U) (U := U.calling g mk a) (Vm.Alike.refl U.vm) qK, qD⟩, va_recv hK hP (ci := 11) (q0 := 0) rfl rfl, fun U hU hW => ⟨rfl, by rw [hU], by rw [hU]; exact hPc, va_K.moved hW.alike hKc, hDc.weaken (fun _ _ _ _ => trivial)⟩⟩ rfl rfl hl.1 rfl (lv_room (Nat.le_of_ble_eq_true rfl)) dL_law_189 ⟨Nat.le_of_ble_eq_true rfl, Nat.le_of_ble_eq_true rfl⟩) hS (fun q _ h => hFc q h) hFc (fun r_1 u_ t H1 locs ht hvm hw_2 hB hz1 hk1 hS => ?_)
  obtain ⟨hP, hD⟩ := va_join (wr := [(mo, .inr (12, [.ref nw, .ref kp, .ref ik, .ref mr, .long 0, .long 1, .ref mw, .long 0, .int 0, .int 0, .long 0, .long 0, .ref mq, .ref mz, .ref my, .int 0, .ref mb, .int 0, .int 0, .int 0, .int 0, .int 0, .ref mx, .ref mv])), (nw, .inl (cn, 350, .inl (fun _ => 0)))]) (w1 := []) hP hD [0, 1, 2, 3, 4, 5, 6, 7, 8] [9, 10] rfl rfl (by decide) (by decide) hk1 hFc tz_P0 tz_D0
  generalize H1 = H at hP hS ⊢
  have hP : va_P (dC, dI) vwCl [(mo, .inr (12, [.ref nw, .ref kp, .ref ik, .ref mr, .long 0, .long 1, .ref mw, .long 0, .int 0, .int 0, .long 0, .long 0, .ref mq, .ref mz, .ref my, .int 0, .ref mb, .int 0, .int 0, .int 0, .int 0, .int 0, .ref mx, .ref mv])), (nw, .inl (cn, 350, .inl (fun _ => 0)))] H := hP
  have hD : va_D A [(mo, .inr (12, [.ref nw, .ref kp, .ref ik, .ref mr, .long 0, .long 1, .ref mw, .long 0, .int 0, .int 0, .long 0, .long 0, .ref mq, .ref mz, .ref my, .int 0, .ref mb, .int 0, .int 0, .int 0, .int 0, .int 0, .ref mx, .ref mv])), (nw, .inl (cn, 350, .inl (fun _ => 0)))] := hD
  obtain rfl : 0 = r_1 := hw_2.symm
  refine lv_aload_n hx hb dL_law_192 rfl (lv_at hl 1 rfl) ?_
  have hPc := hP.sub (ws' := [(mo, .inr (12, [.ref nw, .ref kp, .ref ik, .ref mr, .long 0, .long 1, .ref mw, .long 0, .int 0, .int 0, .long 0, .long 0, .ref mq, .ref mz, .ref my, .int 0, .ref mb, .int 0, .int 0, .int 0, .int 0, .int 0, .ref mx, .ref mv])), (nw, .inl (cn, 350, .inl (fun _ => 0)))]) [0, 1] rfl
  have hDc := hD.sub (ws' := [(mo, .inr (12, [.ref nw, .ref kp, .ref ik, .ref mr, .long 0, .long 1, .ref mw, .long 0, .int 0, .int 0, .long 0, .long 0, .ref mq, .ref mz, .ref my, .int 0, .ref mb, .int 0, .int 0, .int 0, .int 0, .int 0, .ref mx, .ref mv])), (nw, .inl (cn, 350, .inl (fun _ => 0)))]) [0, 1] (by decide) rfl
  have hKc := hK.sub (tys' := [(cn, .int)]) [2] rfl
  have hFc := va_free (wc := [(mo, .inr (12, [.ref nw, .ref kp, .ref ik, .ref mr, .long 0, .long 1, .ref mw, .long 0, .int 0, .int 0, .long 0, .long 0, .ref mq, .ref mz, .ref my, .int 0, .ref mb, .int 0, .int 0, .int 0, .int 0, .int 0, .ref mx, .ref mv])), (nw, .inl (cn, 350, .inl (fun _ => 0)))]) hD hS hA [0, 1] rfl
  refine va_calli (va_runV (As := []) (rest := [.int 0]) ⟨hx, hb, hml, hown, hts⟩ (k_m_bank l dC dI mo nw kp ik mr mw mq mz my mb mx mv cn H.size) (cwV 0 hts gL_law_X12_bank rfl rfl rfl (by decide +kernel) ⟨Nat.le_of_ble_eq_true rfl, Nat.le_of_ble_eq_true rfl⟩) ⟨fun a U g mk q => by obtain ⟨q0, q1, qP, qK, qD⟩ := q; exact ⟨q0, q1, qP, va_K.moved (u := U) (U := U.calling g mk a) (Vm.Alike.refl U.vm) qK, qD⟩, va_recv hK hP (ci := 12) (q0 := 0) rfl rfl, fun U hU hW => ⟨rfl, by rw [hU], by rw [hU]; exact hPc, va_K.moved hW.alike hKc, hDc.weaken (fun _ _ _ _ => trivial)⟩⟩ rfl rfl hl.1 rfl (lv_room (Nat.le_of_ble_eq_true rfl)) dL_law_193 ⟨Nat.le_of_ble_eq_true rfl, Nat.le_of_ble_eq_true rfl⟩) hS (fun q _ h => hFc q h) hFc (fun r_3 u_ t H1 locs ht hvm hw_4 hB hz1 hk1 hS => ?_)
  obtain ⟨hP, hD⟩ := va_join (wr := []) (w1 := []) hP hD [0, 1] [] rfl rfl (by decide) (by decide) hk1 hFc tz_P0 tz_D0
  generalize H1 = H at hP hS ⊢
  have hP : va_P (dC, dI) vwCl [] H := hP
  have hD : va_D A [] := hD
  obtain rfl : 0 = r_3 := hw_4.symm
  refine lv_icmp_eq (tgt := 1155) hx hb dL_law_196 (by decide) (fun c_5 => ?_) (fun c_5 => ?_)
  · refine lv_iinc (v := 6) (lv' := [(3, .int 6), (2, .ref mo), (1, .ref o), (0, .ref b)]) hx hb dL_law_1155 hl (k := 0) rfl (by decide) (by decide) rfl (fun ls hl => ?_)
    refine lv_goto (tgt := 18) hx hb dL_law_1158 (by decide) ?_
    refine lv_iload_n hx hb dL_law_18 rfl (lv_at hl 0 rfl) ?_
    refine lv_aload_n hx hb dL_law_19 rfl (lv_at hl 3 rfl) ?_
    refine va_slen hx hb hX hbl hbA hS dL_law_20 ?_
    refine tz_i 6 rfl ?_
    refine lv_bipush (v := 6) hx hb dL_law_21 (by decide) ?_
    refine lv_isub hx hb dL_law_23 ?_
    refine tz_i 0 (by decide) ?_
    refine lv_icmp_gt (tgt := 1161) hx hb dL_law_24 (by decide) (fun c_6 => ?_) (fun c_6 => ?_)
    · refine lv_iconst (v := 1) hx hb dL_law_1161 (by decide) ?_
      refine va_forget (fun q hq => hA2 _ (hS.2.2 q hq)) ?_
      refine W.widen (k := 600000) (n := 7302250) (Nat.le_of_ble_eq_true rfl) (Nat.le_of_ble_eq_true rfl) ?_
      exact lw_ret hx hb hr hlocks dL_law_1162
    · exact absurd c_6 (by decide)
  · exact absurd c_5 (by decide)
set_option maxRecDepth 20000 in
theorem gL_law_X11_clerk : GoodIn lw_tbl (wsV RL 18 RX11 yX11_clerk wsX11_clerk) := tz_good [(6, 23), (7, 0), (7, 1), (0, 2), (7, 2), (1, 10), (7, 3), (7, 4), (7, 5), (0, 2), (7, 6), (7, 7), (7, 8), (7, 9), (7, 10), (7, 11), (7, 12), (7, 13), (7, 14), (2, 6), (7, 15), (7, 16), (7, 17), (3, 4), (7, 18), (3, 15), (3, 20), (7, 19), (7, 20), (7, 21), (1, 9), (7, 22), (3, 5), (7, 23), (8, 0), (8, 1), (8, 2), (8, 3), (8, 4), (8, 5), (8, 6), (8, 7), (3, 22), (3, 21), (8, 8), (8, 9), (8, 10), (8, 11), (46, 0), (46, 1), (46, 2), (46, 3), (46, 4), (46, 5), (46, 6), (46, 7), (46, 8), (46, 9), (46, 10), (46, 11), (54, 0), (54, 1), (54, 2), (54, 3), (54, 4), (54, 5), (58, 0), (58, 1), (58, 2), (58, 3)] (by decide +kernel) (by decide +kernel)
set_option maxRecDepth 20000 in
theorem gL_law_X12_clerk : GoodIn lw_tbl (wsV RL 22 RX12 yX12_clerk wsX12_clerk) := tz_good [(8, 12), (8, 13), (8, 14), (0, 5), (8, 15), (8, 16), (5, 4), (8, 17), (8, 18), (0, 5), (8, 19), (8, 20), (8, 21), (8, 22), (8, 23), (5, 7), (9, 0), (9, 1), (9, 2), (9, 3), (9, 4), (9, 5), (9, 6), (47, 0), (47, 1), (47, 2), (47, 3), (47, 4), (47, 5), (47, 6), (47, 7), (47, 8), (47, 9), (47, 10), (47, 11), (47, 12), (47, 13), (47, 14), (47, 15), (47, 16), (47, 17), (47, 18), (47, 19), (47, 20), (47, 21), (47, 22), (47, 23)] (by decide +kernel) (by decide +kernel)
theorem dL_law_201 : decode cL_law 201 = .ok (.aload_n 1, 1) := by decide +kernel
theorem dL_law_202 : decode cL_law 202 = .ok (.aload_n 0, 1) := by decide +kernel
theorem dL_law_203 : decode cL_law 203 = .ok (.iload_n 3, 1) := by decide +kernel
theorem dL_law_204 : decode cL_law 204 = .ok (.iconst 1, 1) := by decide +kernel
theorem dL_law_205 : decode cL_law 205 = .ok (.iadd, 1) := by decide +kernel
theorem dL_law_206 : decode cL_law 206 = .ok (.iaload, 1) := by decide +kernel
theorem dL_law_207 : decode cL_law 207 = .ok (.invokevirtual 18, 3) := by decide +kernel
theorem dL_law_210 : decode cL_law 210 = .ok (.aload_n 2, 1) := by decide +kernel
theorem dL_law_211 : decode cL_law 211 = .ok (.aload_n 0, 1) := by decide +kernel
theorem dL_law_212 : decode cL_law 212 = .ok (.iload_n 3, 1) := by decide +kernel
theorem dL_law_213 : decode cL_law 213 = .ok (.iconst 1, 1) := by decide +kernel
theorem dL_law_214 : decode cL_law 214 = .ok (.iadd, 1) := by decide +kernel
theorem dL_law_215 : decode cL_law 215 = .ok (.iaload, 1) := by decide +kernel
theorem dL_law_216 : decode cL_law 216 = .ok (.invokevirtual 22, 3) := by decide +kernel
theorem dL_law_219 : decode cL_law 219 = .ok (.if_icmp .eq 936, 3) := by decide +kernel
set_option maxHeartbeats 4000000 in
set_option maxRecDepth 100000 in
theorem lc_clerk {p : Program} {l : Launch} {e : Env} {s : State} {m : MethodId} {below : List Frame} {meth : Method} {c : Code} {b : Nat} {xs : Nat → Int32} (C0 : lw_At p s m meth c b 6 xs) (hN : tz_N s) (A : Nat → Prop) (hA : ∀ q : Nat, s.heap.size ≤ q → A q) (hA2 : ∀ q : Nat, A q → s.heap.size ≤ q) (hbA : ¬ A b) (dC : Nat → ClassId) (dI : Nat → Nat → Nat) (o : Nat) (aw : Nat) (bk : Nat) (ai : Nat) (ak : Nat) (sc : Nat) (rd : Nat) (fo : Nat) (tx : Nat) (ar : Nat) (atr : Nat) (ao : Nat) (rk0 : Nat) (rk1 : Nat) (rk2 : Nat) (rk3 : Nat) (eak : Nat) (cak0 : Nat) (cck0 : ClassId) (cr : ClassId) (mo : Nat) (nw : Nat) (kp : Nat) (ik : Nat) (mr : Nat) (mw : Nat) (mq : Nat) (mz : Nat) (my : Nat) (mb : Nat) (mx : Nat) (mv : Nat) (cn : ClassId) (cm : ClassId) (H : Heap) (locs : List Loc) (hK : va_K (dC, dI) vwCl [(cck0, .int), (cr, .int), (cn, .int), (cm, .int)] s) (hP : va_P (dC, dI) vwCl [(o, .inr (11, [.ref aw, .ref bk, .ref ai, .ref ak, .ref sc, .ref rd, .ref fo, .ref tx, .int 0, .ref ar, .ref atr, .ref ao])), (bk, .inr (0, [.ref rk0, .ref rk1, .ref rk2, .ref rk3, .ref eak, .int 0])), (rk0, .inr (6, [.int 1, .int 5, .ref cak0, .int 0])), (cak0, .inl (cck0, 5, .inl (fun _ => 0))), (ar, .inl (cr, 3, .inl (fun _ => 0))), (mo, .inr (12, [.ref nw, .ref kp, .ref ik, .ref mr, .long 0, .long 1, .ref mw, .long 0, .int 0, .int 0, .long 0, .long 0, .ref mq, .ref mz, .ref my, .int 0, .ref mb, .int 0, .int 0, .int 0, .int 0, .int 0, .ref mx, .ref mv])), (nw, .inl (cn, 350, .inl (fun _ => 0))), (mr, .inl (cm, 3, .inl (fun _ => 0)))] H) (hD : va_D A [(o, .inr (11, [.ref aw, .ref bk, .ref ai, .ref ak, .ref sc, .ref rd, .ref fo, .ref tx, .int 0, .ref ar, .ref atr, .ref ao])), (bk, .inr (0, [.ref rk0, .ref rk1, .ref rk2, .ref rk3, .ref eak, .int 0])), (rk0, .inr (6, [.int 1, .int 5, .ref cak0, .int 0])), (cak0, .inl (cck0, 5, .inl (fun _ => 0))), (ar, .inl (cr, 3, .inl (fun _ => 0))), (mo, .inr (12, [.ref nw, .ref kp, .ref ik, .ref mr, .long 0, .long 1, .ref mw, .long 0, .int 0, .int 0, .long 0, .long 0, .ref mq, .ref mz, .ref my, .int 0, .ref mb, .int 0, .int 0, .int 0, .int 0, .int 0, .ref mx, .ref mv])), (nw, .inl (cn, 350, .inl (fun _ => 0))), (mr, .inl (cm, 3, .inl (fun _ => 0)))]) (hS : va_S A s.heap H locs) (ls : Array Slot) (hl : lv_has ls 4 [(3, .int 0), (2, .ref mo), (1, .ref o), (0, .ref b)]) : W p l e room_1 s m #[Value.ref b] below meth c H locs 136 3195 (lw_Z below #[Value.ref b] s) (F0 m 201 ls []) := by
  obtain ⟨hx, hb, hr, hml, hown, hts, hX, hbl, hlocks, hgv⟩ := C0
  have hb : c.code = cL_law := hb
  have hown : s.vm.findClass RL = some m.cls := hown
  refine lv_aload_n hx hb dL_law_201 rfl (lv_at hl 2 rfl) ?_
  refine lv_aload_n hx hb dL_law_202 rfl (lv_at hl 3 rfl) ?_
  refine lv_iload_n hx hb dL_law_203 rfl (lv_at hl 0 rfl) ?_
  refine lv_iconst (v := 1) hx hb dL_law_204 (by decide) ?_
  refine lv_iadd hx hb dL_law_205 ?_
  refine tz_i 1 (by decide) ?_
  refine va_sld hx hb hX hbl hbA hS (show ¬ ((1 : Int32) < 0 ∨ 6 ≤ (1 : Int32).toNatClampNeg) by decide) dL_law_206 ?_
  refine tz_i (xs 1) rfl ?_
  have hPc := hP.sub (ws' := [(o, .inr (11, [.ref aw, .ref bk, .ref ai, .ref ak, .ref sc, .ref rd, .ref fo, .ref tx, .int 0, .ref ar, .ref atr, .ref ao])), (bk, .inr (0, [.ref rk0, .ref rk1, .ref rk2, .ref rk3, .ref eak, .int 0])), (rk0, .inr (6, [.int 1, .int 5, .ref cak0, .int 0])), (cak0, .inl (cck0, 5, .inl (fun _ => 0))), (ar, .inl (cr, 3, .inl (fun _ => 0)))]) [0, 1, 2, 3, 4] rfl
  have hDc := hD.sub (ws' := [(o, .inr (11, [.ref aw, .ref bk, .ref ai, .ref ak, .ref sc, .ref rd, .ref fo, .ref tx, .int 0, .ref ar, .ref atr, .ref ao])), (bk, .inr (0, [.ref rk0, .ref rk1, .ref rk2, .ref rk3, .ref eak, .int 0])), (rk0, .inr (6, [.int 1, .int 5, .ref cak0, .int 0])), (cak0, .inl (cck0, 5, .inl (fun _ => 0))), (ar, .inl (cr, 3, .inl (fun _ => 0)))]) [0, 1, 2, 3, 4] (by decide) rfl
  have hKc := hK.sub (tys' := [(cck0, .int), (cr, .int)]) [0, 1] rfl
  have hFc := va_free (wc := [(o, .inr (11, [.ref aw, .ref bk, .ref ai, .ref ak, .ref sc, .ref rd, .ref fo, .ref tx, .int 0, .ref ar, .ref atr, .ref ao])), (bk, .inr (0, [.ref rk0, .ref rk1, .ref rk2, .ref rk3, .ref eak, .int 0])), (rk0, .inr (6, [.int 1, .int 5, .ref cak0, .int 0])), (cak0, .inl (cck0, 5, .inl (fun _ => 0))), (ar, .inl (cr, 3, .inl (fun _ => 0)))]) hD hS hA [0, 1, 2, 3, 4] rfl
  refine va_calli (va_runV (As := [.int (xs 1)]) (rest := []) ⟨hx, hb, hml, hown, hts⟩ (k_x_clerk l dC dI o aw bk ai ak sc rd fo tx ar atr ao rk0 rk1 rk2 rk3 eak cak0 cck0 cr (xs 1) H.size) (cwV 1 hts gL_law_X11_clerk rfl rfl rfl (by decide +kernel) ⟨Nat.le_of_ble_eq_true rfl, Nat.le_of_ble_eq_true rfl⟩) ⟨fun a U g mk q => by obtain ⟨q0, q1, qP, qK, qD⟩ := q; exact ⟨q0, q1, qP, va_K.moved (u := U) (U := U.calling g mk a) (Vm.Alike.refl U.vm) qK, qD⟩, va_recv hK hP (ci := 11) (q0 := 0) rfl rfl, fun U hU hW => ⟨rfl, by rw [hU], by rw [hU]; exact hPc, va_K.moved hW.alike hKc, hDc.weaken (fun _ _ _ _ => trivial)⟩⟩ rfl rfl hl.1 rfl (lv_room (Nat.le_of_ble_eq_true rfl)) dL_law_207 ⟨Nat.le_of_ble_eq_true rfl, Nat.le_of_ble_eq_true rfl⟩) hS (fun q _ h => hFc q h) hFc (fun r_1 u_ t H1 locs ht hvm hw_2 hB hz1 hk1 hS => ?_)
  obtain ⟨hP, hD⟩ := va_join (wr := [(mo, .inr (12, [.ref nw, .ref kp, .ref ik, .ref mr, .long 0, .long 1, .ref mw, .long 0, .int 0, .int 0, .long 0, .long 0, .ref mq, .ref mz, .ref my, .int 0, .ref mb, .int 0, .int 0, .int 0, .int 0, .int 0, .ref mx, .ref mv])), (nw, .inl (cn, 350, .inl (fun _ => 0))), (mr, .inl (cm, 3, .inl (fun _ => 0)))]) (w1 := []) hP hD [0, 1, 2, 3, 4] [5, 6, 7] rfl rfl (by decide) (by decide) hk1 hFc tz_P0 tz_D0
  generalize H1 = H at hP hS ⊢
  have hP : va_P (dC, dI) vwCl [(mo, .inr (12, [.ref nw, .ref kp, .ref ik, .ref mr, .long 0, .long 1, .ref mw, .long 0, .int 0, .int 0, .long 0, .long 0, .ref mq, .ref mz, .ref my, .int 0, .ref mb, .int 0, .int 0, .int 0, .int 0, .int 0, .ref mx, .ref mv])), (nw, .inl (cn, 350, .inl (fun _ => 0))), (mr, .inl (cm, 3, .inl (fun _ => 0)))] H := hP
  have hD : va_D A [(mo, .inr (12, [.ref nw, .ref kp, .ref ik, .ref mr, .long 0, .long 1, .ref mw, .long 0, .int 0, .int 0, .long 0, .long 0, .ref mq, .ref mz, .ref my, .int 0, .ref mb, .int 0, .int 0, .int 0, .int 0, .int 0, .ref mx, .ref mv])), (nw, .inl (cn, 350, .inl (fun _ => 0))), (mr, .inl (cm, 3, .inl (fun _ => 0)))] := hD
  obtain rfl : (if 0 ≤ (xs 1) ∧ (xs 1) ≤ 10 then 0 else (-2)) = r_1 := hw_2.symm
  refine lv_aload_n hx hb dL_law_210 rfl (lv_at hl 1 rfl) ?_
  refine lv_aload_n hx hb dL_law_211 rfl (lv_at hl 3 rfl) ?_
  refine lv_iload_n hx hb dL_law_212 rfl (lv_at hl 0 rfl) ?_
  refine lv_iconst (v := 1) hx hb dL_law_213 (by decide) ?_
  refine lv_iadd hx hb dL_law_214 ?_
  refine tz_i 1 (by decide) ?_
  refine va_sld hx hb hX hbl hbA hS (show ¬ ((1 : Int32) < 0 ∨ 6 ≤ (1 : Int32).toNatClampNeg) by decide) dL_law_215 ?_
  refine tz_i (xs 1) rfl ?_
  have hPc := hP.sub (ws' := [(mo, .inr (12, [.ref nw, .ref kp, .ref ik, .ref mr, .long 0, .long 1, .ref mw, .long 0, .int 0, .int 0, .long 0, .long 0, .ref mq, .ref mz, .ref my, .int 0, .ref mb, .int 0, .int 0, .int 0, .int 0, .int 0, .ref mx, .ref mv])), (nw, .inl (cn, 350, .inl (fun _ => 0))), (mr, .inl (cm, 3, .inl (fun _ => 0)))]) [0, 1, 2] rfl
  have hDc := hD.sub (ws' := [(mo, .inr (12, [.ref nw, .ref kp, .ref ik, .ref mr, .long 0, .long 1, .ref mw, .long 0, .int 0, .int 0, .long 0, .long 0, .ref mq, .ref mz, .ref my, .int 0, .ref mb, .int 0, .int 0, .int 0, .int 0, .int 0, .ref mx, .ref mv])), (nw, .inl (cn, 350, .inl (fun _ => 0))), (mr, .inl (cm, 3, .inl (fun _ => 0)))]) [0, 1, 2] (by decide) rfl
  have hKc := hK.sub (tys' := [(cn, .int), (cm, .int)]) [2, 3] rfl
  have hFc := va_free (wc := [(mo, .inr (12, [.ref nw, .ref kp, .ref ik, .ref mr, .long 0, .long 1, .ref mw, .long 0, .int 0, .int 0, .long 0, .long 0, .ref mq, .ref mz, .ref my, .int 0, .ref mb, .int 0, .int 0, .int 0, .int 0, .int 0, .ref mx, .ref mv])), (nw, .inl (cn, 350, .inl (fun _ => 0))), (mr, .inl (cm, 3, .inl (fun _ => 0)))]) hD hS hA [0, 1, 2] rfl
  refine va_calli (va_runV (As := [.int (xs 1)]) (rest := [.int (if 0 ≤ (xs 1) ∧ (xs 1) ≤ 10 then 0 else (-2))]) ⟨hx, hb, hml, hown, hts⟩ (k_m_clerk l dC dI mo nw kp ik mr mw mq mz my mb mx mv cn cm (xs 1) H.size) (cwV 1 hts gL_law_X12_clerk rfl rfl rfl (by decide +kernel) ⟨Nat.le_of_ble_eq_true rfl, Nat.le_of_ble_eq_true rfl⟩) ⟨fun a U g mk q => by obtain ⟨q0, q1, qP, qK, qD⟩ := q; exact ⟨q0, q1, qP, va_K.moved (u := U) (U := U.calling g mk a) (Vm.Alike.refl U.vm) qK, qD⟩, va_recv hK hP (ci := 12) (q0 := 0) rfl rfl, fun U hU hW => ⟨rfl, by rw [hU], by rw [hU]; exact hPc, va_K.moved hW.alike hKc, hDc.weaken (fun _ _ _ _ => trivial)⟩⟩ rfl rfl hl.1 rfl (lv_room (Nat.le_of_ble_eq_true rfl)) dL_law_216 ⟨Nat.le_of_ble_eq_true rfl, Nat.le_of_ble_eq_true rfl⟩) hS (fun q _ h => hFc q h) hFc (fun r_3 u_ t H1 locs ht hvm hw_4 hB hz1 hk1 hS => ?_)
  obtain ⟨hP, hD⟩ := va_join (wr := []) (w1 := []) hP hD [0, 1, 2] [] rfl rfl (by decide) (by decide) hk1 hFc tz_P0 tz_D0
  generalize H1 = H at hP hS ⊢
  have hP : va_P (dC, dI) vwCl [] H := hP
  have hD : va_D A [] := hD
  obtain rfl : (if 0 ≤ (xs 1) ∧ (xs 1) ≤ 10 then 0 else (-2)) = r_3 := hw_4.symm
  refine lv_icmp_eq (tgt := 1155) hx hb dL_law_219 (by decide) (fun c_5 => ?_) (fun c_5 => ?_)
  · refine lv_iinc (v := 6) (lv' := [(3, .int 6), (2, .ref mo), (1, .ref o), (0, .ref b)]) hx hb dL_law_1155 hl (k := 0) rfl (by decide) (by decide) rfl (fun ls hl => ?_)
    refine lv_goto (tgt := 18) hx hb dL_law_1158 (by decide) ?_
    refine lv_iload_n hx hb dL_law_18 rfl (lv_at hl 0 rfl) ?_
    refine lv_aload_n hx hb dL_law_19 rfl (lv_at hl 3 rfl) ?_
    refine va_slen hx hb hX hbl hbA hS dL_law_20 ?_
    refine tz_i 6 rfl ?_
    refine lv_bipush (v := 6) hx hb dL_law_21 (by decide) ?_
    refine lv_isub hx hb dL_law_23 ?_
    refine tz_i 0 (by decide) ?_
    refine lv_icmp_gt (tgt := 1161) hx hb dL_law_24 (by decide) (fun c_6 => ?_) (fun c_6 => ?_)
    · refine lv_iconst (v := 1) hx hb dL_law_1161 (by decide) ?_
      refine va_forget (fun q hq => hA2 _ (hS.2.2 q hq)) ?_
      refine W.widen (k := 600000) (n := 7302250) (Nat.le_of_ble_eq_true rfl) (Nat.le_of_ble_eq_true rfl) ?_
      exact lw_ret hx hb hr hlocks dL_law_1162
    · exact absurd c_6 (by decide)
  · exact absurd rfl c_5
set_option maxRecDepth 20000 in
theorem gL_law_X11_bundle : GoodIn lw_tbl (wsV RL 23 RX11 yX11_bundle wsX11_bundle) := tz_good [(9, 7), (9, 8), (9, 9), (0, 2), (9, 10), (1, 10), (5, 20), (7, 4), (7, 5), (0, 2), (7, 6), (7, 7), (7, 8), (7, 9), (7, 10), (7, 11), (7, 12), (7, 13), (7, 14), (2, 6), (7, 15), (7, 16), (7, 17), (3, 4), (7, 18), (3, 15), (3, 20), (9, 11), (9, 12), (9, 13), (1, 9), (9, 14), (3, 6), (7, 23), (8, 0), (8, 1), (8, 2), (8, 3), (8, 4), (8, 5), (8, 6), (8, 7), (3, 22), (3, 21), (8, 8), (8, 9), (8, 10), (8, 11), (46, 0), (46, 1), (46, 2), (46, 3), (46, 4), (46, 5), (46, 6), (46, 7), (46, 8), (46, 9), (46, 10), (46, 11), (54, 0), (54, 1), (54, 2), (54, 3), (54, 4), (54, 5), (58, 0), (58, 1), (58, 2), (58, 3)] (by decide +kernel) (by decide +kernel)
set_option maxRecDepth 20000 in
theorem gL_law_X12_bundle : GoodIn lw_tbl (wsV RL 27 RX12 yX12_bundle wsX12_bundle) := tz_good [(9, 15), (9, 16), (9, 17), (0, 5), (9, 18), (9, 19), (9, 20), (5, 4), (8, 17), (8, 18), (0, 5), (8, 19), (8, 20), (8, 21), (8, 22), (8, 23), (5, 7), (9, 0), (9, 1), (9, 2), (9, 3), (9, 21), (9, 22), (9, 23), (47, 0), (47, 1), (47, 2), (47, 3), (47, 4), (47, 5), (47, 6), (47, 7), (47, 8), (47, 9), (47, 10), (47, 11), (47, 12), (47, 13), (47, 14), (47, 15), (47, 16), (47, 17), (47, 18), (47, 19), (47, 20), (47, 21), (47, 22), (47, 23)] (by decide +kernel) (by decide +kernel)
theorem dL_law_224 : decode cL_law 224 = .ok (.aload_n 1, 1) := by decide +kernel
theorem dL_law_225 : decode cL_law 225 = .ok (.aload_n 0, 1) := by decide +kernel
theorem dL_law_226 : decode cL_law 226 = .ok (.iload_n 3, 1) := by decide +kernel
theorem dL_law_227 : decode cL_law 227 = .ok (.iconst 1, 1) := by decide +kernel
theorem dL_law_228 : decode cL_law 228 = .ok (.iadd, 1) := by decide +kernel
theorem dL_law_229 : decode cL_law 229 = .ok (.iaload, 1) := by decide +kernel
theorem dL_law_230 : decode cL_law 230 = .ok (.aload_n 0, 1) := by decide +kernel
theorem dL_law_231 : decode cL_law 231 = .ok (.iload_n 3, 1) := by decide +kernel
theorem dL_law_232 : decode cL_law 232 = .ok (.iconst 2, 1) := by decide +kernel
theorem dL_law_233 : decode cL_law 233 = .ok (.iadd, 1) := by decide +kernel
theorem dL_law_234 : decode cL_law 234 = .ok (.iaload, 1) := by decide +kernel
theorem dL_law_235 : decode cL_law 235 = .ok (.invokevirtual 23, 3) := by decide +kernel
theorem dL_law_238 : decode cL_law 238 = .ok (.aload_n 2, 1) := by decide +kernel
theorem dL_law_239 : decode cL_law 239 = .ok (.aload_n 0, 1) := by decide +kernel
theorem dL_law_240 : decode cL_law 240 = .ok (.iload_n 3, 1) := by decide +kernel
theorem dL_law_241 : decode cL_law 241 = .ok (.iconst 1, 1) := by decide +kernel
theorem dL_law_242 : decode cL_law 242 = .ok (.iadd, 1) := by decide +kernel
theorem dL_law_243 : decode cL_law 243 = .ok (.iaload, 1) := by decide +kernel
theorem dL_law_244 : decode cL_law 244 = .ok (.aload_n 0, 1) := by decide +kernel
theorem dL_law_245 : decode cL_law 245 = .ok (.iload_n 3, 1) := by decide +kernel
theorem dL_law_246 : decode cL_law 246 = .ok (.iconst 2, 1) := by decide +kernel
theorem dL_law_247 : decode cL_law 247 = .ok (.iadd, 1) := by decide +kernel
theorem dL_law_248 : decode cL_law 248 = .ok (.iaload, 1) := by decide +kernel
theorem dL_law_249 : decode cL_law 249 = .ok (.invokevirtual 27, 3) := by decide +kernel
theorem dL_law_252 : decode cL_law 252 = .ok (.if_icmp .eq 903, 3) := by decide +kernel
set_option maxHeartbeats 4000000 in
set_option maxRecDepth 100000 in
theorem lc_bundle {p : Program} {l : Launch} {e : Env} {s : State} {m : MethodId} {below : List Frame} {meth : Method} {c : Code} {b : Nat} {xs : Nat → Int32} (C0 : lw_At p s m meth c b 6 xs) (hN : tz_N s) (A : Nat → Prop) (hA : ∀ q : Nat, s.heap.size ≤ q → A q) (hA2 : ∀ q : Nat, A q → s.heap.size ≤ q) (hbA : ¬ A b) (dC : Nat → ClassId) (dI : Nat → Nat → Nat) (o : Nat) (aw : Nat) (bk : Nat) (ai : Nat) (ak : Nat) (sc : Nat) (rd : Nat) (fo : Nat) (tx : Nat) (ar : Nat) (atr : Nat) (ao : Nat) (rk0 : Nat) (rk1 : Nat) (rk2 : Nat) (rk3 : Nat) (eak : Nat) (cak1 : Nat) (cck1 : ClassId) (cr : ClassId) (mo : Nat) (nw : Nat) (kp : Nat) (ik : Nat) (mr : Nat) (mw : Nat) (mq : Nat) (mz : Nat) (my : Nat) (mb : Nat) (mx : Nat) (mv : Nat) (cn : ClassId) (cm : ClassId) (H : Heap) (locs : List Loc) (hK : va_K (dC, dI) vwCl [(cck1, .int), (cr, .int), (cn, .int), (cm, .int)] s) (hP : va_P (dC, dI) vwCl [(o, .inr (11, [.ref aw, .ref bk, .ref ai, .ref ak, .ref sc, .ref rd, .ref fo, .ref tx, .int 0, .ref ar, .ref atr, .ref ao])), (bk, .inr (0, [.ref rk0, .ref rk1, .ref rk2, .ref rk3, .ref eak, .int 0])), (rk1, .inr (6, [.int 4, .int 5, .ref cak1, .int 0])), (cak1, .inl (cck1, 20, .inl (fun _ => 0))), (ar, .inl (cr, 3, .inl (fun _ => 0))), (mo, .inr (12, [.ref nw, .ref kp, .ref ik, .ref mr, .long 0, .long 1, .ref mw, .long 0, .int 0, .int 0, .long 0, .long 0, .ref mq, .ref mz, .ref my, .int 0, .ref mb, .int 0, .int 0, .int 0, .int 0, .int 0, .ref mx, .ref mv])), (nw, .inl (cn, 350, .inl (fun _ => 0))), (mr, .inl (cm, 3, .inl (fun _ => 0)))] H) (hD : va_D A [(o, .inr (11, [.ref aw, .ref bk, .ref ai, .ref ak, .ref sc, .ref rd, .ref fo, .ref tx, .int 0, .ref ar, .ref atr, .ref ao])), (bk, .inr (0, [.ref rk0, .ref rk1, .ref rk2, .ref rk3, .ref eak, .int 0])), (rk1, .inr (6, [.int 4, .int 5, .ref cak1, .int 0])), (cak1, .inl (cck1, 20, .inl (fun _ => 0))), (ar, .inl (cr, 3, .inl (fun _ => 0))), (mo, .inr (12, [.ref nw, .ref kp, .ref ik, .ref mr, .long 0, .long 1, .ref mw, .long 0, .int 0, .int 0, .long 0, .long 0, .ref mq, .ref mz, .ref my, .int 0, .ref mb, .int 0, .int 0, .int 0, .int 0, .int 0, .ref mx, .ref mv])), (nw, .inl (cn, 350, .inl (fun _ => 0))), (mr, .inl (cm, 3, .inl (fun _ => 0)))]) (hS : va_S A s.heap H locs) (ls : Array Slot) (hl : lv_has ls 4 [(3, .int 0), (2, .ref mo), (1, .ref o), (0, .ref b)]) : W p l e room_1 s m #[Value.ref b] below meth c H locs 136 3195 (lw_Z below #[Value.ref b] s) (F0 m 224 ls []) := by
  obtain ⟨hx, hb, hr, hml, hown, hts, hX, hbl, hlocks, hgv⟩ := C0
  have hb : c.code = cL_law := hb
  have hown : s.vm.findClass RL = some m.cls := hown
  refine lv_aload_n hx hb dL_law_224 rfl (lv_at hl 2 rfl) ?_
  refine lv_aload_n hx hb dL_law_225 rfl (lv_at hl 3 rfl) ?_
  refine lv_iload_n hx hb dL_law_226 rfl (lv_at hl 0 rfl) ?_
  refine lv_iconst (v := 1) hx hb dL_law_227 (by decide) ?_
  refine lv_iadd hx hb dL_law_228 ?_
  refine tz_i 1 (by decide) ?_
  refine va_sld hx hb hX hbl hbA hS (show ¬ ((1 : Int32) < 0 ∨ 6 ≤ (1 : Int32).toNatClampNeg) by decide) dL_law_229 ?_
  refine tz_i (xs 1) rfl ?_
  refine lv_aload_n hx hb dL_law_230 rfl (lv_at hl 3 rfl) ?_
  refine lv_iload_n hx hb dL_law_231 rfl (lv_at hl 0 rfl) ?_
  refine lv_iconst (v := 2) hx hb dL_law_232 (by decide) ?_
  refine lv_iadd hx hb dL_law_233 ?_
  refine tz_i 2 (by decide) ?_
  refine va_sld hx hb hX hbl hbA hS (show ¬ ((2 : Int32) < 0 ∨ 6 ≤ (2 : Int32).toNatClampNeg) by decide) dL_law_234 ?_
  refine tz_i (xs 2) rfl ?_
  have hPc := hP.sub (ws' := [(o, .inr (11, [.ref aw, .ref bk, .ref ai, .ref ak, .ref sc, .ref rd, .ref fo, .ref tx, .int 0, .ref ar, .ref atr, .ref ao])), (bk, .inr (0, [.ref rk0, .ref rk1, .ref rk2, .ref rk3, .ref eak, .int 0])), (rk1, .inr (6, [.int 4, .int 5, .ref cak1, .int 0])), (cak1, .inl (cck1, 20, .inl (fun _ => 0))), (ar, .inl (cr, 3, .inl (fun _ => 0)))]) [0, 1, 2, 3, 4] rfl
  have hDc := hD.sub (ws' := [(o, .inr (11, [.ref aw, .ref bk, .ref ai, .ref ak, .ref sc, .ref rd, .ref fo, .ref tx, .int 0, .ref ar, .ref atr, .ref ao])), (bk, .inr (0, [.ref rk0, .ref rk1, .ref rk2, .ref rk3, .ref eak, .int 0])), (rk1, .inr (6, [.int 4, .int 5, .ref cak1, .int 0])), (cak1, .inl (cck1, 20, .inl (fun _ => 0))), (ar, .inl (cr, 3, .inl (fun _ => 0)))]) [0, 1, 2, 3, 4] (by decide) rfl
  have hKc := hK.sub (tys' := [(cck1, .int), (cr, .int)]) [0, 1] rfl
  have hFc := va_free (wc := [(o, .inr (11, [.ref aw, .ref bk, .ref ai, .ref ak, .ref sc, .ref rd, .ref fo, .ref tx, .int 0, .ref ar, .ref atr, .ref ao])), (bk, .inr (0, [.ref rk0, .ref rk1, .ref rk2, .ref rk3, .ref eak, .int 0])), (rk1, .inr (6, [.int 4, .int 5, .ref cak1, .int 0])), (cak1, .inl (cck1, 20, .inl (fun _ => 0))), (ar, .inl (cr, 3, .inl (fun _ => 0)))]) hD hS hA [0, 1, 2, 3, 4] rfl
  refine va_calli (va_runV (As := [.int (xs 1), .int (xs 2)]) (rest := []) ⟨hx, hb, hml, hown, hts⟩ (k_x_bundle l dC dI o aw bk ai ak sc rd fo tx ar atr ao rk0 rk1 rk2 rk3 eak cak1 cck1 cr (xs 1) (xs 2) H.size) (cwV 2 hts gL_law_X11_bundle rfl rfl rfl (by decide +kernel) ⟨Nat.le_of_ble_eq_true rfl, Nat.le_of_ble_eq_true rfl⟩) ⟨fun a U g mk q => by obtain ⟨q0, q1, qP, qK, qD⟩ := q; exact ⟨q0, q1, qP, va_K.moved (u := U) (U := U.calling g mk a) (Vm.Alike.refl U.vm) qK, qD⟩, va_recv hK hP (ci := 11) (q0 := 0) rfl rfl, fun U hU hW => ⟨rfl, by rw [hU], by rw [hU]; exact hPc, va_K.moved hW.alike hKc, hDc.weaken (fun _ _ _ _ => trivial)⟩⟩ rfl rfl hl.1 rfl (lv_room (Nat.le_of_ble_eq_true rfl)) dL_law_235 ⟨Nat.le_of_ble_eq_true rfl, Nat.le_of_ble_eq_true rfl⟩) hS (fun q _ h => hFc q h) hFc (fun r_1 u_ t H1 locs ht hvm hw_2 hB hz1 hk1 hS => ?_)
  obtain ⟨hP, hD⟩ := va_join (wr := [(mo, .inr (12, [.ref nw, .ref kp, .ref ik, .ref mr, .long 0, .long 1, .ref mw, .long 0, .int 0, .int 0, .long 0, .long 0, .ref mq, .ref mz, .ref my, .int 0, .ref mb, .int 0, .int 0, .int 0, .int 0, .int 0, .ref mx, .ref mv])), (nw, .inl (cn, 350, .inl (fun _ => 0))), (mr, .inl (cm, 3, .inl (fun _ => 0)))]) (w1 := []) hP hD [0, 1, 2, 3, 4] [5, 6, 7] rfl rfl (by decide) (by decide) hk1 hFc tz_P0 tz_D0
  generalize H1 = H at hP hS ⊢
  have hP : va_P (dC, dI) vwCl [(mo, .inr (12, [.ref nw, .ref kp, .ref ik, .ref mr, .long 0, .long 1, .ref mw, .long 0, .int 0, .int 0, .long 0, .long 0, .ref mq, .ref mz, .ref my, .int 0, .ref mb, .int 0, .int 0, .int 0, .int 0, .int 0, .ref mx, .ref mv])), (nw, .inl (cn, 350, .inl (fun _ => 0))), (mr, .inl (cm, 3, .inl (fun _ => 0)))] H := hP
  have hD : va_D A [(mo, .inr (12, [.ref nw, .ref kp, .ref ik, .ref mr, .long 0, .long 1, .ref mw, .long 0, .int 0, .int 0, .long 0, .long 0, .ref mq, .ref mz, .ref my, .int 0, .ref mb, .int 0, .int 0, .int 0, .int 0, .int 0, .ref mx, .ref mv])), (nw, .inl (cn, 350, .inl (fun _ => 0))), (mr, .inl (cm, 3, .inl (fun _ => 0)))] := hD
  obtain rfl : (if 90 ≤ (xs 1) ∧ (xs 1) ≤ 110 then (if (xs 1) ≤ (xs 2) ∧ (xs 2) ≤ 110 then 0 else (-2)) else (-2)) = r_1 := hw_2.symm
  refine lv_aload_n hx hb dL_law_238 rfl (lv_at hl 1 rfl) ?_
  refine lv_aload_n hx hb dL_law_239 rfl (lv_at hl 3 rfl) ?_
  refine lv_iload_n hx hb dL_law_240 rfl (lv_at hl 0 rfl) ?_
  refine lv_iconst (v := 1) hx hb dL_law_241 (by decide) ?_
  refine lv_iadd hx hb dL_law_242 ?_
  refine tz_i 1 (by decide) ?_
  refine va_sld hx hb hX hbl hbA hS (show ¬ ((1 : Int32) < 0 ∨ 6 ≤ (1 : Int32).toNatClampNeg) by decide) dL_law_243 ?_
  refine tz_i (xs 1) rfl ?_
  refine lv_aload_n hx hb dL_law_244 rfl (lv_at hl 3 rfl) ?_
  refine lv_iload_n hx hb dL_law_245 rfl (lv_at hl 0 rfl) ?_
  refine lv_iconst (v := 2) hx hb dL_law_246 (by decide) ?_
  refine lv_iadd hx hb dL_law_247 ?_
  refine tz_i 2 (by decide) ?_
  refine va_sld hx hb hX hbl hbA hS (show ¬ ((2 : Int32) < 0 ∨ 6 ≤ (2 : Int32).toNatClampNeg) by decide) dL_law_248 ?_
  refine tz_i (xs 2) rfl ?_
  have hPc := hP.sub (ws' := [(mo, .inr (12, [.ref nw, .ref kp, .ref ik, .ref mr, .long 0, .long 1, .ref mw, .long 0, .int 0, .int 0, .long 0, .long 0, .ref mq, .ref mz, .ref my, .int 0, .ref mb, .int 0, .int 0, .int 0, .int 0, .int 0, .ref mx, .ref mv])), (nw, .inl (cn, 350, .inl (fun _ => 0))), (mr, .inl (cm, 3, .inl (fun _ => 0)))]) [0, 1, 2] rfl
  have hDc := hD.sub (ws' := [(mo, .inr (12, [.ref nw, .ref kp, .ref ik, .ref mr, .long 0, .long 1, .ref mw, .long 0, .int 0, .int 0, .long 0, .long 0, .ref mq, .ref mz, .ref my, .int 0, .ref mb, .int 0, .int 0, .int 0, .int 0, .int 0, .ref mx, .ref mv])), (nw, .inl (cn, 350, .inl (fun _ => 0))), (mr, .inl (cm, 3, .inl (fun _ => 0)))]) [0, 1, 2] (by decide) rfl
  have hKc := hK.sub (tys' := [(cn, .int), (cm, .int)]) [2, 3] rfl
  have hFc := va_free (wc := [(mo, .inr (12, [.ref nw, .ref kp, .ref ik, .ref mr, .long 0, .long 1, .ref mw, .long 0, .int 0, .int 0, .long 0, .long 0, .ref mq, .ref mz, .ref my, .int 0, .ref mb, .int 0, .int 0, .int 0, .int 0, .int 0, .ref mx, .ref mv])), (nw, .inl (cn, 350, .inl (fun _ => 0))), (mr, .inl (cm, 3, .inl (fun _ => 0)))]) hD hS hA [0, 1, 2] rfl
  refine va_calli (va_runV (As := [.int (xs 1), .int (xs 2)]) (rest := [.int (if 90 ≤ (xs 1) ∧ (xs 1) ≤ 110 then (if (xs 1) ≤ (xs 2) ∧ (xs 2) ≤ 110 then 0 else (-2)) else (-2))]) ⟨hx, hb, hml, hown, hts⟩ (k_m_bundle l dC dI mo nw kp ik mr mw mq mz my mb mx mv cn cm (xs 1) (xs 2) H.size) (cwV 2 hts gL_law_X12_bundle rfl rfl rfl (by decide +kernel) ⟨Nat.le_of_ble_eq_true rfl, Nat.le_of_ble_eq_true rfl⟩) ⟨fun a U g mk q => by obtain ⟨q0, q1, qP, qK, qD⟩ := q; exact ⟨q0, q1, qP, va_K.moved (u := U) (U := U.calling g mk a) (Vm.Alike.refl U.vm) qK, qD⟩, va_recv hK hP (ci := 12) (q0 := 0) rfl rfl, fun U hU hW => ⟨rfl, by rw [hU], by rw [hU]; exact hPc, va_K.moved hW.alike hKc, hDc.weaken (fun _ _ _ _ => trivial)⟩⟩ rfl rfl hl.1 rfl (lv_room (Nat.le_of_ble_eq_true rfl)) dL_law_249 ⟨Nat.le_of_ble_eq_true rfl, Nat.le_of_ble_eq_true rfl⟩) hS (fun q _ h => hFc q h) hFc (fun r_3 u_ t H1 locs ht hvm hw_4 hB hz1 hk1 hS => ?_)
  obtain ⟨hP, hD⟩ := va_join (wr := []) (w1 := []) hP hD [0, 1, 2] [] rfl rfl (by decide) (by decide) hk1 hFc tz_P0 tz_D0
  generalize H1 = H at hP hS ⊢
  have hP : va_P (dC, dI) vwCl [] H := hP
  have hD : va_D A [] := hD
  obtain rfl : (if 90 ≤ (xs 1) ∧ (xs 1) ≤ 110 then (if (xs 1) ≤ (xs 2) ∧ (xs 2) ≤ 110 then 0 else (-2)) else (-2)) = r_3 := hw_4.symm
  refine lv_icmp_eq (tgt := 1155) hx hb dL_law_252 (by decide) (fun c_5 => ?_) (fun c_5 => ?_)
  · refine lv_iinc (v := 6) (lv' := [(3, .int 6), (2, .ref mo), (1, .ref o), (0, .ref b)]) hx hb dL_law_1155 hl (k := 0) rfl (by decide) (by decide) rfl (fun ls hl => ?_)
    refine lv_goto (tgt := 18) hx hb dL_law_1158 (by decide) ?_
    refine lv_iload_n hx hb dL_law_18 rfl (lv_at hl 0 rfl) ?_
    refine lv_aload_n hx hb dL_law_19 rfl (lv_at hl 3 rfl) ?_
    refine va_slen hx hb hX hbl hbA hS dL_law_20 ?_
    refine tz_i 6 rfl ?_
    refine lv_bipush (v := 6) hx hb dL_law_21 (by decide) ?_
    refine lv_isub hx hb dL_law_23 ?_
    refine tz_i 0 (by decide) ?_
    refine lv_icmp_gt (tgt := 1161) hx hb dL_law_24 (by decide) (fun c_6 => ?_) (fun c_6 => ?_)
    · refine lv_iconst (v := 1) hx hb dL_law_1161 (by decide) ?_
      refine va_forget (fun q hq => hA2 _ (hS.2.2 q hq)) ?_
      refine W.widen (k := 600000) (n := 7302250) (Nat.le_of_ble_eq_true rfl) (Nat.le_of_ble_eq_true rfl) ?_
      exact lw_ret hx hb hr hlocks dL_law_1162
    · exact absurd c_6 (by decide)
  · exact absurd rfl c_5
set_option maxRecDepth 20000 in
theorem gL_law_X11_band : GoodIn lw_tbl (wsV RL 28 RX11 yX11_band wsX11_band) := tz_good [(10, 0), (10, 1), (10, 2), (0, 2), (10, 3), (1, 10), (5, 20), (7, 3), (10, 4), (10, 5), (10, 6), (3, 4), (10, 7), (3, 15), (7, 4), (7, 5), (0, 2), (7, 6), (7, 7), (7, 8), (7, 9), (7, 10), (7, 11), (7, 12), (7, 13), (7, 14), (2, 6), (10, 8), (10, 9), (10, 10), (10, 11), (3, 22), (3, 21), (8, 8), (8, 9), (8, 10), (8, 11), (10, 12), (10, 13), (10, 14), (1, 9), (10, 15), (3, 6), (8, 4), (8, 5), (8, 6), (8, 7), (46, 0), (46, 1), (46, 2), (46, 3), (46, 4), (46, 5), (46, 6), (46, 7), (46, 8), (46, 9), (46, 10), (46, 11), (54, 0), (54, 1), (54, 2), (54, 3), (54, 4), (54, 5), (58, 0), (58, 1), (58, 2), (58, 3)] (by decide +kernel) (by decide +kernel)
set_option maxRecDepth 20000 in
theorem gL_law_X12_band : GoodIn lw_tbl (wsV RL 32 RX12 yX12_band wsX12_band) := tz_good [(10, 16), (10, 17), (10, 18), (0, 5), (10, 19), (9, 19), (9, 20), (5, 4), (10, 20), (10, 21), (10, 22), (0, 5), (10, 23), (8, 17), (8, 18), (8, 19), (11, 0), (11, 1), (11, 2), (11, 3), (8, 20), (8, 21), (8, 22), (8, 23), (5, 7), (11, 4), (11, 5), (11, 6), (11, 7), (11, 8), (11, 9), (11, 10), (47, 0), (47, 1), (47, 2), (47, 3), (47, 4), (47, 5), (47, 6), (47, 7), (47, 8), (47, 9), (47, 10), (47, 11), (47, 12), (47, 13), (47, 14), (47, 15), (47, 16), (47, 17), (47, 18), (47, 19), (47, 20), (47, 21), (47, 22), (47, 23)] (by decide +kernel) (by decide +kernel)
theorem dL_law_257 : decode cL_law 257 = .ok (.aload_n 1, 1) := by decide +kernel
theorem dL_law_258 : decode cL_law 258 = .ok (.aload_n 0, 1) := by decide +kernel
theorem dL_law_259 : decode cL_law 259 = .ok (.iload_n 3, 1) := by decide +kernel
theorem dL_law_260 : decode cL_law 260 = .ok (.iconst 1, 1) := by decide +kernel
theorem dL_law_261 : decode cL_law 261 = .ok (.iadd, 1) := by decide +kernel
theorem dL_law_262 : decode cL_law 262 = .ok (.iaload, 1) := by decide +kernel
theorem dL_law_263 : decode cL_law 263 = .ok (.aload_n 0, 1) := by decide +kernel
theorem dL_law_264 : decode cL_law 264 = .ok (.iload_n 3, 1) := by decide +kernel
theorem dL_law_265 : decode cL_law 265 = .ok (.iconst 2, 1) := by decide +kernel
theorem dL_law_266 : decode cL_law 266 = .ok (.iadd, 1) := by decide +kernel
theorem dL_law_267 : decode cL_law 267 = .ok (.iaload, 1) := by decide +kernel
theorem dL_law_268 : decode cL_law 268 = .ok (.aload_n 0, 1) := by decide +kernel
theorem dL_law_269 : decode cL_law 269 = .ok (.iload_n 3, 1) := by decide +kernel
theorem dL_law_270 : decode cL_law 270 = .ok (.iconst 3, 1) := by decide +kernel
theorem dL_law_271 : decode cL_law 271 = .ok (.iadd, 1) := by decide +kernel
theorem dL_law_272 : decode cL_law 272 = .ok (.iaload, 1) := by decide +kernel
theorem dL_law_273 : decode cL_law 273 = .ok (.invokevirtual 28, 3) := by decide +kernel
theorem dL_law_276 : decode cL_law 276 = .ok (.aload_n 2, 1) := by decide +kernel
theorem dL_law_277 : decode cL_law 277 = .ok (.aload_n 0, 1) := by decide +kernel
theorem dL_law_278 : decode cL_law 278 = .ok (.iload_n 3, 1) := by decide +kernel
theorem dL_law_279 : decode cL_law 279 = .ok (.iconst 1, 1) := by decide +kernel
theorem dL_law_280 : decode cL_law 280 = .ok (.iadd, 1) := by decide +kernel
theorem dL_law_281 : decode cL_law 281 = .ok (.iaload, 1) := by decide +kernel
theorem dL_law_282 : decode cL_law 282 = .ok (.aload_n 0, 1) := by decide +kernel
theorem dL_law_283 : decode cL_law 283 = .ok (.iload_n 3, 1) := by decide +kernel
theorem dL_law_284 : decode cL_law 284 = .ok (.iconst 2, 1) := by decide +kernel
theorem dL_law_285 : decode cL_law 285 = .ok (.iadd, 1) := by decide +kernel
theorem dL_law_286 : decode cL_law 286 = .ok (.iaload, 1) := by decide +kernel
theorem dL_law_287 : decode cL_law 287 = .ok (.aload_n 0, 1) := by decide +kernel
theorem dL_law_288 : decode cL_law 288 = .ok (.iload_n 3, 1) := by decide +kernel
theorem dL_law_289 : decode cL_law 289 = .ok (.iconst 3, 1) := by decide +kernel
theorem dL_law_290 : decode cL_law 290 = .ok (.iadd, 1) := by decide +kernel
theorem dL_law_291 : decode cL_law 291 = .ok (.iaload, 1) := by decide +kernel
theorem dL_law_292 : decode cL_law 292 = .ok (.invokevirtual 32, 3) := by decide +kernel
theorem dL_law_295 : decode cL_law 295 = .ok (.if_icmp .eq 860, 3) := by decide +kernel
set_option maxHeartbeats 4000000 in
set_option maxRecDepth 100000 in
theorem lc_band {p : Program} {l : Launch} {e : Env} {s : State} {m : MethodId} {below : List Frame} {meth : Method} {c : Code} {b : Nat} {xs : Nat → Int32} (C0 : lw_At p s m meth c b 6 xs) (hN : tz_N s) (A : Nat → Prop) (hA : ∀ q : Nat, s.heap.size ≤ q → A q) (hA2 : ∀ q : Nat, A q → s.heap.size ≤ q) (hbA : ¬ A b) (dC : Nat → ClassId) (dI : Nat → Nat → Nat) (o : Nat) (aw : Nat) (bk : Nat) (ai : Nat) (ak : Nat) (sc : Nat) (rd : Nat) (fo : Nat) (tx : Nat) (ar : Nat) (atr : Nat) (ao : Nat) (rk0 : Nat) (rk1 : Nat) (rk2 : Nat) (rk3 : Nat) (eak : Nat) (cak1 : Nat) (cr : ClassId) (mo : Nat) (nw : Nat) (kp : Nat) (ik : Nat) (mr : Nat) (mw : Nat) (mq : Nat) (mz : Nat) (my : Nat) (mb : Nat) (mx : Nat) (mv : Nat) (cn : ClassId) (cm : ClassId) (H : Heap) (locs : List Loc) (hK : va_K (dC, dI) vwCl [(cr, .int), (cn, .int), (cm, .int)] s) (hP : va_P (dC, dI) vwCl [(o, .inr (11, [.ref aw, .ref bk, .ref ai, .ref ak, .ref sc, .ref rd, .ref fo, .ref tx, .int 0, .ref ar, .ref atr, .ref ao])), (bk, .inr (0, [.ref rk0, .ref rk1, .ref rk2, .ref rk3, .ref eak, .int 0])), (rk1, .inr (6, [.int 4, .int 5, .ref cak1, .int 0])), (ar, .inl (cr, 3, .inl (fun _ => 0))), (mo, .inr (12, [.ref nw, .ref kp, .ref ik, .ref mr, .long 0, .long 1, .ref mw, .long 0, .int 0, .int 0, .long 0, .long 0, .ref mq, .ref mz, .ref my, .int 0, .ref mb, .int 0, .int 0, .int 0, .int 0, .int 0, .ref mx, .ref mv])), (nw, .inl (cn, 350, .inl (fun _ => 0))), (mr, .inl (cm, 3, .inl (fun _ => 0)))] H) (hD : va_D A [(o, .inr (11, [.ref aw, .ref bk, .ref ai, .ref ak, .ref sc, .ref rd, .ref fo, .ref tx, .int 0, .ref ar, .ref atr, .ref ao])), (bk, .inr (0, [.ref rk0, .ref rk1, .ref rk2, .ref rk3, .ref eak, .int 0])), (rk1, .inr (6, [.int 4, .int 5, .ref cak1, .int 0])), (ar, .inl (cr, 3, .inl (fun _ => 0))), (mo, .inr (12, [.ref nw, .ref kp, .ref ik, .ref mr, .long 0, .long 1, .ref mw, .long 0, .int 0, .int 0, .long 0, .long 0, .ref mq, .ref mz, .ref my, .int 0, .ref mb, .int 0, .int 0, .int 0, .int 0, .int 0, .ref mx, .ref mv])), (nw, .inl (cn, 350, .inl (fun _ => 0))), (mr, .inl (cm, 3, .inl (fun _ => 0)))]) (hS : va_S A s.heap H locs) (ls : Array Slot) (hl : lv_has ls 4 [(3, .int 0), (2, .ref mo), (1, .ref o), (0, .ref b)]) : W p l e room_1 s m #[Value.ref b] below meth c H locs 136 3195 (lw_Z below #[Value.ref b] s) (F0 m 257 ls []) := by
  obtain ⟨hx, hb, hr, hml, hown, hts, hX, hbl, hlocks, hgv⟩ := C0
  have hb : c.code = cL_law := hb
  have hown : s.vm.findClass RL = some m.cls := hown
  refine lv_aload_n hx hb dL_law_257 rfl (lv_at hl 2 rfl) ?_
  refine lv_aload_n hx hb dL_law_258 rfl (lv_at hl 3 rfl) ?_
  refine lv_iload_n hx hb dL_law_259 rfl (lv_at hl 0 rfl) ?_
  refine lv_iconst (v := 1) hx hb dL_law_260 (by decide) ?_
  refine lv_iadd hx hb dL_law_261 ?_
  refine tz_i 1 (by decide) ?_
  refine va_sld hx hb hX hbl hbA hS (show ¬ ((1 : Int32) < 0 ∨ 6 ≤ (1 : Int32).toNatClampNeg) by decide) dL_law_262 ?_
  refine tz_i (xs 1) rfl ?_
  refine lv_aload_n hx hb dL_law_263 rfl (lv_at hl 3 rfl) ?_
  refine lv_iload_n hx hb dL_law_264 rfl (lv_at hl 0 rfl) ?_
  refine lv_iconst (v := 2) hx hb dL_law_265 (by decide) ?_
  refine lv_iadd hx hb dL_law_266 ?_
  refine tz_i 2 (by decide) ?_
  refine va_sld hx hb hX hbl hbA hS (show ¬ ((2 : Int32) < 0 ∨ 6 ≤ (2 : Int32).toNatClampNeg) by decide) dL_law_267 ?_
  refine tz_i (xs 2) rfl ?_
  refine lv_aload_n hx hb dL_law_268 rfl (lv_at hl 3 rfl) ?_
  refine lv_iload_n hx hb dL_law_269 rfl (lv_at hl 0 rfl) ?_
  refine lv_iconst (v := 3) hx hb dL_law_270 (by decide) ?_
  refine lv_iadd hx hb dL_law_271 ?_
  refine tz_i 3 (by decide) ?_
  refine va_sld hx hb hX hbl hbA hS (show ¬ ((3 : Int32) < 0 ∨ 6 ≤ (3 : Int32).toNatClampNeg) by decide) dL_law_272 ?_
  refine tz_i (xs 3) rfl ?_
  have hPc := hP.sub (ws' := [(o, .inr (11, [.ref aw, .ref bk, .ref ai, .ref ak, .ref sc, .ref rd, .ref fo, .ref tx, .int 0, .ref ar, .ref atr, .ref ao])), (bk, .inr (0, [.ref rk0, .ref rk1, .ref rk2, .ref rk3, .ref eak, .int 0])), (rk1, .inr (6, [.int 4, .int 5, .ref cak1, .int 0])), (ar, .inl (cr, 3, .inl (fun _ => 0)))]) [0, 1, 2, 3] rfl
  have hDc := hD.sub (ws' := [(o, .inr (11, [.ref aw, .ref bk, .ref ai, .ref ak, .ref sc, .ref rd, .ref fo, .ref tx, .int 0, .ref ar, .ref atr, .ref ao])), (bk, .inr (0, [.ref rk0, .ref rk1, .ref rk2, .ref rk3, .ref eak, .int 0])), (rk1, .inr (6, [.int 4, .int 5, .ref cak1, .int 0])), (ar, .inl (cr, 3, .inl (fun _ => 0)))]) [0, 1, 2, 3] (by decide) rfl
  have hKc := hK.sub (tys' := [(cr, .int)]) [0] rfl
  have hFc := va_free (wc := [(o, .inr (11, [.ref aw, .ref bk, .ref ai, .ref ak, .ref sc, .ref rd, .ref fo, .ref tx, .int 0, .ref ar, .ref atr, .ref ao])), (bk, .inr (0, [.ref rk0, .ref rk1, .ref rk2, .ref rk3, .ref eak, .int 0])), (rk1, .inr (6, [.int 4, .int 5, .ref cak1, .int 0])), (ar, .inl (cr, 3, .inl (fun _ => 0)))]) hD hS hA [0, 1, 2, 3] rfl
  refine va_calli (va_runV (As := [.int (xs 1), .int (xs 2), .int (xs 3)]) (rest := []) ⟨hx, hb, hml, hown, hts⟩ (k_x_band l dC dI o aw bk ai ak sc rd fo tx ar atr ao rk0 rk1 rk2 rk3 eak cak1 cr (xs 1) (xs 2) (xs 3) H.size) (cwV 3 hts gL_law_X11_band rfl rfl rfl (by decide +kernel) ⟨Nat.le_of_ble_eq_true rfl, Nat.le_of_ble_eq_true rfl⟩) ⟨fun a U g mk q => by obtain ⟨q0, q1, qP, qK, qD⟩ := q; exact ⟨q0, q1, qP, va_K.moved (u := U) (U := U.calling g mk a) (Vm.Alike.refl U.vm) qK, qD⟩, va_recv hK hP (ci := 11) (q0 := 0) rfl rfl, fun U hU hW => ⟨rfl, by rw [hU], by rw [hU]; exact hPc, va_K.moved hW.alike hKc, hDc.weaken (fun _ _ _ _ => trivial)⟩⟩ rfl rfl hl.1 rfl (lv_room (Nat.le_of_ble_eq_true rfl)) dL_law_273 ⟨Nat.le_of_ble_eq_true rfl, Nat.le_of_ble_eq_true rfl⟩) hS (fun q _ h => hFc q h) hFc (fun r_1 u_ t H1 locs ht hvm hw_2 hB hz1 hk1 hS => ?_)
  obtain ⟨hP, hD⟩ := va_join (wr := [(mo, .inr (12, [.ref nw, .ref kp, .ref ik, .ref mr, .long 0, .long 1, .ref mw, .long 0, .int 0, .int 0, .long 0, .long 0, .ref mq, .ref mz, .ref my, .int 0, .ref mb, .int 0, .int 0, .int 0, .int 0, .int 0, .ref mx, .ref mv])), (nw, .inl (cn, 350, .inl (fun _ => 0))), (mr, .inl (cm, 3, .inl (fun _ => 0)))]) (w1 := []) hP hD [0, 1, 2, 3] [4, 5, 6] rfl rfl (by decide) (by decide) hk1 hFc tz_P0 tz_D0
  generalize H1 = H at hP hS ⊢
  have hP : va_P (dC, dI) vwCl [(mo, .inr (12, [.ref nw, .ref kp, .ref ik, .ref mr, .long 0, .long 1, .ref mw, .long 0, .int 0, .int 0, .long 0, .long 0, .ref mq, .ref mz, .ref my, .int 0, .ref mb, .int 0, .int 0, .int 0, .int 0, .int 0, .ref mx, .ref mv])), (nw, .inl (cn, 350, .inl (fun _ => 0))), (mr, .inl (cm, 3, .inl (fun _ => 0)))] H := hP
  have hD : va_D A [(mo, .inr (12, [.ref nw, .ref kp, .ref ik, .ref mr, .long 0, .long 1, .ref mw, .long 0, .int 0, .int 0, .long 0, .long 0, .ref mq, .ref mz, .ref my, .int 0, .ref mb, .int 0, .int 0, .int 0, .int 0, .int 0, .ref mx, .ref mv])), (nw, .inl (cn, 350, .inl (fun _ => 0))), (mr, .inl (cm, 3, .inl (fun _ => 0)))] := hD
  obtain rfl : (-2) = r_1 := hw_2.symm
  refine lv_aload_n hx hb dL_law_276 rfl (lv_at hl 1 rfl) ?_
  refine lv_aload_n hx hb dL_law_277 rfl (lv_at hl 3 rfl) ?_
  refine lv_iload_n hx hb dL_law_278 rfl (lv_at hl 0 rfl) ?_
  refine lv_iconst (v := 1) hx hb dL_law_279 (by decide) ?_
  refine lv_iadd hx hb dL_law_280 ?_
  refine tz_i 1 (by decide) ?_
  refine va_sld hx hb hX hbl hbA hS (show ¬ ((1 : Int32) < 0 ∨ 6 ≤ (1 : Int32).toNatClampNeg) by decide) dL_law_281 ?_
  refine tz_i (xs 1) rfl ?_
  refine lv_aload_n hx hb dL_law_282 rfl (lv_at hl 3 rfl) ?_
  refine lv_iload_n hx hb dL_law_283 rfl (lv_at hl 0 rfl) ?_
  refine lv_iconst (v := 2) hx hb dL_law_284 (by decide) ?_
  refine lv_iadd hx hb dL_law_285 ?_
  refine tz_i 2 (by decide) ?_
  refine va_sld hx hb hX hbl hbA hS (show ¬ ((2 : Int32) < 0 ∨ 6 ≤ (2 : Int32).toNatClampNeg) by decide) dL_law_286 ?_
  refine tz_i (xs 2) rfl ?_
  refine lv_aload_n hx hb dL_law_287 rfl (lv_at hl 3 rfl) ?_
  refine lv_iload_n hx hb dL_law_288 rfl (lv_at hl 0 rfl) ?_
  refine lv_iconst (v := 3) hx hb dL_law_289 (by decide) ?_
  refine lv_iadd hx hb dL_law_290 ?_
  refine tz_i 3 (by decide) ?_
  refine va_sld hx hb hX hbl hbA hS (show ¬ ((3 : Int32) < 0 ∨ 6 ≤ (3 : Int32).toNatClampNeg) by decide) dL_law_291 ?_
  refine tz_i (xs 3) rfl ?_
  have hPc := hP.sub (ws' := [(mo, .inr (12, [.ref nw, .ref kp, .ref ik, .ref mr, .long 0, .long 1, .ref mw, .long 0, .int 0, .int 0, .long 0, .long 0, .ref mq, .ref mz, .ref my, .int 0, .ref mb, .int 0, .int 0, .int 0, .int 0, .int 0, .ref mx, .ref mv])), (nw, .inl (cn, 350, .inl (fun _ => 0))), (mr, .inl (cm, 3, .inl (fun _ => 0)))]) [0, 1, 2] rfl
  have hDc := hD.sub (ws' := [(mo, .inr (12, [.ref nw, .ref kp, .ref ik, .ref mr, .long 0, .long 1, .ref mw, .long 0, .int 0, .int 0, .long 0, .long 0, .ref mq, .ref mz, .ref my, .int 0, .ref mb, .int 0, .int 0, .int 0, .int 0, .int 0, .ref mx, .ref mv])), (nw, .inl (cn, 350, .inl (fun _ => 0))), (mr, .inl (cm, 3, .inl (fun _ => 0)))]) [0, 1, 2] (by decide) rfl
  have hKc := hK.sub (tys' := [(cn, .int), (cm, .int)]) [1, 2] rfl
  have hFc := va_free (wc := [(mo, .inr (12, [.ref nw, .ref kp, .ref ik, .ref mr, .long 0, .long 1, .ref mw, .long 0, .int 0, .int 0, .long 0, .long 0, .ref mq, .ref mz, .ref my, .int 0, .ref mb, .int 0, .int 0, .int 0, .int 0, .int 0, .ref mx, .ref mv])), (nw, .inl (cn, 350, .inl (fun _ => 0))), (mr, .inl (cm, 3, .inl (fun _ => 0)))]) hD hS hA [0, 1, 2] rfl
  refine va_calli (va_runV (As := [.int (xs 1), .int (xs 2), .int (xs 3)]) (rest := [.int (-2)]) ⟨hx, hb, hml, hown, hts⟩ (k_m_band l dC dI mo nw kp ik mr mw mq mz my mb mx mv cn cm (xs 1) (xs 2) (xs 3) H.size) (cwV 3 hts gL_law_X12_band rfl rfl rfl (by decide +kernel) ⟨Nat.le_of_ble_eq_true rfl, Nat.le_of_ble_eq_true rfl⟩) ⟨fun a U g mk q => by obtain ⟨q0, q1, qP, qK, qD⟩ := q; exact ⟨q0, q1, qP, va_K.moved (u := U) (U := U.calling g mk a) (Vm.Alike.refl U.vm) qK, qD⟩, va_recv hK hP (ci := 12) (q0 := 0) rfl rfl, fun U hU hW => ⟨rfl, by rw [hU], by rw [hU]; exact hPc, va_K.moved hW.alike hKc, hDc.weaken (fun _ _ _ _ => trivial)⟩⟩ rfl rfl hl.1 rfl (lv_room (Nat.le_of_ble_eq_true rfl)) dL_law_292 ⟨Nat.le_of_ble_eq_true rfl, Nat.le_of_ble_eq_true rfl⟩) hS (fun q _ h => hFc q h) hFc (fun r_3 u_ t H1 locs ht hvm hw_4 hB hz1 hk1 hS => ?_)
  obtain ⟨hP, hD⟩ := va_join (wr := []) (w1 := []) hP hD [0, 1, 2] [] rfl rfl (by decide) (by decide) hk1 hFc tz_P0 tz_D0
  generalize H1 = H at hP hS ⊢
  have hP : va_P (dC, dI) vwCl [] H := hP
  have hD : va_D A [] := hD
  obtain rfl : (-2) = r_3 := hw_4.symm
  refine lv_icmp_eq (tgt := 1155) hx hb dL_law_295 (by decide) (fun c_5 => ?_) (fun c_5 => ?_)
  · refine lv_iinc (v := 6) (lv' := [(3, .int 6), (2, .ref mo), (1, .ref o), (0, .ref b)]) hx hb dL_law_1155 hl (k := 0) rfl (by decide) (by decide) rfl (fun ls hl => ?_)
    refine lv_goto (tgt := 18) hx hb dL_law_1158 (by decide) ?_
    refine lv_iload_n hx hb dL_law_18 rfl (lv_at hl 0 rfl) ?_
    refine lv_aload_n hx hb dL_law_19 rfl (lv_at hl 3 rfl) ?_
    refine va_slen hx hb hX hbl hbA hS dL_law_20 ?_
    refine tz_i 6 rfl ?_
    refine lv_bipush (v := 6) hx hb dL_law_21 (by decide) ?_
    refine lv_isub hx hb dL_law_23 ?_
    refine tz_i 0 (by decide) ?_
    refine lv_icmp_gt (tgt := 1161) hx hb dL_law_24 (by decide) (fun c_6 => ?_) (fun c_6 => ?_)
    · refine lv_iconst (v := 1) hx hb dL_law_1161 (by decide) ?_
      refine va_forget (fun q hq => hA2 _ (hS.2.2 q hq)) ?_
      refine W.widen (k := 600000) (n := 7302250) (Nat.le_of_ble_eq_true rfl) (Nat.le_of_ble_eq_true rfl) ?_
      exact lw_ret hx hb hr hlocks dL_law_1162
    · exact absurd c_6 (by decide)
  · exact absurd c_5 (by decide)
set_option maxRecDepth 20000 in
theorem gL_law_X11_tell : GoodIn lw_tbl (wsV RL 33 RX11 yX11_tell wsX11_tell) := tz_good [(11, 11), (11, 12), (11, 13), (0, 2), (11, 14), (1, 10), (5, 20), (7, 3), (11, 15), (10, 4), (10, 5), (10, 6), (3, 4), (10, 7), (3, 15), (11, 16), (11, 17), (11, 18), (0, 2), (11, 19), (1, 6), (7, 4), (7, 5), (7, 6), (7, 7), (7, 8), (7, 9), (7, 10), (7, 11), (7, 12), (7, 13), (7, 14), (2, 6), (7, 15), (7, 16), (7, 17), (7, 18), (3, 20), (11, 20), (11, 21), (11, 22), (1, 9), (11, 23), (3, 10), (3, 9), (3, 7), (12, 0), (12, 1), (12, 2), (12, 3), (12, 4), (12, 5), (12, 6), (12, 7), (12, 8), (12, 9), (3, 18), (12, 10), (3, 22), (12, 11), (12, 12), (12, 13), (12, 14), (12, 15), (12, 16), (12, 17), (12, 18), (7, 23), (8, 0), (8, 1), (8, 2), (8, 3), (8, 4), (8, 5), (8, 6), (8, 7), (3, 21), (8, 8), (8, 9), (8, 10), (8, 11), (46, 0), (46, 1), (46, 2), (46, 3), (46, 4), (46, 5), (46, 6), (46, 7), (46, 8), (46, 9), (46, 10), (46, 11), (54, 0), (54, 1), (54, 2), (54, 3), (54, 4), (54, 5), (58, 0), (58, 1), (58, 2), (58, 3)] (by decide +kernel) (by decide +kernel)
set_option maxRecDepth 20000 in
theorem gL_law_X12_tell : GoodIn lw_tbl (wsV RL 37 RX12 yX12_tell wsX12_tell) := tz_good [(12, 19), (12, 20), (12, 21), (0, 5), (12, 22), (12, 23), (13, 0), (5, 4), (10, 20), (10, 21), (10, 22), (0, 5), (10, 23), (8, 17), (8, 18), (8, 19), (13, 1), (13, 2), (13, 3), (13, 4), (11, 0), (11, 1), (11, 2), (11, 3), (8, 20), (8, 21), (8, 22), (8, 23), (5, 7), (9, 0), (9, 1), (9, 2), (9, 3), (13, 5), (13, 6), (13, 7), (13, 8), (13, 9), (13, 10), (13, 11), (47, 0), (47, 1), (47, 2), (47, 3), (47, 4), (47, 5), (47, 6), (47, 7), (47, 8), (47, 9), (47, 10), (47, 11), (47, 12), (47, 13), (47, 14), (47, 15), (47, 16), (47, 17), (47, 18), (47, 19), (47, 20), (47, 21), (47, 22), (47, 23)] (by decide +kernel) (by decide +kernel)
theorem dL_law_300 : decode cL_law 300 = .ok (.aload_n 1, 1) := by decide +kernel
theorem dL_law_301 : decode cL_law 301 = .ok (.aload_n 0, 1) := by decide +kernel
theorem dL_law_302 : decode cL_law 302 = .ok (.iload_n 3, 1) := by decide +kernel
theorem dL_law_303 : decode cL_law 303 = .ok (.iconst 1, 1) := by decide +kernel
theorem dL_law_304 : decode cL_law 304 = .ok (.iadd, 1) := by decide +kernel
theorem dL_law_305 : decode cL_law 305 = .ok (.iaload, 1) := by decide +kernel
theorem dL_law_306 : decode cL_law 306 = .ok (.aload_n 0, 1) := by decide +kernel
theorem dL_law_307 : decode cL_law 307 = .ok (.iload_n 3, 1) := by decide +kernel
theorem dL_law_308 : decode cL_law 308 = .ok (.iconst 2, 1) := by decide +kernel
theorem dL_law_309 : decode cL_law 309 = .ok (.iadd, 1) := by decide +kernel
theorem dL_law_310 : decode cL_law 310 = .ok (.iaload, 1) := by decide +kernel
theorem dL_law_311 : decode cL_law 311 = .ok (.aload_n 0, 1) := by decide +kernel
theorem dL_law_312 : decode cL_law 312 = .ok (.iload_n 3, 1) := by decide +kernel
theorem dL_law_313 : decode cL_law 313 = .ok (.iconst 3, 1) := by decide +kernel
theorem dL_law_314 : decode cL_law 314 = .ok (.iadd, 1) := by decide +kernel
theorem dL_law_315 : decode cL_law 315 = .ok (.iaload, 1) := by decide +kernel
theorem dL_law_316 : decode cL_law 316 = .ok (.aload_n 0, 1) := by decide +kernel
theorem dL_law_317 : decode cL_law 317 = .ok (.iload_n 3, 1) := by decide +kernel
theorem dL_law_318 : decode cL_law 318 = .ok (.iconst 4, 1) := by decide +kernel
theorem dL_law_319 : decode cL_law 319 = .ok (.iadd, 1) := by decide +kernel
theorem dL_law_320 : decode cL_law 320 = .ok (.iaload, 1) := by decide +kernel
theorem dL_law_321 : decode cL_law 321 = .ok (.invokevirtual 33, 3) := by decide +kernel
theorem dL_law_324 : decode cL_law 324 = .ok (.aload_n 2, 1) := by decide +kernel
theorem dL_law_325 : decode cL_law 325 = .ok (.aload_n 0, 1) := by decide +kernel
theorem dL_law_326 : decode cL_law 326 = .ok (.iload_n 3, 1) := by decide +kernel
theorem dL_law_327 : decode cL_law 327 = .ok (.iconst 1, 1) := by decide +kernel
theorem dL_law_328 : decode cL_law 328 = .ok (.iadd, 1) := by decide +kernel
theorem dL_law_329 : decode cL_law 329 = .ok (.iaload, 1) := by decide +kernel
theorem dL_law_330 : decode cL_law 330 = .ok (.aload_n 0, 1) := by decide +kernel
theorem dL_law_331 : decode cL_law 331 = .ok (.iload_n 3, 1) := by decide +kernel
theorem dL_law_332 : decode cL_law 332 = .ok (.iconst 2, 1) := by decide +kernel
theorem dL_law_333 : decode cL_law 333 = .ok (.iadd, 1) := by decide +kernel
theorem dL_law_334 : decode cL_law 334 = .ok (.iaload, 1) := by decide +kernel
theorem dL_law_335 : decode cL_law 335 = .ok (.aload_n 0, 1) := by decide +kernel
theorem dL_law_336 : decode cL_law 336 = .ok (.iload_n 3, 1) := by decide +kernel
theorem dL_law_337 : decode cL_law 337 = .ok (.iconst 3, 1) := by decide +kernel
theorem dL_law_338 : decode cL_law 338 = .ok (.iadd, 1) := by decide +kernel
theorem dL_law_339 : decode cL_law 339 = .ok (.iaload, 1) := by decide +kernel
theorem dL_law_340 : decode cL_law 340 = .ok (.aload_n 0, 1) := by decide +kernel
theorem dL_law_341 : decode cL_law 341 = .ok (.iload_n 3, 1) := by decide +kernel
theorem dL_law_342 : decode cL_law 342 = .ok (.iconst 4, 1) := by decide +kernel
theorem dL_law_343 : decode cL_law 343 = .ok (.iadd, 1) := by decide +kernel
theorem dL_law_344 : decode cL_law 344 = .ok (.iaload, 1) := by decide +kernel
theorem dL_law_345 : decode cL_law 345 = .ok (.invokevirtual 37, 3) := by decide +kernel
theorem dL_law_348 : decode cL_law 348 = .ok (.if_icmp .eq 807, 3) := by decide +kernel
set_option maxHeartbeats 4000000 in
set_option maxRecDepth 100000 in
theorem lc_tell {p : Program} {l : Launch} {e : Env} {s : State} {m : MethodId} {below : List Frame} {meth : Method} {c : Code} {b : Nat} {xs : Nat → Int32} (C0 : lw_At p s m meth c b 6 xs) (hN : tz_N s) (A : Nat → Prop) (hA : ∀ q : Nat, s.heap.size ≤ q → A q) (hA2 : ∀ q : Nat, A q → s.heap.size ≤ q) (hbA : ¬ A b) (dC : Nat → ClassId) (dI : Nat → Nat → Nat) (o : Nat) (aw : Nat) (bk : Nat) (ai : Nat) (ak : Nat) (sc : Nat) (rd : Nat) (fo : Nat) (tx : Nat) (ar : Nat) (atr : Nat) (ao : Nat) (rk0 : Nat) (rk1 : Nat) (rk2 : Nat) (rk3 : Nat) (eak : Nat) (cak1 : Nat) (cr : ClassId) (mo : Nat) (nw : Nat) (kp : Nat) (ik : Nat) (mr : Nat) (mw : Nat) (mq : Nat) (mz : Nat) (my : Nat) (mb : Nat) (mx : Nat) (mv : Nat) (cn : ClassId) (cm : ClassId) (H : Heap) (locs : List Loc) (hK : va_K (dC, dI) vwCl [(cr, .int), (cn, .int), (cm, .int)] s) (hP : va_P (dC, dI) vwCl [(o, .inr (11, [.ref aw, .ref bk, .ref ai, .ref ak, .ref sc, .ref rd, .ref fo, .ref tx, .int 0, .ref ar, .ref atr, .ref ao])), (bk, .inr (0, [.ref rk0, .ref rk1, .ref rk2, .ref rk3, .ref eak, .int 0])), (rk1, .inr (6, [.int 4, .int 5, .ref cak1, .int 0])), (ar, .inl (cr, 3, .inl (fun _ => 0))), (mo, .inr (12, [.ref nw, .ref kp, .ref ik, .ref mr, .long 0, .long 1, .ref mw, .long 0, .int 0, .int 0, .long 0, .long 0, .ref mq, .ref mz, .ref my, .int 0, .ref mb, .int 0, .int 0, .int 0, .int 0, .int 0, .ref mx, .ref mv])), (nw, .inl (cn, 350, .inl (fun _ => 0))), (mr, .inl (cm, 3, .inl (fun _ => 0)))] H) (hD : va_D A [(o, .inr (11, [.ref aw, .ref bk, .ref ai, .ref ak, .ref sc, .ref rd, .ref fo, .ref tx, .int 0, .ref ar, .ref atr, .ref ao])), (bk, .inr (0, [.ref rk0, .ref rk1, .ref rk2, .ref rk3, .ref eak, .int 0])), (rk1, .inr (6, [.int 4, .int 5, .ref cak1, .int 0])), (ar, .inl (cr, 3, .inl (fun _ => 0))), (mo, .inr (12, [.ref nw, .ref kp, .ref ik, .ref mr, .long 0, .long 1, .ref mw, .long 0, .int 0, .int 0, .long 0, .long 0, .ref mq, .ref mz, .ref my, .int 0, .ref mb, .int 0, .int 0, .int 0, .int 0, .int 0, .ref mx, .ref mv])), (nw, .inl (cn, 350, .inl (fun _ => 0))), (mr, .inl (cm, 3, .inl (fun _ => 0)))]) (hS : va_S A s.heap H locs) (ls : Array Slot) (hl : lv_has ls 4 [(3, .int 0), (2, .ref mo), (1, .ref o), (0, .ref b)]) : W p l e room_1 s m #[Value.ref b] below meth c H locs 136 3195 (lw_Z below #[Value.ref b] s) (F0 m 300 ls []) := by
  obtain ⟨hx, hb, hr, hml, hown, hts, hX, hbl, hlocks, hgv⟩ := C0
  have hb : c.code = cL_law := hb
  have hown : s.vm.findClass RL = some m.cls := hown
  refine lv_aload_n hx hb dL_law_300 rfl (lv_at hl 2 rfl) ?_
  refine lv_aload_n hx hb dL_law_301 rfl (lv_at hl 3 rfl) ?_
  refine lv_iload_n hx hb dL_law_302 rfl (lv_at hl 0 rfl) ?_
  refine lv_iconst (v := 1) hx hb dL_law_303 (by decide) ?_
  refine lv_iadd hx hb dL_law_304 ?_
  refine tz_i 1 (by decide) ?_
  refine va_sld hx hb hX hbl hbA hS (show ¬ ((1 : Int32) < 0 ∨ 6 ≤ (1 : Int32).toNatClampNeg) by decide) dL_law_305 ?_
  refine tz_i (xs 1) rfl ?_
  refine lv_aload_n hx hb dL_law_306 rfl (lv_at hl 3 rfl) ?_
  refine lv_iload_n hx hb dL_law_307 rfl (lv_at hl 0 rfl) ?_
  refine lv_iconst (v := 2) hx hb dL_law_308 (by decide) ?_
  refine lv_iadd hx hb dL_law_309 ?_
  refine tz_i 2 (by decide) ?_
  refine va_sld hx hb hX hbl hbA hS (show ¬ ((2 : Int32) < 0 ∨ 6 ≤ (2 : Int32).toNatClampNeg) by decide) dL_law_310 ?_
  refine tz_i (xs 2) rfl ?_
  refine lv_aload_n hx hb dL_law_311 rfl (lv_at hl 3 rfl) ?_
  refine lv_iload_n hx hb dL_law_312 rfl (lv_at hl 0 rfl) ?_
  refine lv_iconst (v := 3) hx hb dL_law_313 (by decide) ?_
  refine lv_iadd hx hb dL_law_314 ?_
  refine tz_i 3 (by decide) ?_
  refine va_sld hx hb hX hbl hbA hS (show ¬ ((3 : Int32) < 0 ∨ 6 ≤ (3 : Int32).toNatClampNeg) by decide) dL_law_315 ?_
  refine tz_i (xs 3) rfl ?_
  refine lv_aload_n hx hb dL_law_316 rfl (lv_at hl 3 rfl) ?_
  refine lv_iload_n hx hb dL_law_317 rfl (lv_at hl 0 rfl) ?_
  refine lv_iconst (v := 4) hx hb dL_law_318 (by decide) ?_
  refine lv_iadd hx hb dL_law_319 ?_
  refine tz_i 4 (by decide) ?_
  refine va_sld hx hb hX hbl hbA hS (show ¬ ((4 : Int32) < 0 ∨ 6 ≤ (4 : Int32).toNatClampNeg) by decide) dL_law_320 ?_
  refine tz_i (xs 4) rfl ?_
  have hPc := hP.sub (ws' := [(o, .inr (11, [.ref aw, .ref bk, .ref ai, .ref ak, .ref sc, .ref rd, .ref fo, .ref tx, .int 0, .ref ar, .ref atr, .ref ao])), (bk, .inr (0, [.ref rk0, .ref rk1, .ref rk2, .ref rk3, .ref eak, .int 0])), (rk1, .inr (6, [.int 4, .int 5, .ref cak1, .int 0])), (ar, .inl (cr, 3, .inl (fun _ => 0)))]) [0, 1, 2, 3] rfl
  have hDc := hD.sub (ws' := [(o, .inr (11, [.ref aw, .ref bk, .ref ai, .ref ak, .ref sc, .ref rd, .ref fo, .ref tx, .int 0, .ref ar, .ref atr, .ref ao])), (bk, .inr (0, [.ref rk0, .ref rk1, .ref rk2, .ref rk3, .ref eak, .int 0])), (rk1, .inr (6, [.int 4, .int 5, .ref cak1, .int 0])), (ar, .inl (cr, 3, .inl (fun _ => 0)))]) [0, 1, 2, 3] (by decide) rfl
  have hKc := hK.sub (tys' := [(cr, .int)]) [0] rfl
  have hFc := va_free (wc := [(o, .inr (11, [.ref aw, .ref bk, .ref ai, .ref ak, .ref sc, .ref rd, .ref fo, .ref tx, .int 0, .ref ar, .ref atr, .ref ao])), (bk, .inr (0, [.ref rk0, .ref rk1, .ref rk2, .ref rk3, .ref eak, .int 0])), (rk1, .inr (6, [.int 4, .int 5, .ref cak1, .int 0])), (ar, .inl (cr, 3, .inl (fun _ => 0)))]) hD hS hA [0, 1, 2, 3] rfl
  refine va_calli (va_runV (As := [.int (xs 1), .int (xs 2), .int (xs 3), .int (xs 4)]) (rest := []) ⟨hx, hb, hml, hown, hts⟩ (k_x_tell l dC dI o aw bk ai ak sc rd fo tx ar atr ao rk0 rk1 rk2 rk3 eak cak1 cr (xs 1) (xs 2) (xs 3) (xs 4) H.size) (cwV 4 hts gL_law_X11_tell rfl rfl rfl (by decide +kernel) ⟨Nat.le_of_ble_eq_true rfl, Nat.le_of_ble_eq_true rfl⟩) ⟨fun a U g mk q => by obtain ⟨q0, q1, qP, qK, qD⟩ := q; exact ⟨q0, q1, qP, va_K.moved (u := U) (U := U.calling g mk a) (Vm.Alike.refl U.vm) qK, qD⟩, va_recv hK hP (ci := 11) (q0 := 0) rfl rfl, fun U hU hW => ⟨rfl, by rw [hU], by rw [hU]; exact hPc, va_K.moved hW.alike hKc, hDc.weaken (fun _ _ _ _ => trivial)⟩⟩ rfl rfl hl.1 rfl (lv_room (Nat.le_of_ble_eq_true rfl)) dL_law_321 ⟨Nat.le_of_ble_eq_true rfl, Nat.le_of_ble_eq_true rfl⟩) hS (fun q _ h => hFc q h) hFc (fun r_1 u_ t H1 locs ht hvm hw_2 hB hz1 hk1 hS => ?_)
  obtain ⟨hP, hD⟩ := va_join (wr := [(mo, .inr (12, [.ref nw, .ref kp, .ref ik, .ref mr, .long 0, .long 1, .ref mw, .long 0, .int 0, .int 0, .long 0, .long 0, .ref mq, .ref mz, .ref my, .int 0, .ref mb, .int 0, .int 0, .int 0, .int 0, .int 0, .ref mx, .ref mv])), (nw, .inl (cn, 350, .inl (fun _ => 0))), (mr, .inl (cm, 3, .inl (fun _ => 0)))]) (w1 := []) hP hD [0, 1, 2, 3] [4, 5, 6] rfl rfl (by decide) (by decide) hk1 hFc tz_P0 tz_D0
  generalize H1 = H at hP hS ⊢
  have hP : va_P (dC, dI) vwCl [(mo, .inr (12, [.ref nw, .ref kp, .ref ik, .ref mr, .long 0, .long 1, .ref mw, .long 0, .int 0, .int 0, .long 0, .long 0, .ref mq, .ref mz, .ref my, .int 0, .ref mb, .int 0, .int 0, .int 0, .int 0, .int 0, .ref mx, .ref mv])), (nw, .inl (cn, 350, .inl (fun _ => 0))), (mr, .inl (cm, 3, .inl (fun _ => 0)))] H := hP
  have hD : va_D A [(mo, .inr (12, [.ref nw, .ref kp, .ref ik, .ref mr, .long 0, .long 1, .ref mw, .long 0, .int 0, .int 0, .long 0, .long 0, .ref mq, .ref mz, .ref my, .int 0, .ref mb, .int 0, .int 0, .int 0, .int 0, .int 0, .ref mx, .ref mv])), (nw, .inl (cn, 350, .inl (fun _ => 0))), (mr, .inl (cm, 3, .inl (fun _ => 0)))] := hD
  obtain rfl : (-2) = r_1 := hw_2.symm
  refine lv_aload_n hx hb dL_law_324 rfl (lv_at hl 1 rfl) ?_
  refine lv_aload_n hx hb dL_law_325 rfl (lv_at hl 3 rfl) ?_
  refine lv_iload_n hx hb dL_law_326 rfl (lv_at hl 0 rfl) ?_
  refine lv_iconst (v := 1) hx hb dL_law_327 (by decide) ?_
  refine lv_iadd hx hb dL_law_328 ?_
  refine tz_i 1 (by decide) ?_
  refine va_sld hx hb hX hbl hbA hS (show ¬ ((1 : Int32) < 0 ∨ 6 ≤ (1 : Int32).toNatClampNeg) by decide) dL_law_329 ?_
  refine tz_i (xs 1) rfl ?_
  refine lv_aload_n hx hb dL_law_330 rfl (lv_at hl 3 rfl) ?_
  refine lv_iload_n hx hb dL_law_331 rfl (lv_at hl 0 rfl) ?_
  refine lv_iconst (v := 2) hx hb dL_law_332 (by decide) ?_
  refine lv_iadd hx hb dL_law_333 ?_
  refine tz_i 2 (by decide) ?_
  refine va_sld hx hb hX hbl hbA hS (show ¬ ((2 : Int32) < 0 ∨ 6 ≤ (2 : Int32).toNatClampNeg) by decide) dL_law_334 ?_
  refine tz_i (xs 2) rfl ?_
  refine lv_aload_n hx hb dL_law_335 rfl (lv_at hl 3 rfl) ?_
  refine lv_iload_n hx hb dL_law_336 rfl (lv_at hl 0 rfl) ?_
  refine lv_iconst (v := 3) hx hb dL_law_337 (by decide) ?_
  refine lv_iadd hx hb dL_law_338 ?_
  refine tz_i 3 (by decide) ?_
  refine va_sld hx hb hX hbl hbA hS (show ¬ ((3 : Int32) < 0 ∨ 6 ≤ (3 : Int32).toNatClampNeg) by decide) dL_law_339 ?_
  refine tz_i (xs 3) rfl ?_
  refine lv_aload_n hx hb dL_law_340 rfl (lv_at hl 3 rfl) ?_
  refine lv_iload_n hx hb dL_law_341 rfl (lv_at hl 0 rfl) ?_
  refine lv_iconst (v := 4) hx hb dL_law_342 (by decide) ?_
  refine lv_iadd hx hb dL_law_343 ?_
  refine tz_i 4 (by decide) ?_
  refine va_sld hx hb hX hbl hbA hS (show ¬ ((4 : Int32) < 0 ∨ 6 ≤ (4 : Int32).toNatClampNeg) by decide) dL_law_344 ?_
  refine tz_i (xs 4) rfl ?_
  have hPc := hP.sub (ws' := [(mo, .inr (12, [.ref nw, .ref kp, .ref ik, .ref mr, .long 0, .long 1, .ref mw, .long 0, .int 0, .int 0, .long 0, .long 0, .ref mq, .ref mz, .ref my, .int 0, .ref mb, .int 0, .int 0, .int 0, .int 0, .int 0, .ref mx, .ref mv])), (nw, .inl (cn, 350, .inl (fun _ => 0))), (mr, .inl (cm, 3, .inl (fun _ => 0)))]) [0, 1, 2] rfl
  have hDc := hD.sub (ws' := [(mo, .inr (12, [.ref nw, .ref kp, .ref ik, .ref mr, .long 0, .long 1, .ref mw, .long 0, .int 0, .int 0, .long 0, .long 0, .ref mq, .ref mz, .ref my, .int 0, .ref mb, .int 0, .int 0, .int 0, .int 0, .int 0, .ref mx, .ref mv])), (nw, .inl (cn, 350, .inl (fun _ => 0))), (mr, .inl (cm, 3, .inl (fun _ => 0)))]) [0, 1, 2] (by decide) rfl
  have hKc := hK.sub (tys' := [(cn, .int), (cm, .int)]) [1, 2] rfl
  have hFc := va_free (wc := [(mo, .inr (12, [.ref nw, .ref kp, .ref ik, .ref mr, .long 0, .long 1, .ref mw, .long 0, .int 0, .int 0, .long 0, .long 0, .ref mq, .ref mz, .ref my, .int 0, .ref mb, .int 0, .int 0, .int 0, .int 0, .int 0, .ref mx, .ref mv])), (nw, .inl (cn, 350, .inl (fun _ => 0))), (mr, .inl (cm, 3, .inl (fun _ => 0)))]) hD hS hA [0, 1, 2] rfl
  refine va_calli (va_runV (As := [.int (xs 1), .int (xs 2), .int (xs 3), .int (xs 4)]) (rest := [.int (-2)]) ⟨hx, hb, hml, hown, hts⟩ (k_m_tell l dC dI mo nw kp ik mr mw mq mz my mb mx mv cn cm (xs 1) (xs 2) (xs 3) (xs 4) H.size) (cwV 4 hts gL_law_X12_tell rfl rfl rfl (by decide +kernel) ⟨Nat.le_of_ble_eq_true rfl, Nat.le_of_ble_eq_true rfl⟩) ⟨fun a U g mk q => by obtain ⟨q0, q1, qP, qK, qD⟩ := q; exact ⟨q0, q1, qP, va_K.moved (u := U) (U := U.calling g mk a) (Vm.Alike.refl U.vm) qK, qD⟩, va_recv hK hP (ci := 12) (q0 := 0) rfl rfl, fun U hU hW => ⟨rfl, by rw [hU], by rw [hU]; exact hPc, va_K.moved hW.alike hKc, hDc.weaken (fun _ _ _ _ => trivial)⟩⟩ rfl rfl hl.1 rfl (lv_room (Nat.le_of_ble_eq_true rfl)) dL_law_345 ⟨Nat.le_of_ble_eq_true rfl, Nat.le_of_ble_eq_true rfl⟩) hS (fun q _ h => hFc q h) hFc (fun r_3 u_ t H1 locs ht hvm hw_4 hB hz1 hk1 hS => ?_)
  obtain ⟨hP, hD⟩ := va_join (wr := []) (w1 := []) hP hD [0, 1, 2] [] rfl rfl (by decide) (by decide) hk1 hFc tz_P0 tz_D0
  generalize H1 = H at hP hS ⊢
  have hP : va_P (dC, dI) vwCl [] H := hP
  have hD : va_D A [] := hD
  obtain rfl : (-2) = r_3 := hw_4.symm
  refine lv_icmp_eq (tgt := 1155) hx hb dL_law_348 (by decide) (fun c_5 => ?_) (fun c_5 => ?_)
  · refine lv_iinc (v := 6) (lv' := [(3, .int 6), (2, .ref mo), (1, .ref o), (0, .ref b)]) hx hb dL_law_1155 hl (k := 0) rfl (by decide) (by decide) rfl (fun ls hl => ?_)
    refine lv_goto (tgt := 18) hx hb dL_law_1158 (by decide) ?_
    refine lv_iload_n hx hb dL_law_18 rfl (lv_at hl 0 rfl) ?_
    refine lv_aload_n hx hb dL_law_19 rfl (lv_at hl 3 rfl) ?_
    refine va_slen hx hb hX hbl hbA hS dL_law_20 ?_
    refine tz_i 6 rfl ?_
    refine lv_bipush (v := 6) hx hb dL_law_21 (by decide) ?_
    refine lv_isub hx hb dL_law_23 ?_
    refine tz_i 0 (by decide) ?_
    refine lv_icmp_gt (tgt := 1161) hx hb dL_law_24 (by decide) (fun c_6 => ?_) (fun c_6 => ?_)
    · refine lv_iconst (v := 1) hx hb dL_law_1161 (by decide) ?_
      refine va_forget (fun q hq => hA2 _ (hS.2.2 q hq)) ?_
      refine W.widen (k := 600000) (n := 7302250) (Nat.le_of_ble_eq_true rfl) (Nat.le_of_ble_eq_true rfl) ?_
      exact lw_ret hx hb hr hlocks dL_law_1162
    · exact absurd c_6 (by decide)
  · exact absurd c_5 (by decide)
set_option maxRecDepth 20000 in
theorem gL_law_X11_back : GoodIn lw_tbl (wsV RL 38 RX11 yX11_back wsX11_back) := tz_good [(13, 12), (13, 13), (13, 14), (0, 2), (13, 15), (1, 10), (11, 15), (10, 4), (10, 5), (10, 6), (3, 4), (10, 7), (3, 15), (7, 7), (7, 8), (7, 9), (0, 2), (7, 10), (7, 11), (7, 12), (7, 13), (7, 14), (2, 6), (11, 20), (11, 21), (11, 22), (1, 9), (11, 23), (3, 10), (3, 9), (3, 7), (12, 0), (12, 1), (12, 2), (12, 3), (12, 4), (12, 5), (12, 6), (12, 7), (3, 20), (12, 8), (12, 9), (3, 18), (12, 10), (3, 22), (12, 11), (12, 12), (12, 13), (12, 14), (13, 16), (13, 17), (13, 18), (13, 19), (3, 21), (13, 20), (13, 21), (10, 9), (10, 10), (10, 11), (8, 8), (8, 9), (8, 10), (8, 11), (13, 22), (8, 5), (8, 6), (8, 7), (5, 21), (5, 22), (5, 23), (6, 0), (46, 0), (46, 1), (46, 2), (46, 3), (46, 4), (46, 5), (46, 6), (46, 7), (46, 8), (46, 9), (46, 10), (46, 11), (54, 0), (54, 1), (54, 2), (54, 3), (54, 4), (54, 5), (58, 0), (58, 1), (58, 2), (58, 3)] (by decide +kernel) (by decide +kernel)
set_option maxRecDepth 20000 in
theorem gL_law_X12_back : GoodIn lw_tbl (wsV RL 41 RX12 yX12_back wsX12_back) := tz_good [(13, 23), (14, 0), (14, 1), (0, 5), (14, 2), (5, 4), (14, 3), (14, 4), (14, 5), (0, 5), (14, 6), (8, 17), (8, 18), (8, 19), (8, 20), (8, 21), (8, 22), (8, 23), (5, 7), (13, 5), (13, 6), (13, 7), (13, 8), (47, 0), (47, 1), (47, 2), (47, 3), (47, 4), (47, 5), (47, 6), (47, 7), (47, 8), (47, 9), (47, 10), (47, 11), (47, 12), (47, 13), (47, 14), (47, 15), (47, 16), (47, 17), (47, 18), (47, 19), (47, 20), (47, 21), (47, 22), (47, 23)] (by decide +kernel) (by decide +kernel)
theorem dL_law_353 : decode cL_law 353 = .ok (.aload_n 1, 1) := by decide +kernel
theorem dL_law_354 : decode cL_law 354 = .ok (.aload_n 0, 1) := by decide +kernel
theorem dL_law_355 : decode cL_law 355 = .ok (.iload_n 3, 1) := by decide +kernel
theorem dL_law_356 : decode cL_law 356 = .ok (.iconst 1, 1) := by decide +kernel
theorem dL_law_357 : decode cL_law 357 = .ok (.iadd, 1) := by decide +kernel
theorem dL_law_358 : decode cL_law 358 = .ok (.iaload, 1) := by decide +kernel
theorem dL_law_359 : decode cL_law 359 = .ok (.invokevirtual 38, 3) := by decide +kernel
theorem dL_law_362 : decode cL_law 362 = .ok (.aload_n 2, 1) := by decide +kernel
theorem dL_law_363 : decode cL_law 363 = .ok (.aload_n 0, 1) := by decide +kernel
theorem dL_law_364 : decode cL_law 364 = .ok (.iload_n 3, 1) := by decide +kernel
theorem dL_law_365 : decode cL_law 365 = .ok (.iconst 1, 1) := by decide +kernel
theorem dL_law_366 : decode cL_law 366 = .ok (.iadd, 1) := by decide +kernel
theorem dL_law_367 : decode cL_law 367 = .ok (.iaload, 1) := by decide +kernel
theorem dL_law_368 : decode cL_law 368 = .ok (.invokevirtual 41, 3) := by decide +kernel
theorem dL_law_371 : decode cL_law 371 = .ok (.if_icmp .eq 784, 3) := by decide +kernel
set_option maxHeartbeats 4000000 in
set_option maxRecDepth 100000 in
theorem lc_back {p : Program} {l : Launch} {e : Env} {s : State} {m : MethodId} {below : List Frame} {meth : Method} {c : Code} {b : Nat} {xs : Nat → Int32} (C0 : lw_At p s m meth c b 6 xs) (hN : tz_N s) (A : Nat → Prop) (hA : ∀ q : Nat, s.heap.size ≤ q → A q) (hA2 : ∀ q : Nat, A q → s.heap.size ≤ q) (hbA : ¬ A b) (dC : Nat → ClassId) (dI : Nat → Nat → Nat) (o : Nat) (aw : Nat) (bk : Nat) (ai : Nat) (ak : Nat) (sc : Nat) (rd : Nat) (fo : Nat) (tx : Nat) (ar : Nat) (atr : Nat) (ao : Nat) (rk0 : Nat) (rk1 : Nat) (rk2 : Nat) (rk3 : Nat) (eak : Nat) (cak2 : Nat) (cr : ClassId) (mo : Nat) (nw : Nat) (kp : Nat) (ik : Nat) (mr : Nat) (mw : Nat) (mq : Nat) (mz : Nat) (my : Nat) (mb : Nat) (mx : Nat) (mv : Nat) (cn : ClassId) (cm : ClassId) (H : Heap) (locs : List Loc) (hK : va_K (dC, dI) vwCl [(cr, .int), (cn, .int), (cm, .int)] s) (hP : va_P (dC, dI) vwCl [(o, .inr (11, [.ref aw, .ref bk, .ref ai, .ref ak, .ref sc, .ref rd, .ref fo, .ref tx, .int 0, .ref ar, .ref atr, .ref ao])), (bk, .inr (0, [.ref rk0, .ref rk1, .ref rk2, .ref rk3, .ref eak, .int 0])), (rk2, .inr (6, [.int 4, .int 8, .ref cak2, .int 0])), (ar, .inl (cr, 3, .inl (fun _ => 0))), (mo, .inr (12, [.ref nw, .ref kp, .ref ik, .ref mr, .long 0, .long 1, .ref mw, .long 0, .int 0, .int 0, .long 0, .long 0, .ref mq, .ref mz, .ref my, .int 0, .ref mb, .int 0, .int 0, .int 0, .int 0, .int 0, .ref mx, .ref mv])), (nw, .inl (cn, 350, .inl (fun _ => 0))), (mr, .inl (cm, 3, .inl (fun _ => 0)))] H) (hD : va_D A [(o, .inr (11, [.ref aw, .ref bk, .ref ai, .ref ak, .ref sc, .ref rd, .ref fo, .ref tx, .int 0, .ref ar, .ref atr, .ref ao])), (bk, .inr (0, [.ref rk0, .ref rk1, .ref rk2, .ref rk3, .ref eak, .int 0])), (rk2, .inr (6, [.int 4, .int 8, .ref cak2, .int 0])), (ar, .inl (cr, 3, .inl (fun _ => 0))), (mo, .inr (12, [.ref nw, .ref kp, .ref ik, .ref mr, .long 0, .long 1, .ref mw, .long 0, .int 0, .int 0, .long 0, .long 0, .ref mq, .ref mz, .ref my, .int 0, .ref mb, .int 0, .int 0, .int 0, .int 0, .int 0, .ref mx, .ref mv])), (nw, .inl (cn, 350, .inl (fun _ => 0))), (mr, .inl (cm, 3, .inl (fun _ => 0)))]) (hS : va_S A s.heap H locs) (ls : Array Slot) (hl : lv_has ls 4 [(3, .int 0), (2, .ref mo), (1, .ref o), (0, .ref b)]) : W p l e room_1 s m #[Value.ref b] below meth c H locs 136 3195 (lw_Z below #[Value.ref b] s) (F0 m 353 ls []) := by
  obtain ⟨hx, hb, hr, hml, hown, hts, hX, hbl, hlocks, hgv⟩ := C0
  have hb : c.code = cL_law := hb
  have hown : s.vm.findClass RL = some m.cls := hown
  refine lv_aload_n hx hb dL_law_353 rfl (lv_at hl 2 rfl) ?_
  refine lv_aload_n hx hb dL_law_354 rfl (lv_at hl 3 rfl) ?_
  refine lv_iload_n hx hb dL_law_355 rfl (lv_at hl 0 rfl) ?_
  refine lv_iconst (v := 1) hx hb dL_law_356 (by decide) ?_
  refine lv_iadd hx hb dL_law_357 ?_
  refine tz_i 1 (by decide) ?_
  refine va_sld hx hb hX hbl hbA hS (show ¬ ((1 : Int32) < 0 ∨ 6 ≤ (1 : Int32).toNatClampNeg) by decide) dL_law_358 ?_
  refine tz_i (xs 1) rfl ?_
  have hPc := hP.sub (ws' := [(o, .inr (11, [.ref aw, .ref bk, .ref ai, .ref ak, .ref sc, .ref rd, .ref fo, .ref tx, .int 0, .ref ar, .ref atr, .ref ao])), (bk, .inr (0, [.ref rk0, .ref rk1, .ref rk2, .ref rk3, .ref eak, .int 0])), (rk2, .inr (6, [.int 4, .int 8, .ref cak2, .int 0])), (ar, .inl (cr, 3, .inl (fun _ => 0)))]) [0, 1, 2, 3] rfl
  have hDc := hD.sub (ws' := [(o, .inr (11, [.ref aw, .ref bk, .ref ai, .ref ak, .ref sc, .ref rd, .ref fo, .ref tx, .int 0, .ref ar, .ref atr, .ref ao])), (bk, .inr (0, [.ref rk0, .ref rk1, .ref rk2, .ref rk3, .ref eak, .int 0])), (rk2, .inr (6, [.int 4, .int 8, .ref cak2, .int 0])), (ar, .inl (cr, 3, .inl (fun _ => 0)))]) [0, 1, 2, 3] (by decide) rfl
  have hKc := hK.sub (tys' := [(cr, .int)]) [0] rfl
  have hFc := va_free (wc := [(o, .inr (11, [.ref aw, .ref bk, .ref ai, .ref ak, .ref sc, .ref rd, .ref fo, .ref tx, .int 0, .ref ar, .ref atr, .ref ao])), (bk, .inr (0, [.ref rk0, .ref rk1, .ref rk2, .ref rk3, .ref eak, .int 0])), (rk2, .inr (6, [.int 4, .int 8, .ref cak2, .int 0])), (ar, .inl (cr, 3, .inl (fun _ => 0)))]) hD hS hA [0, 1, 2, 3] rfl
  refine va_calli (va_runV (As := [.int (xs 1)]) (rest := []) ⟨hx, hb, hml, hown, hts⟩ (k_x_back l dC dI o aw bk ai ak sc rd fo tx ar atr ao rk0 rk1 rk2 rk3 eak cak2 cr (xs 1) H.size) (cwV 1 hts gL_law_X11_back rfl rfl rfl (by decide +kernel) ⟨Nat.le_of_ble_eq_true rfl, Nat.le_of_ble_eq_true rfl⟩) ⟨fun a U g mk q => by obtain ⟨q0, q1, qP, qK, qD⟩ := q; exact ⟨q0, q1, qP, va_K.moved (u := U) (U := U.calling g mk a) (Vm.Alike.refl U.vm) qK, qD⟩, va_recv hK hP (ci := 11) (q0 := 0) rfl rfl, fun U hU hW => ⟨rfl, by rw [hU], by rw [hU]; exact hPc, va_K.moved hW.alike hKc, hDc.weaken (fun _ _ _ _ => trivial)⟩⟩ rfl rfl hl.1 rfl (lv_room (Nat.le_of_ble_eq_true rfl)) dL_law_359 ⟨Nat.le_of_ble_eq_true rfl, Nat.le_of_ble_eq_true rfl⟩) hS (fun q _ h => hFc q h) hFc (fun r_1 u_ t H1 locs ht hvm hw_2 hB hz1 hk1 hS => ?_)
  obtain ⟨hP, hD⟩ := va_join (wr := [(mo, .inr (12, [.ref nw, .ref kp, .ref ik, .ref mr, .long 0, .long 1, .ref mw, .long 0, .int 0, .int 0, .long 0, .long 0, .ref mq, .ref mz, .ref my, .int 0, .ref mb, .int 0, .int 0, .int 0, .int 0, .int 0, .ref mx, .ref mv])), (nw, .inl (cn, 350, .inl (fun _ => 0))), (mr, .inl (cm, 3, .inl (fun _ => 0)))]) (w1 := []) hP hD [0, 1, 2, 3] [4, 5, 6] rfl rfl (by decide) (by decide) hk1 hFc tz_P0 tz_D0
  generalize H1 = H at hP hS ⊢
  have hP : va_P (dC, dI) vwCl [(mo, .inr (12, [.ref nw, .ref kp, .ref ik, .ref mr, .long 0, .long 1, .ref mw, .long 0, .int 0, .int 0, .long 0, .long 0, .ref mq, .ref mz, .ref my, .int 0, .ref mb, .int 0, .int 0, .int 0, .int 0, .int 0, .ref mx, .ref mv])), (nw, .inl (cn, 350, .inl (fun _ => 0))), (mr, .inl (cm, 3, .inl (fun _ => 0)))] H := hP
  have hD : va_D A [(mo, .inr (12, [.ref nw, .ref kp, .ref ik, .ref mr, .long 0, .long 1, .ref mw, .long 0, .int 0, .int 0, .long 0, .long 0, .ref mq, .ref mz, .ref my, .int 0, .ref mb, .int 0, .int 0, .int 0, .int 0, .int 0, .ref mx, .ref mv])), (nw, .inl (cn, 350, .inl (fun _ => 0))), (mr, .inl (cm, 3, .inl (fun _ => 0)))] := hD
  obtain rfl : (-2) = r_1 := hw_2.symm
  refine lv_aload_n hx hb dL_law_362 rfl (lv_at hl 1 rfl) ?_
  refine lv_aload_n hx hb dL_law_363 rfl (lv_at hl 3 rfl) ?_
  refine lv_iload_n hx hb dL_law_364 rfl (lv_at hl 0 rfl) ?_
  refine lv_iconst (v := 1) hx hb dL_law_365 (by decide) ?_
  refine lv_iadd hx hb dL_law_366 ?_
  refine tz_i 1 (by decide) ?_
  refine va_sld hx hb hX hbl hbA hS (show ¬ ((1 : Int32) < 0 ∨ 6 ≤ (1 : Int32).toNatClampNeg) by decide) dL_law_367 ?_
  refine tz_i (xs 1) rfl ?_
  have hPc := hP.sub (ws' := [(mo, .inr (12, [.ref nw, .ref kp, .ref ik, .ref mr, .long 0, .long 1, .ref mw, .long 0, .int 0, .int 0, .long 0, .long 0, .ref mq, .ref mz, .ref my, .int 0, .ref mb, .int 0, .int 0, .int 0, .int 0, .int 0, .ref mx, .ref mv])), (nw, .inl (cn, 350, .inl (fun _ => 0))), (mr, .inl (cm, 3, .inl (fun _ => 0)))]) [0, 1, 2] rfl
  have hDc := hD.sub (ws' := [(mo, .inr (12, [.ref nw, .ref kp, .ref ik, .ref mr, .long 0, .long 1, .ref mw, .long 0, .int 0, .int 0, .long 0, .long 0, .ref mq, .ref mz, .ref my, .int 0, .ref mb, .int 0, .int 0, .int 0, .int 0, .int 0, .ref mx, .ref mv])), (nw, .inl (cn, 350, .inl (fun _ => 0))), (mr, .inl (cm, 3, .inl (fun _ => 0)))]) [0, 1, 2] (by decide) rfl
  have hKc := hK.sub (tys' := [(cn, .int), (cm, .int)]) [1, 2] rfl
  have hFc := va_free (wc := [(mo, .inr (12, [.ref nw, .ref kp, .ref ik, .ref mr, .long 0, .long 1, .ref mw, .long 0, .int 0, .int 0, .long 0, .long 0, .ref mq, .ref mz, .ref my, .int 0, .ref mb, .int 0, .int 0, .int 0, .int 0, .int 0, .ref mx, .ref mv])), (nw, .inl (cn, 350, .inl (fun _ => 0))), (mr, .inl (cm, 3, .inl (fun _ => 0)))]) hD hS hA [0, 1, 2] rfl
  refine va_calli (va_runV (As := [.int (xs 1)]) (rest := [.int (-2)]) ⟨hx, hb, hml, hown, hts⟩ (k_m_back l dC dI mo nw kp ik mr mw mq mz my mb mx mv cn cm (xs 1) H.size) (cwV 1 hts gL_law_X12_back rfl rfl rfl (by decide +kernel) ⟨Nat.le_of_ble_eq_true rfl, Nat.le_of_ble_eq_true rfl⟩) ⟨fun a U g mk q => by obtain ⟨q0, q1, qP, qK, qD⟩ := q; exact ⟨q0, q1, qP, va_K.moved (u := U) (U := U.calling g mk a) (Vm.Alike.refl U.vm) qK, qD⟩, va_recv hK hP (ci := 12) (q0 := 0) rfl rfl, fun U hU hW => ⟨rfl, by rw [hU], by rw [hU]; exact hPc, va_K.moved hW.alike hKc, hDc.weaken (fun _ _ _ _ => trivial)⟩⟩ rfl rfl hl.1 rfl (lv_room (Nat.le_of_ble_eq_true rfl)) dL_law_368 ⟨Nat.le_of_ble_eq_true rfl, Nat.le_of_ble_eq_true rfl⟩) hS (fun q _ h => hFc q h) hFc (fun r_3 u_ t H1 locs ht hvm hw_4 hB hz1 hk1 hS => ?_)
  obtain ⟨hP, hD⟩ := va_join (wr := []) (w1 := []) hP hD [0, 1, 2] [] rfl rfl (by decide) (by decide) hk1 hFc tz_P0 tz_D0
  generalize H1 = H at hP hS ⊢
  have hP : va_P (dC, dI) vwCl [] H := hP
  have hD : va_D A [] := hD
  obtain rfl : (-2) = r_3 := hw_4.symm
  refine lv_icmp_eq (tgt := 1155) hx hb dL_law_371 (by decide) (fun c_5 => ?_) (fun c_5 => ?_)
  · refine lv_iinc (v := 6) (lv' := [(3, .int 6), (2, .ref mo), (1, .ref o), (0, .ref b)]) hx hb dL_law_1155 hl (k := 0) rfl (by decide) (by decide) rfl (fun ls hl => ?_)
    refine lv_goto (tgt := 18) hx hb dL_law_1158 (by decide) ?_
    refine lv_iload_n hx hb dL_law_18 rfl (lv_at hl 0 rfl) ?_
    refine lv_aload_n hx hb dL_law_19 rfl (lv_at hl 3 rfl) ?_
    refine va_slen hx hb hX hbl hbA hS dL_law_20 ?_
    refine tz_i 6 rfl ?_
    refine lv_bipush (v := 6) hx hb dL_law_21 (by decide) ?_
    refine lv_isub hx hb dL_law_23 ?_
    refine tz_i 0 (by decide) ?_
    refine lv_icmp_gt (tgt := 1161) hx hb dL_law_24 (by decide) (fun c_6 => ?_) (fun c_6 => ?_)
    · refine lv_iconst (v := 1) hx hb dL_law_1161 (by decide) ?_
      refine va_forget (fun q hq => hA2 _ (hS.2.2 q hq)) ?_
      refine W.widen (k := 600000) (n := 7302250) (Nat.le_of_ble_eq_true rfl) (Nat.le_of_ble_eq_true rfl) ?_
      exact lw_ret hx hb hr hlocks dL_law_1162
    · exact absurd c_6 (by decide)
  · exact absurd c_5 (by decide)
set_option maxRecDepth 20000 in
theorem gL_law_X11_undo : GoodIn lw_tbl (wsV RL 42 RX11 yX11_undo wsX11_undo) := tz_good [(14, 7), (14, 8), (14, 9), (0, 2), (14, 10), (1, 10), (11, 15), (14, 11), (14, 12), (14, 13), (1, 9), (14, 14), (3, 10), (3, 9), (3, 7), (12, 4), (12, 5), (12, 6), (3, 4), (12, 7), (3, 20), (3, 15), (12, 8), (12, 9), (3, 18), (12, 10), (3, 22), (12, 11), (12, 12), (12, 13), (12, 14), (7, 7), (7, 8), (7, 9), (0, 2), (7, 10), (7, 11), (7, 12), (7, 13), (7, 14), (2, 6), (5, 21), (5, 22), (5, 23), (6, 0), (46, 0), (46, 1), (46, 2), (46, 3), (46, 4), (46, 5), (46, 6), (46, 7), (46, 8), (46, 9), (46, 10), (46, 11), (54, 0), (54, 1), (54, 2), (54, 3), (54, 4), (54, 5), (58, 0), (58, 1), (58, 2), (58, 3)] (by decide +kernel) (by decide +kernel)
set_option maxRecDepth 20000 in
theorem gL_law_X12_undo : GoodIn lw_tbl (wsV RL 45 RX12 yX12_undo wsX12_undo) := tz_good [(14, 15), (14, 16), (14, 17), (0, 5), (14, 18), (5, 4), (14, 19), (14, 20), (14, 21), (0, 5), (14, 22), (5, 7), (47, 0), (47, 1), (47, 2), (47, 3), (47, 4), (47, 5), (47, 6), (47, 7), (47, 8), (47, 9), (47, 10), (47, 11), (47, 12), (47, 13), (47, 14), (47, 15), (47, 16), (47, 17), (47, 18), (47, 19), (47, 20), (47, 21), (47, 22), (47, 23)] (by decide +kernel) (by decide +kernel)
theorem dL_law_376 : decode cL_law 376 = .ok (.aload_n 1, 1) := by decide +kernel
theorem dL_law_377 : decode cL_law 377 = .ok (.invokevirtual 42, 3) := by decide +kernel
theorem dL_law_380 : decode cL_law 380 = .ok (.aload_n 2, 1) := by decide +kernel
theorem dL_law_381 : decode cL_law 381 = .ok (.invokevirtual 45, 3) := by decide +kernel
theorem dL_law_384 : decode cL_law 384 = .ok (.if_icmp .eq 771, 3) := by decide +kernel
set_option maxHeartbeats 4000000 in
set_option maxRecDepth 100000 in
theorem lc_undo {p : Program} {l : Launch} {e : Env} {s : State} {m : MethodId} {below : List Frame} {meth : Method} {c : Code} {b : Nat} {xs : Nat → Int32} (C0 : lw_At p s m meth c b 6 xs) (hN : tz_N s) (A : Nat → Prop) (hA : ∀ q : Nat, s.heap.size ≤ q → A q) (hA2 : ∀ q : Nat, A q → s.heap.size ≤ q) (hbA : ¬ A b) (dC : Nat → ClassId) (dI : Nat → Nat → Nat) (o : Nat) (aw : Nat) (bk : Nat) (ai : Nat) (ak : Nat) (sc : Nat) (rd : Nat) (fo : Nat) (tx : Nat) (ar : Nat) (atr : Nat) (ao : Nat) (rk0 : Nat) (rk1 : Nat) (rk2 : Nat) (rk3 : Nat) (eak : Nat) (cr : ClassId) (mo : Nat) (nw : Nat) (kp : Nat) (ik : Nat) (mr : Nat) (mw : Nat) (mq : Nat) (mz : Nat) (my : Nat) (mb : Nat) (mx : Nat) (mv : Nat) (cn : ClassId) (cm : ClassId) (H : Heap) (locs : List Loc) (hK : va_K (dC, dI) vwCl [(cr, .int), (cn, .int), (cm, .int)] s) (hP : va_P (dC, dI) vwCl [(o, .inr (11, [.ref aw, .ref bk, .ref ai, .ref ak, .ref sc, .ref rd, .ref fo, .ref tx, .int 0, .ref ar, .ref atr, .ref ao])), (bk, .inr (0, [.ref rk0, .ref rk1, .ref rk2, .ref rk3, .ref eak, .int 0])), (ar, .inl (cr, 3, .inl (fun _ => 0))), (mo, .inr (12, [.ref nw, .ref kp, .ref ik, .ref mr, .long 0, .long 1, .ref mw, .long 0, .int 0, .int 0, .long 0, .long 0, .ref mq, .ref mz, .ref my, .int 0, .ref mb, .int 0, .int 0, .int 0, .int 0, .int 0, .ref mx, .ref mv])), (nw, .inl (cn, 350, .inl (fun _ => 0))), (mr, .inl (cm, 3, .inl (fun _ => 0)))] H) (hD : va_D A [(o, .inr (11, [.ref aw, .ref bk, .ref ai, .ref ak, .ref sc, .ref rd, .ref fo, .ref tx, .int 0, .ref ar, .ref atr, .ref ao])), (bk, .inr (0, [.ref rk0, .ref rk1, .ref rk2, .ref rk3, .ref eak, .int 0])), (ar, .inl (cr, 3, .inl (fun _ => 0))), (mo, .inr (12, [.ref nw, .ref kp, .ref ik, .ref mr, .long 0, .long 1, .ref mw, .long 0, .int 0, .int 0, .long 0, .long 0, .ref mq, .ref mz, .ref my, .int 0, .ref mb, .int 0, .int 0, .int 0, .int 0, .int 0, .ref mx, .ref mv])), (nw, .inl (cn, 350, .inl (fun _ => 0))), (mr, .inl (cm, 3, .inl (fun _ => 0)))]) (hS : va_S A s.heap H locs) (ls : Array Slot) (hl : lv_has ls 4 [(3, .int 0), (2, .ref mo), (1, .ref o), (0, .ref b)]) : W p l e room_1 s m #[Value.ref b] below meth c H locs 136 3195 (lw_Z below #[Value.ref b] s) (F0 m 376 ls []) := by
  obtain ⟨hx, hb, hr, hml, hown, hts, hX, hbl, hlocks, hgv⟩ := C0
  have hb : c.code = cL_law := hb
  have hown : s.vm.findClass RL = some m.cls := hown
  refine lv_aload_n hx hb dL_law_376 rfl (lv_at hl 2 rfl) ?_
  have hPc := hP.sub (ws' := [(o, .inr (11, [.ref aw, .ref bk, .ref ai, .ref ak, .ref sc, .ref rd, .ref fo, .ref tx, .int 0, .ref ar, .ref atr, .ref ao])), (bk, .inr (0, [.ref rk0, .ref rk1, .ref rk2, .ref rk3, .ref eak, .int 0])), (ar, .inl (cr, 3, .inl (fun _ => 0)))]) [0, 1, 2] rfl
  have hDc := hD.sub (ws' := [(o, .inr (11, [.ref aw, .ref bk, .ref ai, .ref ak, .ref sc, .ref rd, .ref fo, .ref tx, .int 0, .ref ar, .ref atr, .ref ao])), (bk, .inr (0, [.ref rk0, .ref rk1, .ref rk2, .ref rk3, .ref eak, .int 0])), (ar, .inl (cr, 3, .inl (fun _ => 0)))]) [0, 1, 2] (by decide) rfl
  have hKc := hK.sub (tys' := [(cr, .int)]) [0] rfl
  have hFc := va_free (wc := [(o, .inr (11, [.ref aw, .ref bk, .ref ai, .ref ak, .ref sc, .ref rd, .ref fo, .ref tx, .int 0, .ref ar, .ref atr, .ref ao])), (bk, .inr (0, [.ref rk0, .ref rk1, .ref rk2, .ref rk3, .ref eak, .int 0])), (ar, .inl (cr, 3, .inl (fun _ => 0)))]) hD hS hA [0, 1, 2] rfl
  refine va_calli (va_runV (As := []) (rest := []) ⟨hx, hb, hml, hown, hts⟩ (k_x_undo l dC dI o aw bk ai ak sc rd fo tx ar atr ao rk0 rk1 rk2 rk3 eak cr H.size) (cwV 0 hts gL_law_X11_undo rfl rfl rfl (by decide +kernel) ⟨Nat.le_of_ble_eq_true rfl, Nat.le_of_ble_eq_true rfl⟩) ⟨fun a U g mk q => by obtain ⟨q0, q1, qP, qK, qD⟩ := q; exact ⟨q0, q1, qP, va_K.moved (u := U) (U := U.calling g mk a) (Vm.Alike.refl U.vm) qK, qD⟩, va_recv hK hP (ci := 11) (q0 := 0) rfl rfl, fun U hU hW => ⟨rfl, by rw [hU], by rw [hU]; exact hPc, va_K.moved hW.alike hKc, hDc.weaken (fun _ _ _ _ => trivial)⟩⟩ rfl rfl hl.1 rfl (lv_room (Nat.le_of_ble_eq_true rfl)) dL_law_377 ⟨Nat.le_of_ble_eq_true rfl, Nat.le_of_ble_eq_true rfl⟩) hS (fun q _ h => hFc q h) hFc (fun r_1 u_ t H1 locs ht hvm hw_2 hB hz1 hk1 hS => ?_)
  obtain ⟨hP, hD⟩ := va_join (wr := [(mo, .inr (12, [.ref nw, .ref kp, .ref ik, .ref mr, .long 0, .long 1, .ref mw, .long 0, .int 0, .int 0, .long 0, .long 0, .ref mq, .ref mz, .ref my, .int 0, .ref mb, .int 0, .int 0, .int 0, .int 0, .int 0, .ref mx, .ref mv])), (nw, .inl (cn, 350, .inl (fun _ => 0))), (mr, .inl (cm, 3, .inl (fun _ => 0)))]) (w1 := []) hP hD [0, 1, 2] [3, 4, 5] rfl rfl (by decide) (by decide) hk1 hFc tz_P0 tz_D0
  generalize H1 = H at hP hS ⊢
  have hP : va_P (dC, dI) vwCl [(mo, .inr (12, [.ref nw, .ref kp, .ref ik, .ref mr, .long 0, .long 1, .ref mw, .long 0, .int 0, .int 0, .long 0, .long 0, .ref mq, .ref mz, .ref my, .int 0, .ref mb, .int 0, .int 0, .int 0, .int 0, .int 0, .ref mx, .ref mv])), (nw, .inl (cn, 350, .inl (fun _ => 0))), (mr, .inl (cm, 3, .inl (fun _ => 0)))] H := hP
  have hD : va_D A [(mo, .inr (12, [.ref nw, .ref kp, .ref ik, .ref mr, .long 0, .long 1, .ref mw, .long 0, .int 0, .int 0, .long 0, .long 0, .ref mq, .ref mz, .ref my, .int 0, .ref mb, .int 0, .int 0, .int 0, .int 0, .int 0, .ref mx, .ref mv])), (nw, .inl (cn, 350, .inl (fun _ => 0))), (mr, .inl (cm, 3, .inl (fun _ => 0)))] := hD
  obtain rfl : (-3) = r_1 := hw_2.symm
  refine lv_aload_n hx hb dL_law_380 rfl (lv_at hl 1 rfl) ?_
  have hPc := hP.sub (ws' := [(mo, .inr (12, [.ref nw, .ref kp, .ref ik, .ref mr, .long 0, .long 1, .ref mw, .long 0, .int 0, .int 0, .long 0, .long 0, .ref mq, .ref mz, .ref my, .int 0, .ref mb, .int 0, .int 0, .int 0, .int 0, .int 0, .ref mx, .ref mv])), (nw, .inl (cn, 350, .inl (fun _ => 0))), (mr, .inl (cm, 3, .inl (fun _ => 0)))]) [0, 1, 2] rfl
  have hDc := hD.sub (ws' := [(mo, .inr (12, [.ref nw, .ref kp, .ref ik, .ref mr, .long 0, .long 1, .ref mw, .long 0, .int 0, .int 0, .long 0, .long 0, .ref mq, .ref mz, .ref my, .int 0, .ref mb, .int 0, .int 0, .int 0, .int 0, .int 0, .ref mx, .ref mv])), (nw, .inl (cn, 350, .inl (fun _ => 0))), (mr, .inl (cm, 3, .inl (fun _ => 0)))]) [0, 1, 2] (by decide) rfl
  have hKc := hK.sub (tys' := [(cn, .int), (cm, .int)]) [1, 2] rfl
  have hFc := va_free (wc := [(mo, .inr (12, [.ref nw, .ref kp, .ref ik, .ref mr, .long 0, .long 1, .ref mw, .long 0, .int 0, .int 0, .long 0, .long 0, .ref mq, .ref mz, .ref my, .int 0, .ref mb, .int 0, .int 0, .int 0, .int 0, .int 0, .ref mx, .ref mv])), (nw, .inl (cn, 350, .inl (fun _ => 0))), (mr, .inl (cm, 3, .inl (fun _ => 0)))]) hD hS hA [0, 1, 2] rfl
  refine va_calli (va_runV (As := []) (rest := [.int (-3)]) ⟨hx, hb, hml, hown, hts⟩ (k_m_undo l dC dI mo nw kp ik mr mw mq mz my mb mx mv cn cm H.size) (cwV 0 hts gL_law_X12_undo rfl rfl rfl (by decide +kernel) ⟨Nat.le_of_ble_eq_true rfl, Nat.le_of_ble_eq_true rfl⟩) ⟨fun a U g mk q => by obtain ⟨q0, q1, qP, qK, qD⟩ := q; exact ⟨q0, q1, qP, va_K.moved (u := U) (U := U.calling g mk a) (Vm.Alike.refl U.vm) qK, qD⟩, va_recv hK hP (ci := 12) (q0 := 0) rfl rfl, fun U hU hW => ⟨rfl, by rw [hU], by rw [hU]; exact hPc, va_K.moved hW.alike hKc, hDc.weaken (fun _ _ _ _ => trivial)⟩⟩ rfl rfl hl.1 rfl (lv_room (Nat.le_of_ble_eq_true rfl)) dL_law_381 ⟨Nat.le_of_ble_eq_true rfl, Nat.le_of_ble_eq_true rfl⟩) hS (fun q _ h => hFc q h) hFc (fun r_3 u_ t H1 locs ht hvm hw_4 hB hz1 hk1 hS => ?_)
  obtain ⟨hP, hD⟩ := va_join (wr := []) (w1 := []) hP hD [0, 1, 2] [] rfl rfl (by decide) (by decide) hk1 hFc tz_P0 tz_D0
  generalize H1 = H at hP hS ⊢
  have hP : va_P (dC, dI) vwCl [] H := hP
  have hD : va_D A [] := hD
  obtain rfl : (-3) = r_3 := hw_4.symm
  refine lv_icmp_eq (tgt := 1155) hx hb dL_law_384 (by decide) (fun c_5 => ?_) (fun c_5 => ?_)
  · refine lv_iinc (v := 6) (lv' := [(3, .int 6), (2, .ref mo), (1, .ref o), (0, .ref b)]) hx hb dL_law_1155 hl (k := 0) rfl (by decide) (by decide) rfl (fun ls hl => ?_)
    refine lv_goto (tgt := 18) hx hb dL_law_1158 (by decide) ?_
    refine lv_iload_n hx hb dL_law_18 rfl (lv_at hl 0 rfl) ?_
    refine lv_aload_n hx hb dL_law_19 rfl (lv_at hl 3 rfl) ?_
    refine va_slen hx hb hX hbl hbA hS dL_law_20 ?_
    refine tz_i 6 rfl ?_
    refine lv_bipush (v := 6) hx hb dL_law_21 (by decide) ?_
    refine lv_isub hx hb dL_law_23 ?_
    refine tz_i 0 (by decide) ?_
    refine lv_icmp_gt (tgt := 1161) hx hb dL_law_24 (by decide) (fun c_6 => ?_) (fun c_6 => ?_)
    · refine lv_iconst (v := 1) hx hb dL_law_1161 (by decide) ?_
      refine va_forget (fun q hq => hA2 _ (hS.2.2 q hq)) ?_
      refine W.widen (k := 600000) (n := 7302250) (Nat.le_of_ble_eq_true rfl) (Nat.le_of_ble_eq_true rfl) ?_
      exact lw_ret hx hb hr hlocks dL_law_1162
    · exact absurd c_6 (by decide)
  · exact absurd c_5 (by decide)
set_option maxRecDepth 20000 in
theorem gL_law_X11_type : GoodIn lw_tbl (wsV RL 46 RX11 yX11_type wsX11_type) := tz_good [(14, 23), (15, 0), (15, 1), (0, 2), (15, 2), (2, 4), (2, 3), (7, 4), (7, 5), (0, 2), (7, 6), (7, 7), (7, 8), (7, 9), (7, 10), (7, 11), (7, 12), (7, 13), (7, 14), (2, 6), (46, 0), (46, 1), (46, 2), (46, 3), (46, 4), (46, 5), (46, 6), (46, 7), (46, 8), (46, 9), (46, 10), (46, 11)] (by decide +kernel) (by decide +kernel)
set_option maxRecDepth 20000 in
theorem gL_law_X12_type : GoodIn lw_tbl (wsV RL 49 RX12 yX12_type wsX12_type) := tz_good [(15, 3), (15, 4), (15, 5), (0, 5), (15, 6), (15, 7), (15, 8), (5, 13), (8, 17), (8, 18), (0, 5), (8, 19), (8, 20), (8, 21), (8, 22), (8, 23), (5, 7), (9, 0), (9, 1), (9, 2), (9, 3), (47, 0), (47, 1), (47, 2), (47, 3), (47, 4), (47, 5), (47, 6), (47, 7), (47, 8), (47, 9), (47, 10), (47, 11), (47, 12), (47, 13), (47, 14), (47, 15), (47, 16), (47, 17), (47, 18), (47, 19), (47, 20), (47, 21), (47, 22), (47, 23)] (by decide +kernel) (by decide +kernel)
theorem dL_law_389 : decode cL_law 389 = .ok (.aload_n 1, 1) := by decide +kernel
theorem dL_law_390 : decode cL_law 390 = .ok (.aload_n 0, 1) := by decide +kernel
theorem dL_law_391 : decode cL_law 391 = .ok (.iload_n 3, 1) := by decide +kernel
theorem dL_law_392 : decode cL_law 392 = .ok (.iconst 1, 1) := by decide +kernel
theorem dL_law_393 : decode cL_law 393 = .ok (.iadd, 1) := by decide +kernel
theorem dL_law_394 : decode cL_law 394 = .ok (.iaload, 1) := by decide +kernel
theorem dL_law_395 : decode cL_law 395 = .ok (.invokevirtual 46, 3) := by decide +kernel
theorem dL_law_398 : decode cL_law 398 = .ok (.aload_n 2, 1) := by decide +kernel
theorem dL_law_399 : decode cL_law 399 = .ok (.aload_n 0, 1) := by decide +kernel
theorem dL_law_400 : decode cL_law 400 = .ok (.iload_n 3, 1) := by decide +kernel
theorem dL_law_401 : decode cL_law 401 = .ok (.iconst 1, 1) := by decide +kernel
theorem dL_law_402 : decode cL_law 402 = .ok (.iadd, 1) := by decide +kernel
theorem dL_law_403 : decode cL_law 403 = .ok (.iaload, 1) := by decide +kernel
theorem dL_law_404 : decode cL_law 404 = .ok (.invokevirtual 49, 3) := by decide +kernel
theorem dL_law_407 : decode cL_law 407 = .ok (.if_icmp .eq 748, 3) := by decide +kernel
set_option maxHeartbeats 4000000 in
set_option maxRecDepth 100000 in
theorem lc_type {p : Program} {l : Launch} {e : Env} {s : State} {m : MethodId} {below : List Frame} {meth : Method} {c : Code} {b : Nat} {xs : Nat → Int32} (C0 : lw_At p s m meth c b 6 xs) (hN : tz_N s) (A : Nat → Prop) (hA : ∀ q : Nat, s.heap.size ≤ q → A q) (hA2 : ∀ q : Nat, A q → s.heap.size ≤ q) (hbA : ¬ A b) (dC : Nat → ClassId) (dI : Nat → Nat → Nat) (o : Nat) (aw : Nat) (bk : Nat) (ai : Nat) (ak : Nat) (sc : Nat) (rd : Nat) (fo : Nat) (tx : Nat) (ar : Nat) (atr : Nat) (ao : Nat) (ct : ClassId) (cr : ClassId) (mo : Nat) (nw : Nat) (kp : Nat) (ik : Nat) (mr : Nat) (mw : Nat) (mq : Nat) (mz : Nat) (my : Nat) (mb : Nat) (mx : Nat) (mv : Nat) (cb : ClassId) (cm : ClassId) (H : Heap) (locs : List Loc) (hK : va_K (dC, dI) vwCl [(ct, .byte), (cr, .int), (cb, .int), (cm, .int)] s) (hP : va_P (dC, dI) vwCl [(o, .inr (11, [.ref aw, .ref bk, .ref ai, .ref ak, .ref sc, .ref rd, .ref fo, .ref tx, .int 0, .ref ar, .ref atr, .ref ao])), (tx, .inl (ct, 150, .inl (fun _ => 0))), (ar, .inl (cr, 3, .inl (fun _ => 0))), (mo, .inr (12, [.ref nw, .ref kp, .ref ik, .ref mr, .long 0, .long 1, .ref mw, .long 0, .int 0, .int 0, .long 0, .long 0, .ref mq, .ref mz, .ref my, .int 0, .ref mb, .int 0, .int 0, .int 0, .int 0, .int 0, .ref mx, .ref mv])), (mb, .inl (cb, 150, .inl (fun _ => 0))), (mr, .inl (cm, 3, .inl (fun _ => 0)))] H) (hD : va_D A [(o, .inr (11, [.ref aw, .ref bk, .ref ai, .ref ak, .ref sc, .ref rd, .ref fo, .ref tx, .int 0, .ref ar, .ref atr, .ref ao])), (tx, .inl (ct, 150, .inl (fun _ => 0))), (ar, .inl (cr, 3, .inl (fun _ => 0))), (mo, .inr (12, [.ref nw, .ref kp, .ref ik, .ref mr, .long 0, .long 1, .ref mw, .long 0, .int 0, .int 0, .long 0, .long 0, .ref mq, .ref mz, .ref my, .int 0, .ref mb, .int 0, .int 0, .int 0, .int 0, .int 0, .ref mx, .ref mv])), (mb, .inl (cb, 150, .inl (fun _ => 0))), (mr, .inl (cm, 3, .inl (fun _ => 0)))]) (hS : va_S A s.heap H locs) (ls : Array Slot) (hl : lv_has ls 4 [(3, .int 0), (2, .ref mo), (1, .ref o), (0, .ref b)]) : W p l e room_1 s m #[Value.ref b] below meth c H locs 136 3195 (lw_Z below #[Value.ref b] s) (F0 m 389 ls []) := by
  obtain ⟨hx, hb, hr, hml, hown, hts, hX, hbl, hlocks, hgv⟩ := C0
  have hb : c.code = cL_law := hb
  have hown : s.vm.findClass RL = some m.cls := hown
  refine lv_aload_n hx hb dL_law_389 rfl (lv_at hl 2 rfl) ?_
  refine lv_aload_n hx hb dL_law_390 rfl (lv_at hl 3 rfl) ?_
  refine lv_iload_n hx hb dL_law_391 rfl (lv_at hl 0 rfl) ?_
  refine lv_iconst (v := 1) hx hb dL_law_392 (by decide) ?_
  refine lv_iadd hx hb dL_law_393 ?_
  refine tz_i 1 (by decide) ?_
  refine va_sld hx hb hX hbl hbA hS (show ¬ ((1 : Int32) < 0 ∨ 6 ≤ (1 : Int32).toNatClampNeg) by decide) dL_law_394 ?_
  refine tz_i (xs 1) rfl ?_
  have hPc := hP.sub (ws' := [(o, .inr (11, [.ref aw, .ref bk, .ref ai, .ref ak, .ref sc, .ref rd, .ref fo, .ref tx, .int 0, .ref ar, .ref atr, .ref ao])), (tx, .inl (ct, 150, .inl (fun _ => 0))), (ar, .inl (cr, 3, .inl (fun _ => 0)))]) [0, 1, 2] rfl
  have hDc := hD.sub (ws' := [(o, .inr (11, [.ref aw, .ref bk, .ref ai, .ref ak, .ref sc, .ref rd, .ref fo, .ref tx, .int 0, .ref ar, .ref atr, .ref ao])), (tx, .inl (ct, 150, .inl (fun _ => 0))), (ar, .inl (cr, 3, .inl (fun _ => 0)))]) [0, 1, 2] (by decide) rfl
  have hKc := hK.sub (tys' := [(ct, .byte), (cr, .int)]) [0, 1] rfl
  have hFc := va_free (wc := [(o, .inr (11, [.ref aw, .ref bk, .ref ai, .ref ak, .ref sc, .ref rd, .ref fo, .ref tx, .int 0, .ref ar, .ref atr, .ref ao])), (tx, .inl (ct, 150, .inl (fun _ => 0))), (ar, .inl (cr, 3, .inl (fun _ => 0)))]) hD hS hA [0, 1, 2] rfl
  refine va_calli (va_runV (As := [.int (xs 1)]) (rest := []) ⟨hx, hb, hml, hown, hts⟩ (k_x_type l dC dI o aw bk ai ak sc rd fo tx ar atr ao ct cr (xs 1) H.size) (cwV 1 hts gL_law_X11_type rfl rfl rfl (by decide +kernel) ⟨Nat.le_of_ble_eq_true rfl, Nat.le_of_ble_eq_true rfl⟩) ⟨fun a U g mk q => by obtain ⟨q0, q1, qP, qK, qD⟩ := q; exact ⟨q0, q1, qP, va_K.moved (u := U) (U := U.calling g mk a) (Vm.Alike.refl U.vm) qK, qD⟩, va_recv hK hP (ci := 11) (q0 := 0) rfl rfl, fun U hU hW => ⟨rfl, by rw [hU], by rw [hU]; exact hPc, va_K.moved hW.alike hKc, hDc.weaken (fun _ _ _ _ => trivial)⟩⟩ rfl rfl hl.1 rfl (lv_room (Nat.le_of_ble_eq_true rfl)) dL_law_395 ⟨Nat.le_of_ble_eq_true rfl, Nat.le_of_ble_eq_true rfl⟩) hS (fun q _ h => hFc q h) hFc (fun r_1 u_ t H1 locs ht hvm hw_2 hB hz1 hk1 hS => ?_)
  obtain ⟨hP, hD⟩ := va_join (wr := [(mo, .inr (12, [.ref nw, .ref kp, .ref ik, .ref mr, .long 0, .long 1, .ref mw, .long 0, .int 0, .int 0, .long 0, .long 0, .ref mq, .ref mz, .ref my, .int 0, .ref mb, .int 0, .int 0, .int 0, .int 0, .int 0, .ref mx, .ref mv])), (mb, .inl (cb, 150, .inl (fun _ => 0))), (mr, .inl (cm, 3, .inl (fun _ => 0)))]) (w1 := []) hP hD [0, 1, 2] [3, 4, 5] rfl rfl (by decide) (by decide) hk1 hFc tz_P0 tz_D0
  generalize H1 = H at hP hS ⊢
  have hP : va_P (dC, dI) vwCl [(mo, .inr (12, [.ref nw, .ref kp, .ref ik, .ref mr, .long 0, .long 1, .ref mw, .long 0, .int 0, .int 0, .long 0, .long 0, .ref mq, .ref mz, .ref my, .int 0, .ref mb, .int 0, .int 0, .int 0, .int 0, .int 0, .ref mx, .ref mv])), (mb, .inl (cb, 150, .inl (fun _ => 0))), (mr, .inl (cm, 3, .inl (fun _ => 0)))] H := hP
  have hD : va_D A [(mo, .inr (12, [.ref nw, .ref kp, .ref ik, .ref mr, .long 0, .long 1, .ref mw, .long 0, .int 0, .int 0, .long 0, .long 0, .ref mq, .ref mz, .ref my, .int 0, .ref mb, .int 0, .int 0, .int 0, .int 0, .int 0, .ref mx, .ref mv])), (mb, .inl (cb, 150, .inl (fun _ => 0))), (mr, .inl (cm, 3, .inl (fun _ => 0)))] := hD
  obtain rfl : (if 0 ≤ (xs 1) ∧ (xs 1) ≤ 127 then 1 else (-2)) = r_1 := hw_2.symm
  refine lv_aload_n hx hb dL_law_398 rfl (lv_at hl 1 rfl) ?_
  refine lv_aload_n hx hb dL_law_399 rfl (lv_at hl 3 rfl) ?_
  refine lv_iload_n hx hb dL_law_400 rfl (lv_at hl 0 rfl) ?_
  refine lv_iconst (v := 1) hx hb dL_law_401 (by decide) ?_
  refine lv_iadd hx hb dL_law_402 ?_
  refine tz_i 1 (by decide) ?_
  refine va_sld hx hb hX hbl hbA hS (show ¬ ((1 : Int32) < 0 ∨ 6 ≤ (1 : Int32).toNatClampNeg) by decide) dL_law_403 ?_
  refine tz_i (xs 1) rfl ?_
  have hPc := hP.sub (ws' := [(mo, .inr (12, [.ref nw, .ref kp, .ref ik, .ref mr, .long 0, .long 1, .ref mw, .long 0, .int 0, .int 0, .long 0, .long 0, .ref mq, .ref mz, .ref my, .int 0, .ref mb, .int 0, .int 0, .int 0, .int 0, .int 0, .ref mx, .ref mv])), (mb, .inl (cb, 150, .inl (fun _ => 0))), (mr, .inl (cm, 3, .inl (fun _ => 0)))]) [0, 1, 2] rfl
  have hDc := hD.sub (ws' := [(mo, .inr (12, [.ref nw, .ref kp, .ref ik, .ref mr, .long 0, .long 1, .ref mw, .long 0, .int 0, .int 0, .long 0, .long 0, .ref mq, .ref mz, .ref my, .int 0, .ref mb, .int 0, .int 0, .int 0, .int 0, .int 0, .ref mx, .ref mv])), (mb, .inl (cb, 150, .inl (fun _ => 0))), (mr, .inl (cm, 3, .inl (fun _ => 0)))]) [0, 1, 2] (by decide) rfl
  have hKc := hK.sub (tys' := [(cb, .int), (cm, .int)]) [2, 3] rfl
  have hFc := va_free (wc := [(mo, .inr (12, [.ref nw, .ref kp, .ref ik, .ref mr, .long 0, .long 1, .ref mw, .long 0, .int 0, .int 0, .long 0, .long 0, .ref mq, .ref mz, .ref my, .int 0, .ref mb, .int 0, .int 0, .int 0, .int 0, .int 0, .ref mx, .ref mv])), (mb, .inl (cb, 150, .inl (fun _ => 0))), (mr, .inl (cm, 3, .inl (fun _ => 0)))]) hD hS hA [0, 1, 2] rfl
  refine va_calli (va_runV (As := [.int (xs 1)]) (rest := [.int (if 0 ≤ (xs 1) ∧ (xs 1) ≤ 127 then 1 else (-2))]) ⟨hx, hb, hml, hown, hts⟩ (k_m_type l dC dI mo nw kp ik mr mw mq mz my mb mx mv cb cm (xs 1) H.size) (cwV 1 hts gL_law_X12_type rfl rfl rfl (by decide +kernel) ⟨Nat.le_of_ble_eq_true rfl, Nat.le_of_ble_eq_true rfl⟩) ⟨fun a U g mk q => by obtain ⟨q0, q1, qP, qK, qD⟩ := q; exact ⟨q0, q1, qP, va_K.moved (u := U) (U := U.calling g mk a) (Vm.Alike.refl U.vm) qK, qD⟩, va_recv hK hP (ci := 12) (q0 := 0) rfl rfl, fun U hU hW => ⟨rfl, by rw [hU], by rw [hU]; exact hPc, va_K.moved hW.alike hKc, hDc.weaken (fun _ _ _ _ => trivial)⟩⟩ rfl rfl hl.1 rfl (lv_room (Nat.le_of_ble_eq_true rfl)) dL_law_404 ⟨Nat.le_of_ble_eq_true rfl, Nat.le_of_ble_eq_true rfl⟩) hS (fun q _ h => hFc q h) hFc (fun r_3 u_ t H1 locs ht hvm hw_4 hB hz1 hk1 hS => ?_)
  obtain ⟨hP, hD⟩ := va_join (wr := []) (w1 := []) hP hD [0, 1, 2] [] rfl rfl (by decide) (by decide) hk1 hFc tz_P0 tz_D0
  generalize H1 = H at hP hS ⊢
  have hP : va_P (dC, dI) vwCl [] H := hP
  have hD : va_D A [] := hD
  obtain rfl : (if 0 ≤ (xs 1) ∧ (xs 1) ≤ 127 then 1 else (-2)) = r_3 := hw_4.symm
  refine lv_icmp_eq (tgt := 1155) hx hb dL_law_407 (by decide) (fun c_5 => ?_) (fun c_5 => ?_)
  · refine lv_iinc (v := 6) (lv' := [(3, .int 6), (2, .ref mo), (1, .ref o), (0, .ref b)]) hx hb dL_law_1155 hl (k := 0) rfl (by decide) (by decide) rfl (fun ls hl => ?_)
    refine lv_goto (tgt := 18) hx hb dL_law_1158 (by decide) ?_
    refine lv_iload_n hx hb dL_law_18 rfl (lv_at hl 0 rfl) ?_
    refine lv_aload_n hx hb dL_law_19 rfl (lv_at hl 3 rfl) ?_
    refine va_slen hx hb hX hbl hbA hS dL_law_20 ?_
    refine tz_i 6 rfl ?_
    refine lv_bipush (v := 6) hx hb dL_law_21 (by decide) ?_
    refine lv_isub hx hb dL_law_23 ?_
    refine tz_i 0 (by decide) ?_
    refine lv_icmp_gt (tgt := 1161) hx hb dL_law_24 (by decide) (fun c_6 => ?_) (fun c_6 => ?_)
    · refine lv_iconst (v := 1) hx hb dL_law_1161 (by decide) ?_
      refine va_forget (fun q hq => hA2 _ (hS.2.2 q hq)) ?_
      refine W.widen (k := 600000) (n := 7302250) (Nat.le_of_ble_eq_true rfl) (Nat.le_of_ble_eq_true rfl) ?_
      exact lw_ret hx hb hr hlocks dL_law_1162
    · exact absurd c_6 (by decide)
  · exact absurd rfl c_5
set_option maxRecDepth 20000 in
theorem gL_law_X11_clear : GoodIn lw_tbl (wsV RL 50 RX11 yX11_clear wsX11_clear) := tz_good [(15, 9), (15, 10), (15, 11), (0, 2), (15, 12), (2, 4), (46, 0), (46, 1), (46, 2), (46, 3), (46, 4), (46, 5), (46, 6), (46, 7), (46, 8), (46, 9), (46, 10), (46, 11)] (by decide +kernel) (by decide +kernel)
set_option maxRecDepth 20000 in
theorem gL_law_X12_clear : GoodIn lw_tbl (wsV RL 53 RX12 yX12_clear wsX12_clear) := tz_good [(15, 13), (15, 14), (15, 15), (0, 5), (15, 16), (15, 8), (47, 0), (47, 1), (47, 2), (47, 3), (47, 4), (47, 5), (47, 6), (47, 7), (47, 8), (47, 9), (47, 10), (47, 11), (47, 12), (47, 13), (47, 14), (47, 15), (47, 16), (47, 17), (47, 18), (47, 19), (47, 20), (47, 21), (47, 22), (47, 23)] (by decide +kernel) (by decide +kernel)
theorem dL_law_412 : decode cL_law 412 = .ok (.aload_n 1, 1) := by decide +kernel
theorem dL_law_413 : decode cL_law 413 = .ok (.invokevirtual 50, 3) := by decide +kernel
theorem dL_law_416 : decode cL_law 416 = .ok (.aload_n 2, 1) := by decide +kernel
theorem dL_law_417 : decode cL_law 417 = .ok (.invokevirtual 53, 3) := by decide +kernel
theorem dL_law_420 : decode cL_law 420 = .ok (.if_icmp .eq 735, 3) := by decide +kernel
set_option maxHeartbeats 4000000 in
set_option maxRecDepth 100000 in
theorem lc_clear {p : Program} {l : Launch} {e : Env} {s : State} {m : MethodId} {below : List Frame} {meth : Method} {c : Code} {b : Nat} {xs : Nat → Int32} (C0 : lw_At p s m meth c b 6 xs) (hN : tz_N s) (A : Nat → Prop) (hA : ∀ q : Nat, s.heap.size ≤ q → A q) (hA2 : ∀ q : Nat, A q → s.heap.size ≤ q) (hbA : ¬ A b) (dC : Nat → ClassId) (dI : Nat → Nat → Nat) (o : Nat) (aw : Nat) (bk : Nat) (ai : Nat) (ak : Nat) (sc : Nat) (rd : Nat) (fo : Nat) (tx : Nat) (ar : Nat) (atr : Nat) (ao : Nat) (mo : Nat) (nw : Nat) (kp : Nat) (ik : Nat) (mr : Nat) (mw : Nat) (mq : Nat) (mz : Nat) (my : Nat) (mb : Nat) (mx : Nat) (mv : Nat) (H : Heap) (locs : List Loc) (hK : va_K (dC, dI) vwCl [] s) (hP : va_P (dC, dI) vwCl [(o, .inr (11, [.ref aw, .ref bk, .ref ai, .ref ak, .ref sc, .ref rd, .ref fo, .ref tx, .int 0, .ref ar, .ref atr, .ref ao])), (mo, .inr (12, [.ref nw, .ref kp, .ref ik, .ref mr, .long 0, .long 1, .ref mw, .long 0, .int 0, .int 0, .long 0, .long 0, .ref mq, .ref mz, .ref my, .int 0, .ref mb, .int 0, .int 0, .int 0, .int 0, .int 0, .ref mx, .ref mv]))] H) (hD : va_D A [(o, .inr (11, [.ref aw, .ref bk, .ref ai, .ref ak, .ref sc, .ref rd, .ref fo, .ref tx, .int 0, .ref ar, .ref atr, .ref ao])), (mo, .inr (12, [.ref nw, .ref kp, .ref ik, .ref mr, .long 0, .long 1, .ref mw, .long 0, .int 0, .int 0, .long 0, .long 0, .ref mq, .ref mz, .ref my, .int 0, .ref mb, .int 0, .int 0, .int 0, .int 0, .int 0, .ref mx, .ref mv]))]) (hS : va_S A s.heap H locs) (ls : Array Slot) (hl : lv_has ls 4 [(3, .int 0), (2, .ref mo), (1, .ref o), (0, .ref b)]) : W p l e room_1 s m #[Value.ref b] below meth c H locs 136 3195 (lw_Z below #[Value.ref b] s) (F0 m 412 ls []) := by
  obtain ⟨hx, hb, hr, hml, hown, hts, hX, hbl, hlocks, hgv⟩ := C0
  have hb : c.code = cL_law := hb
  have hown : s.vm.findClass RL = some m.cls := hown
  refine lv_aload_n hx hb dL_law_412 rfl (lv_at hl 2 rfl) ?_
  have hPc := hP.sub (ws' := [(o, .inr (11, [.ref aw, .ref bk, .ref ai, .ref ak, .ref sc, .ref rd, .ref fo, .ref tx, .int 0, .ref ar, .ref atr, .ref ao]))]) [0] rfl
  have hDc := hD.sub (ws' := [(o, .inr (11, [.ref aw, .ref bk, .ref ai, .ref ak, .ref sc, .ref rd, .ref fo, .ref tx, .int 0, .ref ar, .ref atr, .ref ao]))]) [0] (by decide) rfl
  have hKc := hK.sub (tys' := []) [] rfl
  have hFc := va_free (wc := [(o, .inr (11, [.ref aw, .ref bk, .ref ai, .ref ak, .ref sc, .ref rd, .ref fo, .ref tx, .int 0, .ref ar, .ref atr, .ref ao]))]) hD hS hA [0] rfl
  refine va_calli (va_runV (As := []) (rest := []) ⟨hx, hb, hml, hown, hts⟩ (k_x_clear l dC dI o aw bk ai ak sc rd fo tx ar atr ao H.size) (cwV 0 hts gL_law_X11_clear rfl rfl rfl (by decide +kernel) ⟨Nat.le_of_ble_eq_true rfl, Nat.le_of_ble_eq_true rfl⟩) ⟨fun a U g mk q => by obtain ⟨q0, q1, qP, qK, qD⟩ := q; exact ⟨q0, q1, qP, va_K.moved (u := U) (U := U.calling g mk a) (Vm.Alike.refl U.vm) qK, qD⟩, va_recv hK hP (ci := 11) (q0 := 0) rfl rfl, fun U hU hW => ⟨rfl, by rw [hU], by rw [hU]; exact hPc, va_K.moved hW.alike hKc, hDc.weaken (fun _ _ _ _ => trivial)⟩⟩ rfl rfl hl.1 rfl (lv_room (Nat.le_of_ble_eq_true rfl)) dL_law_413 ⟨Nat.le_of_ble_eq_true rfl, Nat.le_of_ble_eq_true rfl⟩) hS (fun q _ h => hFc q h) hFc (fun r_1 u_ t H1 locs ht hvm hw_2 hB hz1 hk1 hS => ?_)
  obtain ⟨hP, hD⟩ := va_join (wr := [(mo, .inr (12, [.ref nw, .ref kp, .ref ik, .ref mr, .long 0, .long 1, .ref mw, .long 0, .int 0, .int 0, .long 0, .long 0, .ref mq, .ref mz, .ref my, .int 0, .ref mb, .int 0, .int 0, .int 0, .int 0, .int 0, .ref mx, .ref mv]))]) (w1 := []) hP hD [0] [1] rfl rfl (by decide) (by decide) hk1 hFc tz_P0 tz_D0
  generalize H1 = H at hP hS ⊢
  have hP : va_P (dC, dI) vwCl [(mo, .inr (12, [.ref nw, .ref kp, .ref ik, .ref mr, .long 0, .long 1, .ref mw, .long 0, .int 0, .int 0, .long 0, .long 0, .ref mq, .ref mz, .ref my, .int 0, .ref mb, .int 0, .int 0, .int 0, .int 0, .int 0, .ref mx, .ref mv]))] H := hP
  have hD : va_D A [(mo, .inr (12, [.ref nw, .ref kp, .ref ik, .ref mr, .long 0, .long 1, .ref mw, .long 0, .int 0, .int 0, .long 0, .long 0, .ref mq, .ref mz, .ref my, .int 0, .ref mb, .int 0, .int 0, .int 0, .int 0, .int 0, .ref mx, .ref mv]))] := hD
  obtain rfl : 0 = r_1 := hw_2.symm
  refine lv_aload_n hx hb dL_law_416 rfl (lv_at hl 1 rfl) ?_
  have hPc := hP.sub (ws' := [(mo, .inr (12, [.ref nw, .ref kp, .ref ik, .ref mr, .long 0, .long 1, .ref mw, .long 0, .int 0, .int 0, .long 0, .long 0, .ref mq, .ref mz, .ref my, .int 0, .ref mb, .int 0, .int 0, .int 0, .int 0, .int 0, .ref mx, .ref mv]))]) [0] rfl
  have hDc := hD.sub (ws' := [(mo, .inr (12, [.ref nw, .ref kp, .ref ik, .ref mr, .long 0, .long 1, .ref mw, .long 0, .int 0, .int 0, .long 0, .long 0, .ref mq, .ref mz, .ref my, .int 0, .ref mb, .int 0, .int 0, .int 0, .int 0, .int 0, .ref mx, .ref mv]))]) [0] (by decide) rfl
  have hKc := hK.sub (tys' := []) [] rfl
  have hFc := va_free (wc := [(mo, .inr (12, [.ref nw, .ref kp, .ref ik, .ref mr, .long 0, .long 1, .ref mw, .long 0, .int 0, .int 0, .long 0, .long 0, .ref mq, .ref mz, .ref my, .int 0, .ref mb, .int 0, .int 0, .int 0, .int 0, .int 0, .ref mx, .ref mv]))]) hD hS hA [0] rfl
  refine va_calli (va_runV (As := []) (rest := [.int 0]) ⟨hx, hb, hml, hown, hts⟩ (k_m_clear l dC dI mo nw kp ik mr mw mq mz my mb mx mv H.size) (cwV 0 hts gL_law_X12_clear rfl rfl rfl (by decide +kernel) ⟨Nat.le_of_ble_eq_true rfl, Nat.le_of_ble_eq_true rfl⟩) ⟨fun a U g mk q => by obtain ⟨q0, q1, qP, qK, qD⟩ := q; exact ⟨q0, q1, qP, va_K.moved (u := U) (U := U.calling g mk a) (Vm.Alike.refl U.vm) qK, qD⟩, va_recv hK hP (ci := 12) (q0 := 0) rfl rfl, fun U hU hW => ⟨rfl, by rw [hU], by rw [hU]; exact hPc, va_K.moved hW.alike hKc, hDc.weaken (fun _ _ _ _ => trivial)⟩⟩ rfl rfl hl.1 rfl (lv_room (Nat.le_of_ble_eq_true rfl)) dL_law_417 ⟨Nat.le_of_ble_eq_true rfl, Nat.le_of_ble_eq_true rfl⟩) hS (fun q _ h => hFc q h) hFc (fun r_3 u_ t H1 locs ht hvm hw_4 hB hz1 hk1 hS => ?_)
  obtain ⟨hP, hD⟩ := va_join (wr := []) (w1 := []) hP hD [0] [] rfl rfl (by decide) (by decide) hk1 hFc tz_P0 tz_D0
  generalize H1 = H at hP hS ⊢
  have hP : va_P (dC, dI) vwCl [] H := hP
  have hD : va_D A [] := hD
  obtain rfl : 0 = r_3 := hw_4.symm
  refine lv_icmp_eq (tgt := 1155) hx hb dL_law_420 (by decide) (fun c_5 => ?_) (fun c_5 => ?_)
  · refine lv_iinc (v := 6) (lv' := [(3, .int 6), (2, .ref mo), (1, .ref o), (0, .ref b)]) hx hb dL_law_1155 hl (k := 0) rfl (by decide) (by decide) rfl (fun ls hl => ?_)
    refine lv_goto (tgt := 18) hx hb dL_law_1158 (by decide) ?_
    refine lv_iload_n hx hb dL_law_18 rfl (lv_at hl 0 rfl) ?_
    refine lv_aload_n hx hb dL_law_19 rfl (lv_at hl 3 rfl) ?_
    refine va_slen hx hb hX hbl hbA hS dL_law_20 ?_
    refine tz_i 6 rfl ?_
    refine lv_bipush (v := 6) hx hb dL_law_21 (by decide) ?_
    refine lv_isub hx hb dL_law_23 ?_
    refine tz_i 0 (by decide) ?_
    refine lv_icmp_gt (tgt := 1161) hx hb dL_law_24 (by decide) (fun c_6 => ?_) (fun c_6 => ?_)
    · refine lv_iconst (v := 1) hx hb dL_law_1161 (by decide) ?_
      refine va_forget (fun q hq => hA2 _ (hS.2.2 q hq)) ?_
      refine W.widen (k := 600000) (n := 7302250) (Nat.le_of_ble_eq_true rfl) (Nat.le_of_ble_eq_true rfl) ?_
      exact lw_ret hx hb hr hlocks dL_law_1162
    · exact absurd c_6 (by decide)
  · exact absurd c_5 (by decide)
set_option maxRecDepth 20000 in
theorem gL_law_X11_read : GoodIn lw_tbl (wsV RL 54 RX11 yX11_read wsX11_read) := tz_good [(15, 17), (15, 18), (15, 19), (0, 2), (15, 20), (1, 21), (2, 3), (2, 4), (1, 10), (15, 21), (15, 22), (15, 23), (16, 0), (1, 20), (16, 1), (4, 10), (16, 2), (12, 9), (3, 18), (12, 10), (16, 3), (3, 17), (3, 19), (4, 11), (4, 12), (4, 16), (4, 17), (4, 9), (4, 13), (16, 4), (6, 2), (6, 3), (1, 9), (6, 4), (3, 5), (3, 6), (3, 7), (3, 8), (3, 10), (6, 5), (6, 6), (6, 7), (3, 4), (6, 8), (3, 15), (16, 5), (16, 6), (16, 7), (16, 8), (4, 14), (16, 9), (16, 10), (16, 11), (16, 12), (16, 13), (16, 14), (16, 15), (16, 16), (16, 17), (16, 18), (16, 19), (16, 20), (16, 21), (16, 22), (16, 23), (17, 0), (17, 1), (17, 2), (4, 15), (17, 3), (17, 4), (17, 5), (17, 6), (17, 7), (17, 8), (17, 9), (17, 10), (17, 11), (17, 12), (17, 13), (17, 14), (17, 15), (17, 16), (17, 17), (17, 18), (17, 19), (17, 20), (17, 21), (17, 22), (17, 23), (18, 0), (18, 1), (18, 2), (18, 3), (18, 4), (18, 5), (18, 6), (18, 7), (18, 8), (18, 9), (18, 10), (18, 11), (18, 12), (18, 13), (18, 14), (18, 15), (18, 16), (18, 17), (18, 18), (18, 19), (18, 20), (18, 21), (18, 22), (18, 23), (19, 0), (19, 1), (19, 2), (19, 3), (19, 4), (19, 5), (19, 6), (19, 7), (19, 8), (19, 9), (19, 10), (19, 11), (19, 12), (19, 13), (19, 14), (19, 15), (19, 16), (19, 17), (19, 18), (19, 19), (7, 16), (7, 17), (7, 18), (3, 20), (19, 20), (19, 21), (19, 22), (19, 23), (20, 0), (20, 1), (20, 2), (20, 3), (20, 4), (7, 20), (7, 21), (7, 22), (7, 23), (8, 0), (8, 1), (8, 2), (8, 3), (8, 4), (8, 5), (8, 6), (8, 7), (3, 22), (3, 21), (8, 8), (8, 9), (8, 10), (8, 11), (20, 5), (20, 6), (20, 7), (20, 8), (20, 9), (9, 12), (9, 13), (9, 14), (20, 10), (20, 11), (20, 12), (20, 13), (20, 14), (5, 22), (5, 23), (6, 0), (20, 15), (10, 13), (10, 14), (10, 15), (20, 16), (20, 17), (20, 18), (20, 19), (20, 20), (12, 16), (12, 17), (12, 18), (20, 21), (20, 22), (20, 23), (21, 0), (21, 1), (21, 2), (21, 3), (21, 4), (3, 9), (21, 5), (12, 4), (12, 5), (12, 6), (12, 7), (12, 8), (12, 11), (12, 12), (12, 13), (12, 14), (21, 6), (21, 7), (21, 8), (21, 9), (46, 0), (46, 1), (46, 2), (46, 3), (46, 4), (46, 5), (46, 6), (46, 7), (46, 8), (46, 9), (46, 10), (46, 11), (56, 0), (56, 1), (56, 2), (56, 3), (56, 4), (56, 5), (56, 6), (56, 7), (56, 8), (54, 0), (54, 1), (54, 2), (54, 3), (54, 4), (54, 5), (58, 0), (58, 1), (58, 2), (58, 3)] (by decide +kernel) (by decide +kernel)
set_option maxRecDepth 20000 in
theorem gL_law_X12_read : GoodIn lw_tbl (wsV RL 57 RX12 yX12_read wsX12_read) := tz_good [(21, 10), (21, 11), (21, 12), (0, 5), (21, 13), (21, 14), (21, 15), (5, 4), (5, 14), (21, 16), (21, 17), (21, 18), (0, 5), (21, 19), (15, 8), (5, 13), (21, 20), (21, 21), (21, 22), (21, 23), (22, 0), (22, 1), (22, 2), (8, 17), (8, 18), (8, 19), (22, 3), (22, 4), (22, 5), (22, 6), (22, 7), (22, 8), (22, 9), (22, 10), (22, 11), (22, 12), (22, 13), (22, 14), (22, 15), (22, 16), (22, 17), (22, 18), (22, 19), (6, 20), (6, 21), (6, 22), (22, 20), (22, 21), (22, 22), (22, 23), (23, 0), (23, 1), (23, 2), (23, 3), (5, 15), (23, 4), (23, 5), (23, 6), (23, 7), (9, 4), (9, 5), (9, 6), (23, 8), (23, 9), (23, 10), (23, 11), (9, 21), (9, 22), (9, 23), (23, 12), (23, 13), (23, 14), (23, 15), (11, 8), (11, 9), (11, 10), (23, 16), (23, 17), (23, 18), (23, 19), (13, 9), (13, 10), (13, 11), (47, 0), (47, 1), (47, 2), (47, 3), (47, 4), (47, 5), (47, 6), (47, 7), (47, 8), (47, 9), (47, 10), (47, 11), (47, 12), (47, 13), (47, 14), (47, 15), (47, 16), (47, 17), (47, 18), (47, 19), (47, 20), (47, 21), (47, 22), (47, 23)] (by decide +kernel) (by decide +kernel)
theorem dL_law_425 : decode cL_law 425 = .ok (.aload_n 1, 1) := by decide +kernel
theorem dL_law_426 : decode cL_law 426 = .ok (.invokevirtual 54, 3) := by decide +kernel
theorem dL_law_429 : decode cL_law 429 = .ok (.aload_n 2, 1) := by decide +kernel
theorem dL_law_430 : decode cL_law 430 = .ok (.invokevirtual 57, 3) := by decide +kernel
theorem dL_law_433 : decode cL_law 433 = .ok (.if_icmp .eq 722, 3) := by decide +kernel
set_option maxHeartbeats 4000000 in
set_option maxRecDepth 100000 in
theorem lc_read {p : Program} {l : Launch} {e : Env} {s : State} {m : MethodId} {below : List Frame} {meth : Method} {c : Code} {b : Nat} {xs : Nat → Int32} (C0 : lw_At p s m meth c b 6 xs) (hN : tz_N s) (A : Nat → Prop) (hA : ∀ q : Nat, s.heap.size ≤ q → A q) (hA2 : ∀ q : Nat, A q → s.heap.size ≤ q) (hbA : ¬ A b) (dC : Nat → ClassId) (dI : Nat → Nat → Nat) (o : Nat) (aw : Nat) (bk : Nat) (ai : Nat) (ak : Nat) (sc : Nat) (rd : Nat) (fo : Nat) (tx : Nat) (ar : Nat) (atr : Nat) (ao : Nat) (bd : Nat) (td : Nat) (rd0 : Nat) (rd1 : Nat) (rd2 : Nat) (rd3 : Nat) (ead : Nat) (cad0 : Nat) (cad1 : Nat) (cad2 : Nat) (cad3 : Nat) (ct : ClassId) (mo : Nat) (nw : Nat) (kp : Nat) (ik : Nat) (mr : Nat) (mw : Nat) (mq : Nat) (mz : Nat) (my : Nat) (mb : Nat) (mx : Nat) (mv : Nat) (H : Heap) (locs : List Loc) (hK : va_K (dC, dI) vwCl [(ct, .byte)] s) (hP : va_P (dC, dI) vwCl [(o, .inr (11, [.ref aw, .ref bk, .ref ai, .ref ak, .ref sc, .ref rd, .ref fo, .ref tx, .int 0, .ref ar, .ref atr, .ref ao])), (rd, .inr (5, [.ref bd, .ref td, .int 0, .int 0, .int 0, .int 0, .int 0, .int 0, .int 0])), (bd, .inr (0, [.ref rd0, .ref rd1, .ref rd2, .ref rd3, .ref ead, .int 0])), (rd0, .inr (6, [.int 1, .int 5, .ref cad0, .int 0])), (rd1, .inr (6, [.int 4, .int 5, .ref cad1, .int 0])), (rd2, .inr (6, [.int 4, .int 8, .ref cad2, .int 0])), (rd3, .inr (6, [.int 4, .int 6, .ref cad3, .int 0])), (tx, .inl (ct, 150, .inl (fun _ => 0))), (mo, .inr (12, [.ref nw, .ref kp, .ref ik, .ref mr, .long 0, .long 1, .ref mw, .long 0, .int 0, .int 0, .long 0, .long 0, .ref mq, .ref mz, .ref my, .int 0, .ref mb, .int 0, .int 0, .int 0, .int 0, .int 0, .ref mx, .ref mv]))] H) (hD : va_D A [(o, .inr (11, [.ref aw, .ref bk, .ref ai, .ref ak, .ref sc, .ref rd, .ref fo, .ref tx, .int 0, .ref ar, .ref atr, .ref ao])), (rd, .inr (5, [.ref bd, .ref td, .int 0, .int 0, .int 0, .int 0, .int 0, .int 0, .int 0])), (bd, .inr (0, [.ref rd0, .ref rd1, .ref rd2, .ref rd3, .ref ead, .int 0])), (rd0, .inr (6, [.int 1, .int 5, .ref cad0, .int 0])), (rd1, .inr (6, [.int 4, .int 5, .ref cad1, .int 0])), (rd2, .inr (6, [.int 4, .int 8, .ref cad2, .int 0])), (rd3, .inr (6, [.int 4, .int 6, .ref cad3, .int 0])), (tx, .inl (ct, 150, .inl (fun _ => 0))), (mo, .inr (12, [.ref nw, .ref kp, .ref ik, .ref mr, .long 0, .long 1, .ref mw, .long 0, .int 0, .int 0, .long 0, .long 0, .ref mq, .ref mz, .ref my, .int 0, .ref mb, .int 0, .int 0, .int 0, .int 0, .int 0, .ref mx, .ref mv]))]) (hS : va_S A s.heap H locs) (ls : Array Slot) (hl : lv_has ls 4 [(3, .int 0), (2, .ref mo), (1, .ref o), (0, .ref b)]) : W p l e room_1 s m #[Value.ref b] below meth c H locs 136 3195 (lw_Z below #[Value.ref b] s) (F0 m 425 ls []) := by
  obtain ⟨hx, hb, hr, hml, hown, hts, hX, hbl, hlocks, hgv⟩ := C0
  have hb : c.code = cL_law := hb
  have hown : s.vm.findClass RL = some m.cls := hown
  refine lv_aload_n hx hb dL_law_425 rfl (lv_at hl 2 rfl) ?_
  have hPc := hP.sub (ws' := [(o, .inr (11, [.ref aw, .ref bk, .ref ai, .ref ak, .ref sc, .ref rd, .ref fo, .ref tx, .int 0, .ref ar, .ref atr, .ref ao])), (rd, .inr (5, [.ref bd, .ref td, .int 0, .int 0, .int 0, .int 0, .int 0, .int 0, .int 0])), (bd, .inr (0, [.ref rd0, .ref rd1, .ref rd2, .ref rd3, .ref ead, .int 0])), (rd0, .inr (6, [.int 1, .int 5, .ref cad0, .int 0])), (rd1, .inr (6, [.int 4, .int 5, .ref cad1, .int 0])), (rd2, .inr (6, [.int 4, .int 8, .ref cad2, .int 0])), (rd3, .inr (6, [.int 4, .int 6, .ref cad3, .int 0])), (tx, .inl (ct, 150, .inl (fun _ => 0)))]) [0, 1, 2, 3, 4, 5, 6, 7] rfl
  have hDc := hD.sub (ws' := [(o, .inr (11, [.ref aw, .ref bk, .ref ai, .ref ak, .ref sc, .ref rd, .ref fo, .ref tx, .int 0, .ref ar, .ref atr, .ref ao])), (rd, .inr (5, [.ref bd, .ref td, .int 0, .int 0, .int 0, .int 0, .int 0, .int 0, .int 0])), (bd, .inr (0, [.ref rd0, .ref rd1, .ref rd2, .ref rd3, .ref ead, .int 0])), (rd0, .inr (6, [.int 1, .int 5, .ref cad0, .int 0])), (rd1, .inr (6, [.int 4, .int 5, .ref cad1, .int 0])), (rd2, .inr (6, [.int 4, .int 8, .ref cad2, .int 0])), (rd3, .inr (6, [.int 4, .int 6, .ref cad3, .int 0])), (tx, .inl (ct, 150, .inl (fun _ => 0)))]) [0, 1, 2, 3, 4, 5, 6, 7] (by decide) rfl
  have hKc := hK.sub (tys' := [(ct, .byte)]) [0] rfl
  have hFc := va_free (wc := [(o, .inr (11, [.ref aw, .ref bk, .ref ai, .ref ak, .ref sc, .ref rd, .ref fo, .ref tx, .int 0, .ref ar, .ref atr, .ref ao])), (rd, .inr (5, [.ref bd, .ref td, .int 0, .int 0, .int 0, .int 0, .int 0, .int 0, .int 0])), (bd, .inr (0, [.ref rd0, .ref rd1, .ref rd2, .ref rd3, .ref ead, .int 0])), (rd0, .inr (6, [.int 1, .int 5, .ref cad0, .int 0])), (rd1, .inr (6, [.int 4, .int 5, .ref cad1, .int 0])), (rd2, .inr (6, [.int 4, .int 8, .ref cad2, .int 0])), (rd3, .inr (6, [.int 4, .int 6, .ref cad3, .int 0])), (tx, .inl (ct, 150, .inl (fun _ => 0)))]) hD hS hA [0, 1, 2, 3, 4, 5, 6, 7] rfl
  refine va_calli (va_runV (As := []) (rest := []) ⟨hx, hb, hml, hown, hts⟩ (k_x_read l dC dI o aw bk ai ak sc rd fo tx ar atr ao bd td rd0 rd1 rd2 rd3 ead cad0 cad1 cad2 cad3 ct H.size) (cwV 0 hts gL_law_X11_read rfl rfl rfl (by decide +kernel) ⟨Nat.le_of_ble_eq_true rfl, Nat.le_of_ble_eq_true rfl⟩) ⟨fun a U g mk q => by obtain ⟨q0, q1, qP, qK, qD, qN⟩ := q; exact ⟨q0, q1, qP, va_K.moved (u := U) (U := U.calling g mk a) (Vm.Alike.refl U.vm) qK, qD, tz_N.same (u := U) (U := U.calling g mk a) rfl qN⟩, va_recv hK hP (ci := 11) (q0 := 0) rfl rfl, fun U hU hW => ⟨rfl, by rw [hU], by rw [hU]; exact hPc, va_K.moved hW.alike hKc, hDc.weaken (fun _ _ _ _ => trivial), tz_N.warm hW hN⟩⟩ rfl rfl hl.1 rfl (lv_room (Nat.le_of_ble_eq_true rfl)) dL_law_426 ⟨Nat.le_of_ble_eq_true rfl, Nat.le_of_ble_eq_true rfl⟩) hS (fun q _ h => hFc q h) hFc (fun r_1 u_ t H1 locs ht hvm hw_2 hB hz1 hk1 hS => ?_)
  obtain ⟨hP, hD⟩ := va_join (wr := [(mo, .inr (12, [.ref nw, .ref kp, .ref ik, .ref mr, .long 0, .long 1, .ref mw, .long 0, .int 0, .int 0, .long 0, .long 0, .ref mq, .ref mz, .ref my, .int 0, .ref mb, .int 0, .int 0, .int 0, .int 0, .int 0, .ref mx, .ref mv]))]) (w1 := []) hP hD [0, 1, 2, 3, 4, 5, 6, 7] [8] rfl rfl (by decide) (by decide) hk1 hFc tz_P0 tz_D0
  generalize H1 = H at hP hS ⊢
  have hP : va_P (dC, dI) vwCl [(mo, .inr (12, [.ref nw, .ref kp, .ref ik, .ref mr, .long 0, .long 1, .ref mw, .long 0, .int 0, .int 0, .long 0, .long 0, .ref mq, .ref mz, .ref my, .int 0, .ref mb, .int 0, .int 0, .int 0, .int 0, .int 0, .ref mx, .ref mv]))] H := hP
  have hD : va_D A [(mo, .inr (12, [.ref nw, .ref kp, .ref ik, .ref mr, .long 0, .long 1, .ref mw, .long 0, .int 0, .int 0, .long 0, .long 0, .ref mq, .ref mz, .ref my, .int 0, .ref mb, .int 0, .int 0, .int 0, .int 0, .int 0, .ref mx, .ref mv]))] := hD
  obtain rfl : (-10) = r_1 := hw_2.symm
  refine lv_aload_n hx hb dL_law_429 rfl (lv_at hl 1 rfl) ?_
  have hPc := hP.sub (ws' := [(mo, .inr (12, [.ref nw, .ref kp, .ref ik, .ref mr, .long 0, .long 1, .ref mw, .long 0, .int 0, .int 0, .long 0, .long 0, .ref mq, .ref mz, .ref my, .int 0, .ref mb, .int 0, .int 0, .int 0, .int 0, .int 0, .ref mx, .ref mv]))]) [0] rfl
  have hDc := hD.sub (ws' := [(mo, .inr (12, [.ref nw, .ref kp, .ref ik, .ref mr, .long 0, .long 1, .ref mw, .long 0, .int 0, .int 0, .long 0, .long 0, .ref mq, .ref mz, .ref my, .int 0, .ref mb, .int 0, .int 0, .int 0, .int 0, .int 0, .ref mx, .ref mv]))]) [0] (by decide) rfl
  have hKc := hK.sub (tys' := []) [] rfl
  have hFc := va_free (wc := [(mo, .inr (12, [.ref nw, .ref kp, .ref ik, .ref mr, .long 0, .long 1, .ref mw, .long 0, .int 0, .int 0, .long 0, .long 0, .ref mq, .ref mz, .ref my, .int 0, .ref mb, .int 0, .int 0, .int 0, .int 0, .int 0, .ref mx, .ref mv]))]) hD hS hA [0] rfl
  refine va_calli (va_runV (As := []) (rest := [.int (-10)]) ⟨hx, hb, hml, hown, hts⟩ (k_m_read l dC dI mo nw kp ik mr mw mq mz my mb mx mv H.size) (cwV 0 hts gL_law_X12_read rfl rfl rfl (by decide +kernel) ⟨Nat.le_of_ble_eq_true rfl, Nat.le_of_ble_eq_true rfl⟩) ⟨fun a U g mk q => by obtain ⟨q0, q1, qP, qK, qD⟩ := q; exact ⟨q0, q1, qP, va_K.moved (u := U) (U := U.calling g mk a) (Vm.Alike.refl U.vm) qK, qD⟩, va_recv hK hP (ci := 12) (q0 := 0) rfl rfl, fun U hU hW => ⟨rfl, by rw [hU], by rw [hU]; exact hPc, va_K.moved hW.alike hKc, hDc.weaken (fun _ _ _ _ => trivial)⟩⟩ rfl rfl hl.1 rfl (lv_room (Nat.le_of_ble_eq_true rfl)) dL_law_430 ⟨Nat.le_of_ble_eq_true rfl, Nat.le_of_ble_eq_true rfl⟩) hS (fun q _ h => hFc q h) hFc (fun r_3 u_ t H1 locs ht hvm hw_4 hB hz1 hk1 hS => ?_)
  obtain ⟨hP, hD⟩ := va_join (wr := []) (w1 := []) hP hD [0] [] rfl rfl (by decide) (by decide) hk1 hFc tz_P0 tz_D0
  generalize H1 = H at hP hS ⊢
  have hP : va_P (dC, dI) vwCl [] H := hP
  have hD : va_D A [] := hD
  obtain rfl : (-10) = r_3 := hw_4.symm
  refine lv_icmp_eq (tgt := 1155) hx hb dL_law_433 (by decide) (fun c_5 => ?_) (fun c_5 => ?_)
  · refine lv_iinc (v := 6) (lv' := [(3, .int 6), (2, .ref mo), (1, .ref o), (0, .ref b)]) hx hb dL_law_1155 hl (k := 0) rfl (by decide) (by decide) rfl (fun ls hl => ?_)
    refine lv_goto (tgt := 18) hx hb dL_law_1158 (by decide) ?_
    refine lv_iload_n hx hb dL_law_18 rfl (lv_at hl 0 rfl) ?_
    refine lv_aload_n hx hb dL_law_19 rfl (lv_at hl 3 rfl) ?_
    refine va_slen hx hb hX hbl hbA hS dL_law_20 ?_
    refine tz_i 6 rfl ?_
    refine lv_bipush (v := 6) hx hb dL_law_21 (by decide) ?_
    refine lv_isub hx hb dL_law_23 ?_
    refine tz_i 0 (by decide) ?_
    refine lv_icmp_gt (tgt := 1161) hx hb dL_law_24 (by decide) (fun c_6 => ?_) (fun c_6 => ?_)
    · refine lv_iconst (v := 1) hx hb dL_law_1161 (by decide) ?_
      refine va_forget (fun q hq => hA2 _ (hS.2.2 q hq)) ?_
      refine W.widen (k := 600000) (n := 7302250) (Nat.le_of_ble_eq_true rfl) (Nat.le_of_ble_eq_true rfl) ?_
      exact lw_ret hx hb hr hlocks dL_law_1162
    · exact absurd c_6 (by decide)
  · exact absurd c_5 (by decide)
set_option maxRecDepth 20000 in
theorem gL_law_X11_way : GoodIn lw_tbl (wsV RL 58 RX11 yX11_way wsX11_way) := tz_good [(23, 20), (23, 21), (23, 22), (0, 2), (23, 23), (1, 6), (11, 16), (11, 17), (11, 18), (0, 2), (11, 19), (7, 4), (7, 5), (7, 6), (7, 11), (7, 12), (7, 13), (7, 14), (2, 6), (24, 0), (24, 1), (24, 2), (24, 3), (24, 4), (0, 17), (24, 5), (24, 6), (24, 7), (24, 2), (0, 14), (24, 9), (24, 10), (24, 11), (0, 23), (24, 12), (24, 13), (24, 14), (24, 15), (24, 16), (0, 20), (24, 17), (24, 0), (24, 19), (24, 20), (24, 21), (1, 5), (24, 22), (24, 23), (25, 0), (25, 1), (25, 2), (1, 2), (25, 3), (25, 4), (25, 5), (25, 6), (25, 7), (25, 8), (25, 9), (25, 10), (25, 11), (25, 12), (25, 13), (25, 14), (25, 10), (25, 16), (25, 17), (25, 18), (25, 19), (25, 8), (25, 21), (25, 22), (25, 23), (26, 0), (26, 1), (26, 2), (26, 3), (26, 4), (26, 5), (26, 6), (26, 7), (26, 8), (26, 9), (26, 9), (26, 11), (26, 4), (26, 13), (26, 14), (26, 15), (26, 16), (46, 0), (46, 1), (46, 2), (46, 3), (46, 4), (46, 5), (46, 6), (46, 7), (46, 8), (46, 9), (46, 10), (46, 11)] (by decide +kernel) (by decide +kernel)
set_option maxRecDepth 20000 in
theorem gL_law_X12_way : GoodIn lw_tbl (wsV RL 61 RX12 yX12_way wsX12_way) := tz_good [(26, 17), (26, 18), (26, 19), (0, 5), (26, 20), (26, 21), (13, 1), (13, 2), (0, 5), (13, 3), (13, 4), (8, 17), (8, 18), (8, 19), (8, 20), (8, 21), (8, 22), (8, 23), (5, 7), (26, 22), (26, 23), (27, 0), (27, 1), (27, 2), (27, 3), (27, 4), (27, 5), (27, 6), (27, 7), (27, 8), (27, 9), (27, 10), (27, 11), (27, 12), (27, 13), (27, 14), (47, 0), (47, 1), (47, 2), (47, 3), (47, 4), (47, 5), (47, 6), (47, 7), (47, 8), (47, 9), (47, 10), (47, 11), (47, 12), (47, 13), (47, 14), (47, 15), (47, 16), (47, 17), (47, 18), (47, 19), (47, 20), (47, 21), (47, 22), (47, 23)] (by decide +kernel) (by decide +kernel)
theorem dL_law_438 : decode cL_law 438 = .ok (.aload_n 1, 1) := by decide +kernel
theorem dL_law_439 : decode cL_law 439 = .ok (.aload_n 0, 1) := by decide +kernel
theorem dL_law_440 : decode cL_law 440 = .ok (.iload_n 3, 1) := by decide +kernel
theorem dL_law_441 : decode cL_law 441 = .ok (.iconst 1, 1) := by decide +kernel
theorem dL_law_442 : decode cL_law 442 = .ok (.iadd, 1) := by decide +kernel
theorem dL_law_443 : decode cL_law 443 = .ok (.iaload, 1) := by decide +kernel
theorem dL_law_444 : decode cL_law 444 = .ok (.aload_n 0, 1) := by decide +kernel
theorem dL_law_445 : decode cL_law 445 = .ok (.iload_n 3, 1) := by decide +kernel
theorem dL_law_446 : decode cL_law 446 = .ok (.iconst 2, 1) := by decide +kernel
theorem dL_law_447 : decode cL_law 447 = .ok (.iadd, 1) := by decide +kernel
theorem dL_law_448 : decode cL_law 448 = .ok (.iaload, 1) := by decide +kernel
theorem dL_law_449 : decode cL_law 449 = .ok (.invokevirtual 58, 3) := by decide +kernel
theorem dL_law_452 : decode cL_law 452 = .ok (.aload_n 2, 1) := by decide +kernel
theorem dL_law_453 : decode cL_law 453 = .ok (.aload_n 0, 1) := by decide +kernel
theorem dL_law_454 : decode cL_law 454 = .ok (.iload_n 3, 1) := by decide +kernel
theorem dL_law_455 : decode cL_law 455 = .ok (.iconst 1, 1) := by decide +kernel
theorem dL_law_456 : decode cL_law 456 = .ok (.iadd, 1) := by decide +kernel
theorem dL_law_457 : decode cL_law 457 = .ok (.iaload, 1) := by decide +kernel
theorem dL_law_458 : decode cL_law 458 = .ok (.aload_n 0, 1) := by decide +kernel
theorem dL_law_459 : decode cL_law 459 = .ok (.iload_n 3, 1) := by decide +kernel
theorem dL_law_460 : decode cL_law 460 = .ok (.iconst 2, 1) := by decide +kernel
theorem dL_law_461 : decode cL_law 461 = .ok (.iadd, 1) := by decide +kernel
theorem dL_law_462 : decode cL_law 462 = .ok (.iaload, 1) := by decide +kernel
theorem dL_law_463 : decode cL_law 463 = .ok (.invokevirtual 61, 3) := by decide +kernel
theorem dL_law_466 : decode cL_law 466 = .ok (.if_icmp .eq 689, 3) := by decide +kernel
set_option maxHeartbeats 4000000 in
set_option maxRecDepth 100000 in
theorem lc_way {p : Program} {l : Launch} {e : Env} {s : State} {m : MethodId} {below : List Frame} {meth : Method} {c : Code} {b : Nat} {xs : Nat → Int32} (C0 : lw_At p s m meth c b 6 xs) (hN : tz_N s) (A : Nat → Prop) (hA : ∀ q : Nat, s.heap.size ≤ q → A q) (hA2 : ∀ q : Nat, A q → s.heap.size ≤ q) (hbA : ¬ A b) (dC : Nat → ClassId) (dI : Nat → Nat → Nat) (o : Nat) (aw : Nat) (bk : Nat) (ai : Nat) (ak : Nat) (sc : Nat) (rd : Nat) (fo : Nat) (tx : Nat) (ar : Nat) (atr : Nat) (ao : Nat) (cw : ClassId) (w0 : Nat) (w1 : Nat) (w2 : Nat) (w3 : Nat) (w4 : Nat) (w5 : Nat) (cr : ClassId) (mo : Nat) (nw : Nat) (kp : Nat) (ik : Nat) (mr : Nat) (mw : Nat) (mq : Nat) (mz : Nat) (my : Nat) (mb : Nat) (mx : Nat) (mv : Nat) (cm : ClassId) (H : Heap) (locs : List Loc) (hK : va_K (dC, dI) vwCl [(cw, (.object "ThriceCounted$Ones")), (cr, .int), (cm, .int)] s) (hP : va_P (dC, dI) vwCl [(o, .inr (11, [.ref aw, .ref bk, .ref ai, .ref ak, .ref sc, .ref rd, .ref fo, .ref tx, .int 0, .ref ar, .ref atr, .ref ao])), (aw, .inl (cw, 6, .inr (.inr (.inr (.inr (tz_w w0 w1 w2 w3 w4 w5)))))), (w0, .inr (4, [])), (w1, .inr (1, [])), (w2, .inr (10, [])), (w3, .inr (3, [])), (w4, .inr (9, [])), (w5, .inr (8, [])), (ar, .inl (cr, 3, .inl (fun _ => 0))), (mo, .inr (12, [.ref nw, .ref kp, .ref ik, .ref mr, .long 0, .long 1, .ref mw, .long 0, .int 0, .int 0, .long 0, .long 0, .ref mq, .ref mz, .ref my, .int 0, .ref mb, .int 0, .int 0, .int 0, .int 0, .int 0, .ref mx, .ref mv])), (mr, .inl (cm, 3, .inl (fun _ => 0)))] H) (hD : va_D A [(o, .inr (11, [.ref aw, .ref bk, .ref ai, .ref ak, .ref sc, .ref rd, .ref fo, .ref tx, .int 0, .ref ar, .ref atr, .ref ao])), (aw, .inl (cw, 6, .inr (.inr (.inr (.inr (tz_w w0 w1 w2 w3 w4 w5)))))), (w0, .inr (4, [])), (w1, .inr (1, [])), (w2, .inr (10, [])), (w3, .inr (3, [])), (w4, .inr (9, [])), (w5, .inr (8, [])), (ar, .inl (cr, 3, .inl (fun _ => 0))), (mo, .inr (12, [.ref nw, .ref kp, .ref ik, .ref mr, .long 0, .long 1, .ref mw, .long 0, .int 0, .int 0, .long 0, .long 0, .ref mq, .ref mz, .ref my, .int 0, .ref mb, .int 0, .int 0, .int 0, .int 0, .int 0, .ref mx, .ref mv])), (mr, .inl (cm, 3, .inl (fun _ => 0)))]) (hS : va_S A s.heap H locs) (ls : Array Slot) (hl : lv_has ls 4 [(3, .int 0), (2, .ref mo), (1, .ref o), (0, .ref b)]) : W p l e room_1 s m #[Value.ref b] below meth c H locs 136 3195 (lw_Z below #[Value.ref b] s) (F0 m 438 ls []) := by
  obtain ⟨hx, hb, hr, hml, hown, hts, hX, hbl, hlocks, hgv⟩ := C0
  have hb : c.code = cL_law := hb
  have hown : s.vm.findClass RL = some m.cls := hown
  refine lv_aload_n hx hb dL_law_438 rfl (lv_at hl 2 rfl) ?_
  refine lv_aload_n hx hb dL_law_439 rfl (lv_at hl 3 rfl) ?_
  refine lv_iload_n hx hb dL_law_440 rfl (lv_at hl 0 rfl) ?_
  refine lv_iconst (v := 1) hx hb dL_law_441 (by decide) ?_
  refine lv_iadd hx hb dL_law_442 ?_
  refine tz_i 1 (by decide) ?_
  refine va_sld hx hb hX hbl hbA hS (show ¬ ((1 : Int32) < 0 ∨ 6 ≤ (1 : Int32).toNatClampNeg) by decide) dL_law_443 ?_
  refine tz_i (xs 1) rfl ?_
  refine lv_aload_n hx hb dL_law_444 rfl (lv_at hl 3 rfl) ?_
  refine lv_iload_n hx hb dL_law_445 rfl (lv_at hl 0 rfl) ?_
  refine lv_iconst (v := 2) hx hb dL_law_446 (by decide) ?_
  refine lv_iadd hx hb dL_law_447 ?_
  refine tz_i 2 (by decide) ?_
  refine va_sld hx hb hX hbl hbA hS (show ¬ ((2 : Int32) < 0 ∨ 6 ≤ (2 : Int32).toNatClampNeg) by decide) dL_law_448 ?_
  refine tz_i (xs 2) rfl ?_
  have hPc := hP.sub (ws' := [(o, .inr (11, [.ref aw, .ref bk, .ref ai, .ref ak, .ref sc, .ref rd, .ref fo, .ref tx, .int 0, .ref ar, .ref atr, .ref ao])), (aw, .inl (cw, 6, .inr (.inr (.inr (.inr (tz_w w0 w1 w2 w3 w4 w5)))))), (w0, .inr (4, [])), (w1, .inr (1, [])), (w2, .inr (10, [])), (w3, .inr (3, [])), (w4, .inr (9, [])), (w5, .inr (8, [])), (ar, .inl (cr, 3, .inl (fun _ => 0)))]) [0, 1, 2, 3, 4, 5, 6, 7, 8] rfl
  have hDc := hD.sub (ws' := [(o, .inr (11, [.ref aw, .ref bk, .ref ai, .ref ak, .ref sc, .ref rd, .ref fo, .ref tx, .int 0, .ref ar, .ref atr, .ref ao])), (aw, .inl (cw, 6, .inr (.inr (.inr (.inr (tz_w w0 w1 w2 w3 w4 w5)))))), (w0, .inr (4, [])), (w1, .inr (1, [])), (w2, .inr (10, [])), (w3, .inr (3, [])), (w4, .inr (9, [])), (w5, .inr (8, [])), (ar, .inl (cr, 3, .inl (fun _ => 0)))]) [0, 1, 2, 3, 4, 5, 6, 7, 8] (by decide) rfl
  have hKc := hK.sub (tys' := [(cw, (.object "ThriceCounted$Ones")), (cr, .int)]) [0, 1] rfl
  have hFc := va_free (wc := [(o, .inr (11, [.ref aw, .ref bk, .ref ai, .ref ak, .ref sc, .ref rd, .ref fo, .ref tx, .int 0, .ref ar, .ref atr, .ref ao])), (aw, .inl (cw, 6, .inr (.inr (.inr (.inr (tz_w w0 w1 w2 w3 w4 w5)))))), (w0, .inr (4, [])), (w1, .inr (1, [])), (w2, .inr (10, [])), (w3, .inr (3, [])), (w4, .inr (9, [])), (w5, .inr (8, [])), (ar, .inl (cr, 3, .inl (fun _ => 0)))]) hD hS hA [0, 1, 2, 3, 4, 5, 6, 7, 8] rfl
  refine va_calli (va_runV (As := [.int (xs 1), .int (xs 2)]) (rest := []) ⟨hx, hb, hml, hown, hts⟩ (k_x_way l dC dI o aw bk ai ak sc rd fo tx ar atr ao cw w0 w1 w2 w3 w4 w5 cr (xs 1) (xs 2) H.size) (cwV 2 hts gL_law_X11_way rfl rfl rfl (by decide +kernel) ⟨Nat.le_of_ble_eq_true rfl, Nat.le_of_ble_eq_true rfl⟩) ⟨fun a U g mk q => by obtain ⟨q0, q1, qP, qK, qD⟩ := q; exact ⟨q0, q1, qP, va_K.moved (u := U) (U := U.calling g mk a) (Vm.Alike.refl U.vm) qK, qD⟩, va_recv hK hP (ci := 11) (q0 := 0) rfl rfl, fun U hU hW => ⟨rfl, by rw [hU], by rw [hU]; exact hPc, va_K.moved hW.alike hKc, hDc.weaken (fun _ _ _ _ => trivial)⟩⟩ rfl rfl hl.1 rfl (lv_room (Nat.le_of_ble_eq_true rfl)) dL_law_449 ⟨Nat.le_of_ble_eq_true rfl, Nat.le_of_ble_eq_true rfl⟩) hS (fun q _ h => hFc q h) hFc (fun r_1 u_ t H1 locs ht hvm hw_2 hB hz1 hk1 hS => ?_)
  obtain ⟨hP, hD⟩ := va_join (wr := [(mo, .inr (12, [.ref nw, .ref kp, .ref ik, .ref mr, .long 0, .long 1, .ref mw, .long 0, .int 0, .int 0, .long 0, .long 0, .ref mq, .ref mz, .ref my, .int 0, .ref mb, .int 0, .int 0, .int 0, .int 0, .int 0, .ref mx, .ref mv])), (mr, .inl (cm, 3, .inl (fun _ => 0)))]) (w1 := []) hP hD [0, 1, 2, 3, 4, 5, 6, 7, 8] [9, 10] rfl rfl (by decide) (by decide) hk1 hFc tz_P0 tz_D0
  generalize H1 = H at hP hS ⊢
  have hP : va_P (dC, dI) vwCl [(mo, .inr (12, [.ref nw, .ref kp, .ref ik, .ref mr, .long 0, .long 1, .ref mw, .long 0, .int 0, .int 0, .long 0, .long 0, .ref mq, .ref mz, .ref my, .int 0, .ref mb, .int 0, .int 0, .int 0, .int 0, .int 0, .ref mx, .ref mv])), (mr, .inl (cm, 3, .inl (fun _ => 0)))] H := hP
  have hD : va_D A [(mo, .inr (12, [.ref nw, .ref kp, .ref ik, .ref mr, .long 0, .long 1, .ref mw, .long 0, .int 0, .int 0, .long 0, .long 0, .ref mq, .ref mz, .ref my, .int 0, .ref mb, .int 0, .int 0, .int 0, .int 0, .int 0, .ref mx, .ref mv])), (mr, .inl (cm, 3, .inl (fun _ => 0)))] := hD
  obtain rfl : (if 0 ≤ (xs 1) ∧ (xs 1) ≤ 5 then (if 0 ≤ (xs 2) ∧ (xs 2) ≤ 21 then (if 20 ≤ (xs 2) then (if (xs 2) = 20 then zM (xs 1) else zN (zS (xs 1)) 0 20) else zS (xs 1) (xs 2)) else (-100)) else (-100)) = r_1 := hw_2.symm
  refine lv_aload_n hx hb dL_law_452 rfl (lv_at hl 1 rfl) ?_
  refine lv_aload_n hx hb dL_law_453 rfl (lv_at hl 3 rfl) ?_
  refine lv_iload_n hx hb dL_law_454 rfl (lv_at hl 0 rfl) ?_
  refine lv_iconst (v := 1) hx hb dL_law_455 (by decide) ?_
  refine lv_iadd hx hb dL_law_456 ?_
  refine tz_i 1 (by decide) ?_
  refine va_sld hx hb hX hbl hbA hS (show ¬ ((1 : Int32) < 0 ∨ 6 ≤ (1 : Int32).toNatClampNeg) by decide) dL_law_457 ?_
  refine tz_i (xs 1) rfl ?_
  refine lv_aload_n hx hb dL_law_458 rfl (lv_at hl 3 rfl) ?_
  refine lv_iload_n hx hb dL_law_459 rfl (lv_at hl 0 rfl) ?_
  refine lv_iconst (v := 2) hx hb dL_law_460 (by decide) ?_
  refine lv_iadd hx hb dL_law_461 ?_
  refine tz_i 2 (by decide) ?_
  refine va_sld hx hb hX hbl hbA hS (show ¬ ((2 : Int32) < 0 ∨ 6 ≤ (2 : Int32).toNatClampNeg) by decide) dL_law_462 ?_
  refine tz_i (xs 2) rfl ?_
  have hPc := hP.sub (ws' := [(mo, .inr (12, [.ref nw, .ref kp, .ref ik, .ref mr, .long 0, .long 1, .ref mw, .long 0, .int 0, .int 0, .long 0, .long 0, .ref mq, .ref mz, .ref my, .int 0, .ref mb, .int 0, .int 0, .int 0, .int 0, .int 0, .ref mx, .ref mv])), (mr, .inl (cm, 3, .inl (fun _ => 0)))]) [0, 1] rfl
  have hDc := hD.sub (ws' := [(mo, .inr (12, [.ref nw, .ref kp, .ref ik, .ref mr, .long 0, .long 1, .ref mw, .long 0, .int 0, .int 0, .long 0, .long 0, .ref mq, .ref mz, .ref my, .int 0, .ref mb, .int 0, .int 0, .int 0, .int 0, .int 0, .ref mx, .ref mv])), (mr, .inl (cm, 3, .inl (fun _ => 0)))]) [0, 1] (by decide) rfl
  have hKc := hK.sub (tys' := [(cm, .int)]) [2] rfl
  have hFc := va_free (wc := [(mo, .inr (12, [.ref nw, .ref kp, .ref ik, .ref mr, .long 0, .long 1, .ref mw, .long 0, .int 0, .int 0, .long 0, .long 0, .ref mq, .ref mz, .ref my, .int 0, .ref mb, .int 0, .int 0, .int 0, .int 0, .int 0, .ref mx, .ref mv])), (mr, .inl (cm, 3, .inl (fun _ => 0)))]) hD hS hA [0, 1] rfl
  refine va_calli (va_runV (As := [.int (xs 1), .int (xs 2)]) (rest := [.int (if 0 ≤ (xs 1) ∧ (xs 1) ≤ 5 then (if 0 ≤ (xs 2) ∧ (xs 2) ≤ 21 then (if 20 ≤ (xs 2) then (if (xs 2) = 20 then zM (xs 1) else zN (zS (xs 1)) 0 20) else zS (xs 1) (xs 2)) else (-100)) else (-100))]) ⟨hx, hb, hml, hown, hts⟩ (k_m_way l dC dI mo nw kp ik mr mw mq mz my mb mx mv cm (xs 1) (xs 2) H.size) (cwV 2 hts gL_law_X12_way rfl rfl rfl (by decide +kernel) ⟨Nat.le_of_ble_eq_true rfl, Nat.le_of_ble_eq_true rfl⟩) ⟨fun a U g mk q => by obtain ⟨q0, q1, qP, qK, qD⟩ := q; exact ⟨q0, q1, qP, va_K.moved (u := U) (U := U.calling g mk a) (Vm.Alike.refl U.vm) qK, qD⟩, va_recv hK hP (ci := 12) (q0 := 0) rfl rfl, fun U hU hW => ⟨rfl, by rw [hU], by rw [hU]; exact hPc, va_K.moved hW.alike hKc, hDc.weaken (fun _ _ _ _ => trivial)⟩⟩ rfl rfl hl.1 rfl (lv_room (Nat.le_of_ble_eq_true rfl)) dL_law_463 ⟨Nat.le_of_ble_eq_true rfl, Nat.le_of_ble_eq_true rfl⟩) hS (fun q _ h => hFc q h) hFc (fun r_3 u_ t H1 locs ht hvm hw_4 hB hz1 hk1 hS => ?_)
  obtain ⟨hP, hD⟩ := va_join (wr := []) (w1 := []) hP hD [0, 1] [] rfl rfl (by decide) (by decide) hk1 hFc tz_P0 tz_D0
  generalize H1 = H at hP hS ⊢
  have hP : va_P (dC, dI) vwCl [] H := hP
  have hD : va_D A [] := hD
  obtain rfl : (if 0 ≤ (xs 1) ∧ (xs 1) ≤ 5 then (if 0 ≤ (xs 2) ∧ (xs 2) ≤ 21 then (if (xs 2) = 20 then zM (xs 1) else if (xs 2) = 21 then zN (yS (xs 1)) 0 20 else yS (xs 1) (xs 2)) else (-100)) else (-100)) = r_3 := hw_4.symm
  refine lv_icmp_eq (tgt := 1155) hx hb dL_law_466 (by decide) (fun c_5 => ?_) (fun c_5 => ?_)
  · refine lv_iinc (v := 6) (lv' := [(3, .int 6), (2, .ref mo), (1, .ref o), (0, .ref b)]) hx hb dL_law_1155 hl (k := 0) rfl (by decide) (by decide) rfl (fun ls hl => ?_)
    refine lv_goto (tgt := 18) hx hb dL_law_1158 (by decide) ?_
    refine lv_iload_n hx hb dL_law_18 rfl (lv_at hl 0 rfl) ?_
    refine lv_aload_n hx hb dL_law_19 rfl (lv_at hl 3 rfl) ?_
    refine va_slen hx hb hX hbl hbA hS dL_law_20 ?_
    refine tz_i 6 rfl ?_
    refine lv_bipush (v := 6) hx hb dL_law_21 (by decide) ?_
    refine lv_isub hx hb dL_law_23 ?_
    refine tz_i 0 (by decide) ?_
    refine lv_icmp_gt (tgt := 1161) hx hb dL_law_24 (by decide) (fun c_6 => ?_) (fun c_6 => ?_)
    · refine lv_iconst (v := 1) hx hb dL_law_1161 (by decide) ?_
      refine va_forget (fun q hq => hA2 _ (hS.2.2 q hq)) ?_
      refine W.widen (k := 600000) (n := 7302250) (Nat.le_of_ble_eq_true rfl) (Nat.le_of_ble_eq_true rfl) ?_
      exact lw_ret hx hb hr hlocks dL_law_1162
    · exact absurd c_6 (by decide)
  · exact absurd (tz_way (na := xs 1) (nb := xs 2)) c_5
set_option maxRecDepth 20000 in
theorem gL_law_X11_odds : GoodIn lw_tbl (wsV RL 62 RX11 yX11_odds wsX11_odds) := tz_good [(27, 15), (27, 16), (27, 17), (0, 2), (27, 18), (1, 6), (11, 16), (11, 17), (11, 18), (0, 2), (11, 19), (7, 4), (7, 5), (7, 6), (7, 7), (7, 8), (7, 9), (7, 10), (7, 11), (7, 12), (7, 13), (7, 14), (2, 6), (26, 4), (26, 5), (26, 6), (26, 7), (0, 14), (26, 8), (26, 9), (24, 1), (24, 2), (24, 3), (24, 4), (0, 17), (24, 5), (24, 6), (24, 7), (24, 2), (24, 9), (24, 10), (24, 11), (0, 23), (24, 12), (24, 13), (24, 14), (24, 15), (24, 16), (0, 20), (24, 17), (26, 9), (24, 19), (24, 20), (24, 21), (1, 5), (24, 22), (24, 23), (25, 0), (25, 1), (25, 2), (1, 2), (25, 3), (25, 4), (25, 5), (25, 6), (25, 7), (26, 11), (26, 4), (26, 13), (26, 14), (26, 15), (26, 16), (46, 0), (46, 1), (46, 2), (46, 3), (46, 4), (46, 5), (46, 6), (46, 7), (46, 8), (46, 9), (46, 10), (46, 11)] (by decide +kernel) (by decide +kernel)
set_option maxRecDepth 20000 in
theorem gL_law_X12_odds : GoodIn lw_tbl (wsV RL 65 RX12 yX12_odds wsX12_odds) := tz_good [(27, 19), (27, 20), (27, 21), (0, 5), (27, 22), (27, 23), (28, 0), (13, 1), (13, 2), (0, 5), (13, 3), (13, 4), (8, 17), (8, 18), (8, 19), (27, 1), (27, 2), (27, 3), (27, 4), (27, 5), (27, 6), (27, 7), (27, 8), (27, 9), (27, 10), (27, 11), (27, 12), (27, 13), (27, 14), (8, 20), (8, 21), (8, 22), (8, 23), (5, 7), (47, 0), (47, 1), (47, 2), (47, 3), (47, 4), (47, 5), (47, 6), (47, 7), (47, 8), (47, 9), (47, 10), (47, 11), (47, 12), (47, 13), (47, 14), (47, 15), (47, 16), (47, 17), (47, 18), (47, 19), (47, 20), (47, 21), (47, 22), (47, 23)] (by decide +kernel) (by decide +kernel)
theorem dL_law_471 : decode cL_law 471 = .ok (.aload_n 1, 1) := by decide +kernel
theorem dL_law_472 : decode cL_law 472 = .ok (.aload_n 0, 1) := by decide +kernel
theorem dL_law_473 : decode cL_law 473 = .ok (.iload_n 3, 1) := by decide +kernel
theorem dL_law_474 : decode cL_law 474 = .ok (.iconst 1, 1) := by decide +kernel
theorem dL_law_475 : decode cL_law 475 = .ok (.iadd, 1) := by decide +kernel
theorem dL_law_476 : decode cL_law 476 = .ok (.iaload, 1) := by decide +kernel
theorem dL_law_477 : decode cL_law 477 = .ok (.aload_n 0, 1) := by decide +kernel
theorem dL_law_478 : decode cL_law 478 = .ok (.iload_n 3, 1) := by decide +kernel
theorem dL_law_479 : decode cL_law 479 = .ok (.iconst 2, 1) := by decide +kernel
theorem dL_law_480 : decode cL_law 480 = .ok (.iadd, 1) := by decide +kernel
theorem dL_law_481 : decode cL_law 481 = .ok (.iaload, 1) := by decide +kernel
theorem dL_law_482 : decode cL_law 482 = .ok (.invokevirtual 62, 3) := by decide +kernel
theorem dL_law_485 : decode cL_law 485 = .ok (.aload_n 2, 1) := by decide +kernel
theorem dL_law_486 : decode cL_law 486 = .ok (.aload_n 0, 1) := by decide +kernel
theorem dL_law_487 : decode cL_law 487 = .ok (.iload_n 3, 1) := by decide +kernel
theorem dL_law_488 : decode cL_law 488 = .ok (.iconst 1, 1) := by decide +kernel
theorem dL_law_489 : decode cL_law 489 = .ok (.iadd, 1) := by decide +kernel
theorem dL_law_490 : decode cL_law 490 = .ok (.iaload, 1) := by decide +kernel
theorem dL_law_491 : decode cL_law 491 = .ok (.aload_n 0, 1) := by decide +kernel
theorem dL_law_492 : decode cL_law 492 = .ok (.iload_n 3, 1) := by decide +kernel
theorem dL_law_493 : decode cL_law 493 = .ok (.iconst 2, 1) := by decide +kernel
theorem dL_law_494 : decode cL_law 494 = .ok (.iadd, 1) := by decide +kernel
theorem dL_law_495 : decode cL_law 495 = .ok (.iaload, 1) := by decide +kernel
theorem dL_law_496 : decode cL_law 496 = .ok (.invokevirtual 65, 3) := by decide +kernel
theorem dL_law_499 : decode cL_law 499 = .ok (.if_icmp .eq 656, 3) := by decide +kernel
set_option maxHeartbeats 4000000 in
set_option maxRecDepth 100000 in
theorem lc_odds {p : Program} {l : Launch} {e : Env} {s : State} {m : MethodId} {below : List Frame} {meth : Method} {c : Code} {b : Nat} {xs : Nat → Int32} (C0 : lw_At p s m meth c b 6 xs) (hN : tz_N s) (A : Nat → Prop) (hA : ∀ q : Nat, s.heap.size ≤ q → A q) (hA2 : ∀ q : Nat, A q → s.heap.size ≤ q) (hbA : ¬ A b) (dC : Nat → ClassId) (dI : Nat → Nat → Nat) (o : Nat) (aw : Nat) (bk : Nat) (ai : Nat) (ak : Nat) (sc : Nat) (rd : Nat) (fo : Nat) (tx : Nat) (ar : Nat) (atr : Nat) (ao : Nat) (cw : ClassId) (w0 : Nat) (w1 : Nat) (w2 : Nat) (w3 : Nat) (w4 : Nat) (w5 : Nat) (cr : ClassId) (mo : Nat) (nw : Nat) (kp : Nat) (ik : Nat) (mr : Nat) (mw : Nat) (mq : Nat) (mz : Nat) (my : Nat) (mb : Nat) (mx : Nat) (mv : Nat) (cm : ClassId) (H : Heap) (locs : List Loc) (hK : va_K (dC, dI) vwCl [(cw, (.object "ThriceCounted$Ones")), (cr, .int), (cm, .int)] s) (hP : va_P (dC, dI) vwCl [(o, .inr (11, [.ref aw, .ref bk, .ref ai, .ref ak, .ref sc, .ref rd, .ref fo, .ref tx, .int 0, .ref ar, .ref atr, .ref ao])), (aw, .inl (cw, 6, .inr (.inr (.inr (.inr (tz_w w0 w1 w2 w3 w4 w5)))))), (w0, .inr (4, [])), (w1, .inr (1, [])), (w2, .inr (10, [])), (w3, .inr (3, [])), (w4, .inr (9, [])), (w5, .inr (8, [])), (ar, .inl (cr, 3, .inl (fun _ => 0))), (mo, .inr (12, [.ref nw, .ref kp, .ref ik, .ref mr, .long 0, .long 1, .ref mw, .long 0, .int 0, .int 0, .long 0, .long 0, .ref mq, .ref mz, .ref my, .int 0, .ref mb, .int 0, .int 0, .int 0, .int 0, .int 0, .ref mx, .ref mv])), (mr, .inl (cm, 3, .inl (fun _ => 0)))] H) (hD : va_D A [(o, .inr (11, [.ref aw, .ref bk, .ref ai, .ref ak, .ref sc, .ref rd, .ref fo, .ref tx, .int 0, .ref ar, .ref atr, .ref ao])), (aw, .inl (cw, 6, .inr (.inr (.inr (.inr (tz_w w0 w1 w2 w3 w4 w5)))))), (w0, .inr (4, [])), (w1, .inr (1, [])), (w2, .inr (10, [])), (w3, .inr (3, [])), (w4, .inr (9, [])), (w5, .inr (8, [])), (ar, .inl (cr, 3, .inl (fun _ => 0))), (mo, .inr (12, [.ref nw, .ref kp, .ref ik, .ref mr, .long 0, .long 1, .ref mw, .long 0, .int 0, .int 0, .long 0, .long 0, .ref mq, .ref mz, .ref my, .int 0, .ref mb, .int 0, .int 0, .int 0, .int 0, .int 0, .ref mx, .ref mv])), (mr, .inl (cm, 3, .inl (fun _ => 0)))]) (hS : va_S A s.heap H locs) (ls : Array Slot) (hl : lv_has ls 4 [(3, .int 0), (2, .ref mo), (1, .ref o), (0, .ref b)]) : W p l e room_1 s m #[Value.ref b] below meth c H locs 136 3195 (lw_Z below #[Value.ref b] s) (F0 m 471 ls []) := by
  obtain ⟨hx, hb, hr, hml, hown, hts, hX, hbl, hlocks, hgv⟩ := C0
  have hb : c.code = cL_law := hb
  have hown : s.vm.findClass RL = some m.cls := hown
  refine lv_aload_n hx hb dL_law_471 rfl (lv_at hl 2 rfl) ?_
  refine lv_aload_n hx hb dL_law_472 rfl (lv_at hl 3 rfl) ?_
  refine lv_iload_n hx hb dL_law_473 rfl (lv_at hl 0 rfl) ?_
  refine lv_iconst (v := 1) hx hb dL_law_474 (by decide) ?_
  refine lv_iadd hx hb dL_law_475 ?_
  refine tz_i 1 (by decide) ?_
  refine va_sld hx hb hX hbl hbA hS (show ¬ ((1 : Int32) < 0 ∨ 6 ≤ (1 : Int32).toNatClampNeg) by decide) dL_law_476 ?_
  refine tz_i (xs 1) rfl ?_
  refine lv_aload_n hx hb dL_law_477 rfl (lv_at hl 3 rfl) ?_
  refine lv_iload_n hx hb dL_law_478 rfl (lv_at hl 0 rfl) ?_
  refine lv_iconst (v := 2) hx hb dL_law_479 (by decide) ?_
  refine lv_iadd hx hb dL_law_480 ?_
  refine tz_i 2 (by decide) ?_
  refine va_sld hx hb hX hbl hbA hS (show ¬ ((2 : Int32) < 0 ∨ 6 ≤ (2 : Int32).toNatClampNeg) by decide) dL_law_481 ?_
  refine tz_i (xs 2) rfl ?_
  have hPc := hP.sub (ws' := [(o, .inr (11, [.ref aw, .ref bk, .ref ai, .ref ak, .ref sc, .ref rd, .ref fo, .ref tx, .int 0, .ref ar, .ref atr, .ref ao])), (aw, .inl (cw, 6, .inr (.inr (.inr (.inr (tz_w w0 w1 w2 w3 w4 w5)))))), (w0, .inr (4, [])), (w1, .inr (1, [])), (w2, .inr (10, [])), (w3, .inr (3, [])), (w4, .inr (9, [])), (w5, .inr (8, [])), (ar, .inl (cr, 3, .inl (fun _ => 0)))]) [0, 1, 2, 3, 4, 5, 6, 7, 8] rfl
  have hDc := hD.sub (ws' := [(o, .inr (11, [.ref aw, .ref bk, .ref ai, .ref ak, .ref sc, .ref rd, .ref fo, .ref tx, .int 0, .ref ar, .ref atr, .ref ao])), (aw, .inl (cw, 6, .inr (.inr (.inr (.inr (tz_w w0 w1 w2 w3 w4 w5)))))), (w0, .inr (4, [])), (w1, .inr (1, [])), (w2, .inr (10, [])), (w3, .inr (3, [])), (w4, .inr (9, [])), (w5, .inr (8, [])), (ar, .inl (cr, 3, .inl (fun _ => 0)))]) [0, 1, 2, 3, 4, 5, 6, 7, 8] (by decide) rfl
  have hKc := hK.sub (tys' := [(cw, (.object "ThriceCounted$Ones")), (cr, .int)]) [0, 1] rfl
  have hFc := va_free (wc := [(o, .inr (11, [.ref aw, .ref bk, .ref ai, .ref ak, .ref sc, .ref rd, .ref fo, .ref tx, .int 0, .ref ar, .ref atr, .ref ao])), (aw, .inl (cw, 6, .inr (.inr (.inr (.inr (tz_w w0 w1 w2 w3 w4 w5)))))), (w0, .inr (4, [])), (w1, .inr (1, [])), (w2, .inr (10, [])), (w3, .inr (3, [])), (w4, .inr (9, [])), (w5, .inr (8, [])), (ar, .inl (cr, 3, .inl (fun _ => 0)))]) hD hS hA [0, 1, 2, 3, 4, 5, 6, 7, 8] rfl
  refine va_calli (va_runV (As := [.int (xs 1), .int (xs 2)]) (rest := []) ⟨hx, hb, hml, hown, hts⟩ (k_x_odds l dC dI o aw bk ai ak sc rd fo tx ar atr ao cw w0 w1 w2 w3 w4 w5 cr (xs 1) (xs 2) H.size) (cwV 2 hts gL_law_X11_odds rfl rfl rfl (by decide +kernel) ⟨Nat.le_of_ble_eq_true rfl, Nat.le_of_ble_eq_true rfl⟩) ⟨fun a U g mk q => by obtain ⟨q0, q1, qP, qK, qD⟩ := q; exact ⟨q0, q1, qP, va_K.moved (u := U) (U := U.calling g mk a) (Vm.Alike.refl U.vm) qK, qD⟩, va_recv hK hP (ci := 11) (q0 := 0) rfl rfl, fun U hU hW => ⟨rfl, by rw [hU], by rw [hU]; exact hPc, va_K.moved hW.alike hKc, hDc.weaken (fun _ _ _ _ => trivial)⟩⟩ rfl rfl hl.1 rfl (lv_room (Nat.le_of_ble_eq_true rfl)) dL_law_482 ⟨Nat.le_of_ble_eq_true rfl, Nat.le_of_ble_eq_true rfl⟩) hS (fun q _ h => hFc q h) hFc (fun r_1 u_ t H1 locs ht hvm hw_2 hB hz1 hk1 hS => ?_)
  obtain ⟨hP, hD⟩ := va_join (wr := [(mo, .inr (12, [.ref nw, .ref kp, .ref ik, .ref mr, .long 0, .long 1, .ref mw, .long 0, .int 0, .int 0, .long 0, .long 0, .ref mq, .ref mz, .ref my, .int 0, .ref mb, .int 0, .int 0, .int 0, .int 0, .int 0, .ref mx, .ref mv])), (mr, .inl (cm, 3, .inl (fun _ => 0)))]) (w1 := []) hP hD [0, 1, 2, 3, 4, 5, 6, 7, 8] [9, 10] rfl rfl (by decide) (by decide) hk1 hFc tz_P0 tz_D0
  generalize H1 = H at hP hS ⊢
  have hP : va_P (dC, dI) vwCl [(mo, .inr (12, [.ref nw, .ref kp, .ref ik, .ref mr, .long 0, .long 1, .ref mw, .long 0, .int 0, .int 0, .long 0, .long 0, .ref mq, .ref mz, .ref my, .int 0, .ref mb, .int 0, .int 0, .int 0, .int 0, .int 0, .ref mx, .ref mv])), (mr, .inl (cm, 3, .inl (fun _ => 0)))] H := hP
  have hD : va_D A [(mo, .inr (12, [.ref nw, .ref kp, .ref ik, .ref mr, .long 0, .long 1, .ref mw, .long 0, .int 0, .int 0, .long 0, .long 0, .ref mq, .ref mz, .ref my, .int 0, .ref mb, .int 0, .int 0, .int 0, .int 0, .int 0, .ref mx, .ref mv])), (mr, .inl (cm, 3, .inl (fun _ => 0)))] := hD
  obtain rfl : (if 0 ≤ (xs 1) ∧ (xs 1) ≤ 5 then (if (-40) ≤ (xs 2) ∧ (xs 2) ≤ 40 then zN (zS (xs 1)) (xs 2) 20 else (-2)) else (-2)) = r_1 := hw_2.symm
  refine lv_aload_n hx hb dL_law_485 rfl (lv_at hl 1 rfl) ?_
  refine lv_aload_n hx hb dL_law_486 rfl (lv_at hl 3 rfl) ?_
  refine lv_iload_n hx hb dL_law_487 rfl (lv_at hl 0 rfl) ?_
  refine lv_iconst (v := 1) hx hb dL_law_488 (by decide) ?_
  refine lv_iadd hx hb dL_law_489 ?_
  refine tz_i 1 (by decide) ?_
  refine va_sld hx hb hX hbl hbA hS (show ¬ ((1 : Int32) < 0 ∨ 6 ≤ (1 : Int32).toNatClampNeg) by decide) dL_law_490 ?_
  refine tz_i (xs 1) rfl ?_
  refine lv_aload_n hx hb dL_law_491 rfl (lv_at hl 3 rfl) ?_
  refine lv_iload_n hx hb dL_law_492 rfl (lv_at hl 0 rfl) ?_
  refine lv_iconst (v := 2) hx hb dL_law_493 (by decide) ?_
  refine lv_iadd hx hb dL_law_494 ?_
  refine tz_i 2 (by decide) ?_
  refine va_sld hx hb hX hbl hbA hS (show ¬ ((2 : Int32) < 0 ∨ 6 ≤ (2 : Int32).toNatClampNeg) by decide) dL_law_495 ?_
  refine tz_i (xs 2) rfl ?_
  have hPc := hP.sub (ws' := [(mo, .inr (12, [.ref nw, .ref kp, .ref ik, .ref mr, .long 0, .long 1, .ref mw, .long 0, .int 0, .int 0, .long 0, .long 0, .ref mq, .ref mz, .ref my, .int 0, .ref mb, .int 0, .int 0, .int 0, .int 0, .int 0, .ref mx, .ref mv])), (mr, .inl (cm, 3, .inl (fun _ => 0)))]) [0, 1] rfl
  have hDc := hD.sub (ws' := [(mo, .inr (12, [.ref nw, .ref kp, .ref ik, .ref mr, .long 0, .long 1, .ref mw, .long 0, .int 0, .int 0, .long 0, .long 0, .ref mq, .ref mz, .ref my, .int 0, .ref mb, .int 0, .int 0, .int 0, .int 0, .int 0, .ref mx, .ref mv])), (mr, .inl (cm, 3, .inl (fun _ => 0)))]) [0, 1] (by decide) rfl
  have hKc := hK.sub (tys' := [(cm, .int)]) [2] rfl
  have hFc := va_free (wc := [(mo, .inr (12, [.ref nw, .ref kp, .ref ik, .ref mr, .long 0, .long 1, .ref mw, .long 0, .int 0, .int 0, .long 0, .long 0, .ref mq, .ref mz, .ref my, .int 0, .ref mb, .int 0, .int 0, .int 0, .int 0, .int 0, .ref mx, .ref mv])), (mr, .inl (cm, 3, .inl (fun _ => 0)))]) hD hS hA [0, 1] rfl
  refine va_calli (va_runV (As := [.int (xs 1), .int (xs 2)]) (rest := [.int (if 0 ≤ (xs 1) ∧ (xs 1) ≤ 5 then (if (-40) ≤ (xs 2) ∧ (xs 2) ≤ 40 then zN (zS (xs 1)) (xs 2) 20 else (-2)) else (-2))]) ⟨hx, hb, hml, hown, hts⟩ (k_m_odds l dC dI mo nw kp ik mr mw mq mz my mb mx mv cm (xs 1) (xs 2) H.size) (cwV 2 hts gL_law_X12_odds rfl rfl rfl (by decide +kernel) ⟨Nat.le_of_ble_eq_true rfl, Nat.le_of_ble_eq_true rfl⟩) ⟨fun a U g mk q => by obtain ⟨q0, q1, qP, qK, qD⟩ := q; exact ⟨q0, q1, qP, va_K.moved (u := U) (U := U.calling g mk a) (Vm.Alike.refl U.vm) qK, qD⟩, va_recv hK hP (ci := 12) (q0 := 0) rfl rfl, fun U hU hW => ⟨rfl, by rw [hU], by rw [hU]; exact hPc, va_K.moved hW.alike hKc, hDc.weaken (fun _ _ _ _ => trivial)⟩⟩ rfl rfl hl.1 rfl (lv_room (Nat.le_of_ble_eq_true rfl)) dL_law_496 ⟨Nat.le_of_ble_eq_true rfl, Nat.le_of_ble_eq_true rfl⟩) hS (fun q _ h => hFc q h) hFc (fun r_3 u_ t H1 locs ht hvm hw_4 hB hz1 hk1 hS => ?_)
  obtain ⟨hP, hD⟩ := va_join (wr := []) (w1 := []) hP hD [0, 1] [] rfl rfl (by decide) (by decide) hk1 hFc tz_P0 tz_D0
  generalize H1 = H at hP hS ⊢
  have hP : va_P (dC, dI) vwCl [] H := hP
  have hD : va_D A [] := hD
  obtain rfl : (if 0 ≤ (xs 1) ∧ (xs 1) ≤ 5 then (if (-40) ≤ (xs 2) ∧ (xs 2) ≤ 40 then zN (yS (xs 1)) (xs 2) 20 else (-2)) else (-2)) = r_3 := hw_4.symm
  refine lv_icmp_eq (tgt := 1155) hx hb dL_law_499 (by decide) (fun c_5 => ?_) (fun c_5 => ?_)
  · refine lv_iinc (v := 6) (lv' := [(3, .int 6), (2, .ref mo), (1, .ref o), (0, .ref b)]) hx hb dL_law_1155 hl (k := 0) rfl (by decide) (by decide) rfl (fun ls hl => ?_)
    refine lv_goto (tgt := 18) hx hb dL_law_1158 (by decide) ?_
    refine lv_iload_n hx hb dL_law_18 rfl (lv_at hl 0 rfl) ?_
    refine lv_aload_n hx hb dL_law_19 rfl (lv_at hl 3 rfl) ?_
    refine va_slen hx hb hX hbl hbA hS dL_law_20 ?_
    refine tz_i 6 rfl ?_
    refine lv_bipush (v := 6) hx hb dL_law_21 (by decide) ?_
    refine lv_isub hx hb dL_law_23 ?_
    refine tz_i 0 (by decide) ?_
    refine lv_icmp_gt (tgt := 1161) hx hb dL_law_24 (by decide) (fun c_6 => ?_) (fun c_6 => ?_)
    · refine lv_iconst (v := 1) hx hb dL_law_1161 (by decide) ?_
      refine va_forget (fun q hq => hA2 _ (hS.2.2 q hq)) ?_
      refine W.widen (k := 600000) (n := 7302250) (Nat.le_of_ble_eq_true rfl) (Nat.le_of_ble_eq_true rfl) ?_
      exact lw_ret hx hb hr hlocks dL_law_1162
    · exact absurd c_6 (by decide)
  · exact absurd (tz_odds (na := xs 1) (nb := xs 2)) c_5
set_option maxRecDepth 20000 in
theorem gL_law_X11_of : GoodIn lw_tbl (wsV RL 66 RX11 yX11_of wsX11_of) := tz_good [(28, 1), (28, 2), (28, 3), (0, 2), (28, 4), (1, 10), (11, 15), (10, 4), (10, 5), (10, 6), (3, 4), (10, 7), (3, 15), (7, 4), (7, 5), (0, 2), (7, 6), (7, 7), (7, 8), (7, 9), (7, 10), (7, 11), (7, 12), (7, 13), (7, 14), (2, 6), (10, 8), (10, 9), (10, 10), (10, 11), (3, 22), (3, 21), (8, 8), (8, 9), (8, 10), (8, 11), (46, 0), (46, 1), (46, 2), (46, 3), (46, 4), (46, 5), (46, 6), (46, 7), (46, 8), (46, 9), (46, 10), (46, 11), (54, 0), (54, 1), (54, 2), (54, 3), (54, 4), (54, 5), (58, 0), (58, 1), (58, 2), (58, 3)] (by decide +kernel) (by decide +kernel)
set_option maxRecDepth 20000 in
theorem gL_law_X12_of : GoodIn lw_tbl (wsV RL 69 RX12 yX12_of wsX12_of) := tz_good [(28, 5), (28, 6), (28, 7), (0, 5), (28, 8), (28, 9), (14, 3), (14, 4), (14, 5), (0, 5), (14, 6), (5, 4), (8, 17), (8, 18), (8, 19), (28, 10), (28, 11), (28, 12), (28, 13), (8, 20), (8, 21), (8, 22), (8, 23), (5, 7), (47, 0), (47, 1), (47, 2), (47, 3), (47, 4), (47, 5), (47, 6), (47, 7), (47, 8), (47, 9), (47, 10), (47, 11), (47, 12), (47, 13), (47, 14), (47, 15), (47, 16), (47, 17), (47, 18), (47, 19), (47, 20), (47, 21), (47, 22), (47, 23)] (by decide +kernel) (by decide +kernel)
theorem dL_law_504 : decode cL_law 504 = .ok (.aload_n 1, 1) := by decide +kernel
theorem dL_law_505 : decode cL_law 505 = .ok (.aload_n 0, 1) := by decide +kernel
theorem dL_law_506 : decode cL_law 506 = .ok (.iload_n 3, 1) := by decide +kernel
theorem dL_law_507 : decode cL_law 507 = .ok (.iconst 1, 1) := by decide +kernel
theorem dL_law_508 : decode cL_law 508 = .ok (.iadd, 1) := by decide +kernel
theorem dL_law_509 : decode cL_law 509 = .ok (.iaload, 1) := by decide +kernel
theorem dL_law_510 : decode cL_law 510 = .ok (.aload_n 0, 1) := by decide +kernel
theorem dL_law_511 : decode cL_law 511 = .ok (.iload_n 3, 1) := by decide +kernel
theorem dL_law_512 : decode cL_law 512 = .ok (.iconst 2, 1) := by decide +kernel
theorem dL_law_513 : decode cL_law 513 = .ok (.iadd, 1) := by decide +kernel
theorem dL_law_514 : decode cL_law 514 = .ok (.iaload, 1) := by decide +kernel
theorem dL_law_515 : decode cL_law 515 = .ok (.invokevirtual 66, 3) := by decide +kernel
theorem dL_law_518 : decode cL_law 518 = .ok (.aload_n 2, 1) := by decide +kernel
theorem dL_law_519 : decode cL_law 519 = .ok (.aload_n 0, 1) := by decide +kernel
theorem dL_law_520 : decode cL_law 520 = .ok (.iload_n 3, 1) := by decide +kernel
theorem dL_law_521 : decode cL_law 521 = .ok (.iconst 1, 1) := by decide +kernel
theorem dL_law_522 : decode cL_law 522 = .ok (.iadd, 1) := by decide +kernel
theorem dL_law_523 : decode cL_law 523 = .ok (.iaload, 1) := by decide +kernel
theorem dL_law_524 : decode cL_law 524 = .ok (.aload_n 0, 1) := by decide +kernel
theorem dL_law_525 : decode cL_law 525 = .ok (.iload_n 3, 1) := by decide +kernel
theorem dL_law_526 : decode cL_law 526 = .ok (.iconst 2, 1) := by decide +kernel
theorem dL_law_527 : decode cL_law 527 = .ok (.iadd, 1) := by decide +kernel
theorem dL_law_528 : decode cL_law 528 = .ok (.iaload, 1) := by decide +kernel
theorem dL_law_529 : decode cL_law 529 = .ok (.invokevirtual 69, 3) := by decide +kernel
theorem dL_law_532 : decode cL_law 532 = .ok (.if_icmp .eq 623, 3) := by decide +kernel
set_option maxHeartbeats 4000000 in
set_option maxRecDepth 100000 in
theorem lc_of {p : Program} {l : Launch} {e : Env} {s : State} {m : MethodId} {below : List Frame} {meth : Method} {c : Code} {b : Nat} {xs : Nat → Int32} (C0 : lw_At p s m meth c b 6 xs) (hN : tz_N s) (A : Nat → Prop) (hA : ∀ q : Nat, s.heap.size ≤ q → A q) (hA2 : ∀ q : Nat, A q → s.heap.size ≤ q) (hbA : ¬ A b) (dC : Nat → ClassId) (dI : Nat → Nat → Nat) (o : Nat) (aw : Nat) (bk : Nat) (ai : Nat) (ak : Nat) (sc : Nat) (rd : Nat) (fo : Nat) (tx : Nat) (ar : Nat) (atr : Nat) (ao : Nat) (rk0 : Nat) (rk1 : Nat) (rk2 : Nat) (rk3 : Nat) (eak : Nat) (cak2 : Nat) (cr : ClassId) (mo : Nat) (nw : Nat) (kp : Nat) (ik : Nat) (mr : Nat) (mw : Nat) (mq : Nat) (mz : Nat) (my : Nat) (mb : Nat) (mx : Nat) (mv : Nat) (cn : ClassId) (cm : ClassId) (H : Heap) (locs : List Loc) (hK : va_K (dC, dI) vwCl [(cr, .int), (cn, .int), (cm, .int)] s) (hP : va_P (dC, dI) vwCl [(o, .inr (11, [.ref aw, .ref bk, .ref ai, .ref ak, .ref sc, .ref rd, .ref fo, .ref tx, .int 0, .ref ar, .ref atr, .ref ao])), (bk, .inr (0, [.ref rk0, .ref rk1, .ref rk2, .ref rk3, .ref eak, .int 0])), (rk2, .inr (6, [.int 4, .int 8, .ref cak2, .int 0])), (ar, .inl (cr, 3, .inl (fun _ => 0))), (mo, .inr (12, [.ref nw, .ref kp, .ref ik, .ref mr, .long 0, .long 1, .ref mw, .long 0, .int 0, .int 0, .long 0, .long 0, .ref mq, .ref mz, .ref my, .int 0, .ref mb, .int 0, .int 0, .int 0, .int 0, .int 0, .ref mx, .ref mv])), (nw, .inl (cn, 350, .inl (fun _ => 0))), (mr, .inl (cm, 3, .inl (fun _ => 0)))] H) (hD : va_D A [(o, .inr (11, [.ref aw, .ref bk, .ref ai, .ref ak, .ref sc, .ref rd, .ref fo, .ref tx, .int 0, .ref ar, .ref atr, .ref ao])), (bk, .inr (0, [.ref rk0, .ref rk1, .ref rk2, .ref rk3, .ref eak, .int 0])), (rk2, .inr (6, [.int 4, .int 8, .ref cak2, .int 0])), (ar, .inl (cr, 3, .inl (fun _ => 0))), (mo, .inr (12, [.ref nw, .ref kp, .ref ik, .ref mr, .long 0, .long 1, .ref mw, .long 0, .int 0, .int 0, .long 0, .long 0, .ref mq, .ref mz, .ref my, .int 0, .ref mb, .int 0, .int 0, .int 0, .int 0, .int 0, .ref mx, .ref mv])), (nw, .inl (cn, 350, .inl (fun _ => 0))), (mr, .inl (cm, 3, .inl (fun _ => 0)))]) (hS : va_S A s.heap H locs) (ls : Array Slot) (hl : lv_has ls 4 [(3, .int 0), (2, .ref mo), (1, .ref o), (0, .ref b)]) : W p l e room_1 s m #[Value.ref b] below meth c H locs 136 3195 (lw_Z below #[Value.ref b] s) (F0 m 504 ls []) := by
  obtain ⟨hx, hb, hr, hml, hown, hts, hX, hbl, hlocks, hgv⟩ := C0
  have hb : c.code = cL_law := hb
  have hown : s.vm.findClass RL = some m.cls := hown
  refine lv_aload_n hx hb dL_law_504 rfl (lv_at hl 2 rfl) ?_
  refine lv_aload_n hx hb dL_law_505 rfl (lv_at hl 3 rfl) ?_
  refine lv_iload_n hx hb dL_law_506 rfl (lv_at hl 0 rfl) ?_
  refine lv_iconst (v := 1) hx hb dL_law_507 (by decide) ?_
  refine lv_iadd hx hb dL_law_508 ?_
  refine tz_i 1 (by decide) ?_
  refine va_sld hx hb hX hbl hbA hS (show ¬ ((1 : Int32) < 0 ∨ 6 ≤ (1 : Int32).toNatClampNeg) by decide) dL_law_509 ?_
  refine tz_i (xs 1) rfl ?_
  refine lv_aload_n hx hb dL_law_510 rfl (lv_at hl 3 rfl) ?_
  refine lv_iload_n hx hb dL_law_511 rfl (lv_at hl 0 rfl) ?_
  refine lv_iconst (v := 2) hx hb dL_law_512 (by decide) ?_
  refine lv_iadd hx hb dL_law_513 ?_
  refine tz_i 2 (by decide) ?_
  refine va_sld hx hb hX hbl hbA hS (show ¬ ((2 : Int32) < 0 ∨ 6 ≤ (2 : Int32).toNatClampNeg) by decide) dL_law_514 ?_
  refine tz_i (xs 2) rfl ?_
  have hPc := hP.sub (ws' := [(o, .inr (11, [.ref aw, .ref bk, .ref ai, .ref ak, .ref sc, .ref rd, .ref fo, .ref tx, .int 0, .ref ar, .ref atr, .ref ao])), (bk, .inr (0, [.ref rk0, .ref rk1, .ref rk2, .ref rk3, .ref eak, .int 0])), (rk2, .inr (6, [.int 4, .int 8, .ref cak2, .int 0])), (ar, .inl (cr, 3, .inl (fun _ => 0)))]) [0, 1, 2, 3] rfl
  have hDc := hD.sub (ws' := [(o, .inr (11, [.ref aw, .ref bk, .ref ai, .ref ak, .ref sc, .ref rd, .ref fo, .ref tx, .int 0, .ref ar, .ref atr, .ref ao])), (bk, .inr (0, [.ref rk0, .ref rk1, .ref rk2, .ref rk3, .ref eak, .int 0])), (rk2, .inr (6, [.int 4, .int 8, .ref cak2, .int 0])), (ar, .inl (cr, 3, .inl (fun _ => 0)))]) [0, 1, 2, 3] (by decide) rfl
  have hKc := hK.sub (tys' := [(cr, .int)]) [0] rfl
  have hFc := va_free (wc := [(o, .inr (11, [.ref aw, .ref bk, .ref ai, .ref ak, .ref sc, .ref rd, .ref fo, .ref tx, .int 0, .ref ar, .ref atr, .ref ao])), (bk, .inr (0, [.ref rk0, .ref rk1, .ref rk2, .ref rk3, .ref eak, .int 0])), (rk2, .inr (6, [.int 4, .int 8, .ref cak2, .int 0])), (ar, .inl (cr, 3, .inl (fun _ => 0)))]) hD hS hA [0, 1, 2, 3] rfl
  refine va_calli (va_runV (As := [.int (xs 1), .int (xs 2)]) (rest := []) ⟨hx, hb, hml, hown, hts⟩ (k_x_of l dC dI o aw bk ai ak sc rd fo tx ar atr ao rk0 rk1 rk2 rk3 eak cak2 cr (xs 1) (xs 2) H.size) (cwV 2 hts gL_law_X11_of rfl rfl rfl (by decide +kernel) ⟨Nat.le_of_ble_eq_true rfl, Nat.le_of_ble_eq_true rfl⟩) ⟨fun a U g mk q => by obtain ⟨q0, q1, qP, qK, qD⟩ := q; exact ⟨q0, q1, qP, va_K.moved (u := U) (U := U.calling g mk a) (Vm.Alike.refl U.vm) qK, qD⟩, va_recv hK hP (ci := 11) (q0 := 0) rfl rfl, fun U hU hW => ⟨rfl, by rw [hU], by rw [hU]; exact hPc, va_K.moved hW.alike hKc, hDc.weaken (fun _ _ _ _ => trivial)⟩⟩ rfl rfl hl.1 rfl (lv_room (Nat.le_of_ble_eq_true rfl)) dL_law_515 ⟨Nat.le_of_ble_eq_true rfl, Nat.le_of_ble_eq_true rfl⟩) hS (fun q _ h => hFc q h) hFc (fun r_1 u_ t H1 locs ht hvm hw_2 hB hz1 hk1 hS => ?_)
  obtain ⟨hP, hD⟩ := va_join (wr := [(mo, .inr (12, [.ref nw, .ref kp, .ref ik, .ref mr, .long 0, .long 1, .ref mw, .long 0, .int 0, .int 0, .long 0, .long 0, .ref mq, .ref mz, .ref my, .int 0, .ref mb, .int 0, .int 0, .int 0, .int 0, .int 0, .ref mx, .ref mv])), (nw, .inl (cn, 350, .inl (fun _ => 0))), (mr, .inl (cm, 3, .inl (fun _ => 0)))]) (w1 := []) hP hD [0, 1, 2, 3] [4, 5, 6] rfl rfl (by decide) (by decide) hk1 hFc tz_P0 tz_D0
  generalize H1 = H at hP hS ⊢
  have hP : va_P (dC, dI) vwCl [(mo, .inr (12, [.ref nw, .ref kp, .ref ik, .ref mr, .long 0, .long 1, .ref mw, .long 0, .int 0, .int 0, .long 0, .long 0, .ref mq, .ref mz, .ref my, .int 0, .ref mb, .int 0, .int 0, .int 0, .int 0, .int 0, .ref mx, .ref mv])), (nw, .inl (cn, 350, .inl (fun _ => 0))), (mr, .inl (cm, 3, .inl (fun _ => 0)))] H := hP
  have hD : va_D A [(mo, .inr (12, [.ref nw, .ref kp, .ref ik, .ref mr, .long 0, .long 1, .ref mw, .long 0, .int 0, .int 0, .long 0, .long 0, .ref mq, .ref mz, .ref my, .int 0, .ref mb, .int 0, .int 0, .int 0, .int 0, .int 0, .ref mx, .ref mv])), (nw, .inl (cn, 350, .inl (fun _ => 0))), (mr, .inl (cm, 3, .inl (fun _ => 0)))] := hD
  obtain rfl : (-2) = r_1 := hw_2.symm
  refine lv_aload_n hx hb dL_law_518 rfl (lv_at hl 1 rfl) ?_
  refine lv_aload_n hx hb dL_law_519 rfl (lv_at hl 3 rfl) ?_
  refine lv_iload_n hx hb dL_law_520 rfl (lv_at hl 0 rfl) ?_
  refine lv_iconst (v := 1) hx hb dL_law_521 (by decide) ?_
  refine lv_iadd hx hb dL_law_522 ?_
  refine tz_i 1 (by decide) ?_
  refine va_sld hx hb hX hbl hbA hS (show ¬ ((1 : Int32) < 0 ∨ 6 ≤ (1 : Int32).toNatClampNeg) by decide) dL_law_523 ?_
  refine tz_i (xs 1) rfl ?_
  refine lv_aload_n hx hb dL_law_524 rfl (lv_at hl 3 rfl) ?_
  refine lv_iload_n hx hb dL_law_525 rfl (lv_at hl 0 rfl) ?_
  refine lv_iconst (v := 2) hx hb dL_law_526 (by decide) ?_
  refine lv_iadd hx hb dL_law_527 ?_
  refine tz_i 2 (by decide) ?_
  refine va_sld hx hb hX hbl hbA hS (show ¬ ((2 : Int32) < 0 ∨ 6 ≤ (2 : Int32).toNatClampNeg) by decide) dL_law_528 ?_
  refine tz_i (xs 2) rfl ?_
  have hPc := hP.sub (ws' := [(mo, .inr (12, [.ref nw, .ref kp, .ref ik, .ref mr, .long 0, .long 1, .ref mw, .long 0, .int 0, .int 0, .long 0, .long 0, .ref mq, .ref mz, .ref my, .int 0, .ref mb, .int 0, .int 0, .int 0, .int 0, .int 0, .ref mx, .ref mv])), (nw, .inl (cn, 350, .inl (fun _ => 0))), (mr, .inl (cm, 3, .inl (fun _ => 0)))]) [0, 1, 2] rfl
  have hDc := hD.sub (ws' := [(mo, .inr (12, [.ref nw, .ref kp, .ref ik, .ref mr, .long 0, .long 1, .ref mw, .long 0, .int 0, .int 0, .long 0, .long 0, .ref mq, .ref mz, .ref my, .int 0, .ref mb, .int 0, .int 0, .int 0, .int 0, .int 0, .ref mx, .ref mv])), (nw, .inl (cn, 350, .inl (fun _ => 0))), (mr, .inl (cm, 3, .inl (fun _ => 0)))]) [0, 1, 2] (by decide) rfl
  have hKc := hK.sub (tys' := [(cn, .int), (cm, .int)]) [1, 2] rfl
  have hFc := va_free (wc := [(mo, .inr (12, [.ref nw, .ref kp, .ref ik, .ref mr, .long 0, .long 1, .ref mw, .long 0, .int 0, .int 0, .long 0, .long 0, .ref mq, .ref mz, .ref my, .int 0, .ref mb, .int 0, .int 0, .int 0, .int 0, .int 0, .ref mx, .ref mv])), (nw, .inl (cn, 350, .inl (fun _ => 0))), (mr, .inl (cm, 3, .inl (fun _ => 0)))]) hD hS hA [0, 1, 2] rfl
  refine va_calli (va_runV (As := [.int (xs 1), .int (xs 2)]) (rest := [.int (-2)]) ⟨hx, hb, hml, hown, hts⟩ (k_m_of l dC dI mo nw kp ik mr mw mq mz my mb mx mv cn cm (xs 1) (xs 2) H.size) (cwV 2 hts gL_law_X12_of rfl rfl rfl (by decide +kernel) ⟨Nat.le_of_ble_eq_true rfl, Nat.le_of_ble_eq_true rfl⟩) ⟨fun a U g mk q => by obtain ⟨q0, q1, qP, qK, qD⟩ := q; exact ⟨q0, q1, qP, va_K.moved (u := U) (U := U.calling g mk a) (Vm.Alike.refl U.vm) qK, qD⟩, va_recv hK hP (ci := 12) (q0 := 0) rfl rfl, fun U hU hW => ⟨rfl, by rw [hU], by rw [hU]; exact hPc, va_K.moved hW.alike hKc, hDc.weaken (fun _ _ _ _ => trivial)⟩⟩ rfl rfl hl.1 rfl (lv_room (Nat.le_of_ble_eq_true rfl)) dL_law_529 ⟨Nat.le_of_ble_eq_true rfl, Nat.le_of_ble_eq_true rfl⟩) hS (fun q _ h => hFc q h) hFc (fun r_3 u_ t H1 locs ht hvm hw_4 hB hz1 hk1 hS => ?_)
  obtain ⟨hP, hD⟩ := va_join (wr := []) (w1 := []) hP hD [0, 1, 2] [] rfl rfl (by decide) (by decide) hk1 hFc tz_P0 tz_D0
  generalize H1 = H at hP hS ⊢
  have hP : va_P (dC, dI) vwCl [] H := hP
  have hD : va_D A [] := hD
  obtain rfl : (-2) = r_3 := hw_4.symm
  refine lv_icmp_eq (tgt := 1155) hx hb dL_law_532 (by decide) (fun c_5 => ?_) (fun c_5 => ?_)
  · refine lv_iinc (v := 6) (lv' := [(3, .int 6), (2, .ref mo), (1, .ref o), (0, .ref b)]) hx hb dL_law_1155 hl (k := 0) rfl (by decide) (by decide) rfl (fun ls hl => ?_)
    refine lv_goto (tgt := 18) hx hb dL_law_1158 (by decide) ?_
    refine lv_iload_n hx hb dL_law_18 rfl (lv_at hl 0 rfl) ?_
    refine lv_aload_n hx hb dL_law_19 rfl (lv_at hl 3 rfl) ?_
    refine va_slen hx hb hX hbl hbA hS dL_law_20 ?_
    refine tz_i 6 rfl ?_
    refine lv_bipush (v := 6) hx hb dL_law_21 (by decide) ?_
    refine lv_isub hx hb dL_law_23 ?_
    refine tz_i 0 (by decide) ?_
    refine lv_icmp_gt (tgt := 1161) hx hb dL_law_24 (by decide) (fun c_6 => ?_) (fun c_6 => ?_)
    · refine lv_iconst (v := 1) hx hb dL_law_1161 (by decide) ?_
      refine va_forget (fun q hq => hA2 _ (hS.2.2 q hq)) ?_
      refine W.widen (k := 600000) (n := 7302250) (Nat.le_of_ble_eq_true rfl) (Nat.le_of_ble_eq_true rfl) ?_
      exact lw_ret hx hb hr hlocks dL_law_1162
    · exact absurd c_6 (by decide)
  · exact absurd c_5 (by decide)
set_option maxRecDepth 20000 in
theorem gL_law_X11_about : GoodIn lw_tbl (wsV RL 70 RX11 yX11_about wsX11_about) := tz_good [(28, 14), (28, 15), (28, 16), (0, 2), (28, 17), (1, 10), (5, 20), (10, 4), (10, 5), (10, 6), (3, 4), (10, 7), (3, 15), (7, 4), (7, 5), (0, 2), (7, 6), (7, 11), (7, 12), (7, 13), (7, 14), (2, 6), (10, 8), (10, 9), (10, 10), (10, 11), (3, 22), (3, 21), (8, 8), (8, 9), (8, 10), (8, 11), (28, 18), (28, 19), (28, 20), (1, 9), (28, 21), (3, 7), (28, 22), (5, 22), (5, 23), (6, 0), (28, 23), (46, 0), (46, 1), (46, 2), (46, 3), (46, 4), (46, 5), (46, 6), (46, 7), (46, 8), (46, 9), (46, 10), (46, 11), (54, 0), (54, 1), (54, 2), (54, 3), (54, 4), (54, 5), (58, 0), (58, 1), (58, 2), (58, 3)] (by decide +kernel) (by decide +kernel)
set_option maxRecDepth 20000 in
theorem gL_law_X12_about : GoodIn lw_tbl (wsV RL 73 RX12 yX12_about wsX12_about) := tz_good [(29, 0), (29, 1), (29, 2), (0, 5), (29, 3), (29, 4), (5, 4), (10, 20), (10, 21), (10, 22), (0, 5), (10, 23), (8, 17), (8, 18), (8, 19), (8, 20), (8, 21), (8, 22), (8, 23), (5, 7), (11, 4), (11, 5), (11, 6), (11, 7), (28, 10), (28, 11), (28, 12), (28, 13), (47, 0), (47, 1), (47, 2), (47, 3), (47, 4), (47, 5), (47, 6), (47, 7), (47, 8), (47, 9), (47, 10), (47, 11), (47, 12), (47, 13), (47, 14), (47, 15), (47, 16), (47, 17), (47, 18), (47, 19), (47, 20), (47, 21), (47, 22), (47, 23)] (by decide +kernel) (by decide +kernel)
theorem dL_law_537 : decode cL_law 537 = .ok (.aload_n 1, 1) := by decide +kernel
theorem dL_law_538 : decode cL_law 538 = .ok (.aload_n 0, 1) := by decide +kernel
theorem dL_law_539 : decode cL_law 539 = .ok (.iload_n 3, 1) := by decide +kernel
theorem dL_law_540 : decode cL_law 540 = .ok (.iconst 1, 1) := by decide +kernel
theorem dL_law_541 : decode cL_law 541 = .ok (.iadd, 1) := by decide +kernel
theorem dL_law_542 : decode cL_law 542 = .ok (.iaload, 1) := by decide +kernel
theorem dL_law_543 : decode cL_law 543 = .ok (.aload_n 0, 1) := by decide +kernel
theorem dL_law_544 : decode cL_law 544 = .ok (.iload_n 3, 1) := by decide +kernel
theorem dL_law_545 : decode cL_law 545 = .ok (.iconst 2, 1) := by decide +kernel
theorem dL_law_546 : decode cL_law 546 = .ok (.iadd, 1) := by decide +kernel
theorem dL_law_547 : decode cL_law 547 = .ok (.iaload, 1) := by decide +kernel
theorem dL_law_548 : decode cL_law 548 = .ok (.invokevirtual 70, 3) := by decide +kernel
theorem dL_law_551 : decode cL_law 551 = .ok (.aload_n 2, 1) := by decide +kernel
theorem dL_law_552 : decode cL_law 552 = .ok (.aload_n 0, 1) := by decide +kernel
theorem dL_law_553 : decode cL_law 553 = .ok (.iload_n 3, 1) := by decide +kernel
theorem dL_law_554 : decode cL_law 554 = .ok (.iconst 1, 1) := by decide +kernel
theorem dL_law_555 : decode cL_law 555 = .ok (.iadd, 1) := by decide +kernel
theorem dL_law_556 : decode cL_law 556 = .ok (.iaload, 1) := by decide +kernel
theorem dL_law_557 : decode cL_law 557 = .ok (.aload_n 0, 1) := by decide +kernel
theorem dL_law_558 : decode cL_law 558 = .ok (.iload_n 3, 1) := by decide +kernel
theorem dL_law_559 : decode cL_law 559 = .ok (.iconst 2, 1) := by decide +kernel
theorem dL_law_560 : decode cL_law 560 = .ok (.iadd, 1) := by decide +kernel
theorem dL_law_561 : decode cL_law 561 = .ok (.iaload, 1) := by decide +kernel
theorem dL_law_562 : decode cL_law 562 = .ok (.invokevirtual 73, 3) := by decide +kernel
theorem dL_law_565 : decode cL_law 565 = .ok (.if_icmp .eq 590, 3) := by decide +kernel
set_option maxHeartbeats 4000000 in
set_option maxRecDepth 100000 in
theorem lc_about {p : Program} {l : Launch} {e : Env} {s : State} {m : MethodId} {below : List Frame} {meth : Method} {c : Code} {b : Nat} {xs : Nat → Int32} (C0 : lw_At p s m meth c b 6 xs) (hN : tz_N s) (A : Nat → Prop) (hA : ∀ q : Nat, s.heap.size ≤ q → A q) (hA2 : ∀ q : Nat, A q → s.heap.size ≤ q) (hbA : ¬ A b) (dC : Nat → ClassId) (dI : Nat → Nat → Nat) (o : Nat) (aw : Nat) (bk : Nat) (ai : Nat) (ak : Nat) (sc : Nat) (rd : Nat) (fo : Nat) (tx : Nat) (ar : Nat) (atr : Nat) (ao : Nat) (rk0 : Nat) (rk1 : Nat) (rk2 : Nat) (rk3 : Nat) (eak : Nat) (cak1 : Nat) (cr : ClassId) (mo : Nat) (nw : Nat) (kp : Nat) (ik : Nat) (mr : Nat) (mw : Nat) (mq : Nat) (mz : Nat) (my : Nat) (mb : Nat) (mx : Nat) (mv : Nat) (cn : ClassId) (cm : ClassId) (H : Heap) (locs : List Loc) (hK : va_K (dC, dI) vwCl [(cr, .int), (cn, .int), (cm, .int)] s) (hP : va_P (dC, dI) vwCl [(o, .inr (11, [.ref aw, .ref bk, .ref ai, .ref ak, .ref sc, .ref rd, .ref fo, .ref tx, .int 0, .ref ar, .ref atr, .ref ao])), (bk, .inr (0, [.ref rk0, .ref rk1, .ref rk2, .ref rk3, .ref eak, .int 0])), (rk1, .inr (6, [.int 4, .int 5, .ref cak1, .int 0])), (ar, .inl (cr, 3, .inl (fun _ => 0))), (mo, .inr (12, [.ref nw, .ref kp, .ref ik, .ref mr, .long 0, .long 1, .ref mw, .long 0, .int 0, .int 0, .long 0, .long 0, .ref mq, .ref mz, .ref my, .int 0, .ref mb, .int 0, .int 0, .int 0, .int 0, .int 0, .ref mx, .ref mv])), (nw, .inl (cn, 350, .inl (fun _ => 0))), (mr, .inl (cm, 3, .inl (fun _ => 0)))] H) (hD : va_D A [(o, .inr (11, [.ref aw, .ref bk, .ref ai, .ref ak, .ref sc, .ref rd, .ref fo, .ref tx, .int 0, .ref ar, .ref atr, .ref ao])), (bk, .inr (0, [.ref rk0, .ref rk1, .ref rk2, .ref rk3, .ref eak, .int 0])), (rk1, .inr (6, [.int 4, .int 5, .ref cak1, .int 0])), (ar, .inl (cr, 3, .inl (fun _ => 0))), (mo, .inr (12, [.ref nw, .ref kp, .ref ik, .ref mr, .long 0, .long 1, .ref mw, .long 0, .int 0, .int 0, .long 0, .long 0, .ref mq, .ref mz, .ref my, .int 0, .ref mb, .int 0, .int 0, .int 0, .int 0, .int 0, .ref mx, .ref mv])), (nw, .inl (cn, 350, .inl (fun _ => 0))), (mr, .inl (cm, 3, .inl (fun _ => 0)))]) (hS : va_S A s.heap H locs) (ls : Array Slot) (hl : lv_has ls 4 [(3, .int 0), (2, .ref mo), (1, .ref o), (0, .ref b)]) : W p l e room_1 s m #[Value.ref b] below meth c H locs 136 3195 (lw_Z below #[Value.ref b] s) (F0 m 537 ls []) := by
  obtain ⟨hx, hb, hr, hml, hown, hts, hX, hbl, hlocks, hgv⟩ := C0
  have hb : c.code = cL_law := hb
  have hown : s.vm.findClass RL = some m.cls := hown
  refine lv_aload_n hx hb dL_law_537 rfl (lv_at hl 2 rfl) ?_
  refine lv_aload_n hx hb dL_law_538 rfl (lv_at hl 3 rfl) ?_
  refine lv_iload_n hx hb dL_law_539 rfl (lv_at hl 0 rfl) ?_
  refine lv_iconst (v := 1) hx hb dL_law_540 (by decide) ?_
  refine lv_iadd hx hb dL_law_541 ?_
  refine tz_i 1 (by decide) ?_
  refine va_sld hx hb hX hbl hbA hS (show ¬ ((1 : Int32) < 0 ∨ 6 ≤ (1 : Int32).toNatClampNeg) by decide) dL_law_542 ?_
  refine tz_i (xs 1) rfl ?_
  refine lv_aload_n hx hb dL_law_543 rfl (lv_at hl 3 rfl) ?_
  refine lv_iload_n hx hb dL_law_544 rfl (lv_at hl 0 rfl) ?_
  refine lv_iconst (v := 2) hx hb dL_law_545 (by decide) ?_
  refine lv_iadd hx hb dL_law_546 ?_
  refine tz_i 2 (by decide) ?_
  refine va_sld hx hb hX hbl hbA hS (show ¬ ((2 : Int32) < 0 ∨ 6 ≤ (2 : Int32).toNatClampNeg) by decide) dL_law_547 ?_
  refine tz_i (xs 2) rfl ?_
  have hPc := hP.sub (ws' := [(o, .inr (11, [.ref aw, .ref bk, .ref ai, .ref ak, .ref sc, .ref rd, .ref fo, .ref tx, .int 0, .ref ar, .ref atr, .ref ao])), (bk, .inr (0, [.ref rk0, .ref rk1, .ref rk2, .ref rk3, .ref eak, .int 0])), (rk1, .inr (6, [.int 4, .int 5, .ref cak1, .int 0])), (ar, .inl (cr, 3, .inl (fun _ => 0)))]) [0, 1, 2, 3] rfl
  have hDc := hD.sub (ws' := [(o, .inr (11, [.ref aw, .ref bk, .ref ai, .ref ak, .ref sc, .ref rd, .ref fo, .ref tx, .int 0, .ref ar, .ref atr, .ref ao])), (bk, .inr (0, [.ref rk0, .ref rk1, .ref rk2, .ref rk3, .ref eak, .int 0])), (rk1, .inr (6, [.int 4, .int 5, .ref cak1, .int 0])), (ar, .inl (cr, 3, .inl (fun _ => 0)))]) [0, 1, 2, 3] (by decide) rfl
  have hKc := hK.sub (tys' := [(cr, .int)]) [0] rfl
  have hFc := va_free (wc := [(o, .inr (11, [.ref aw, .ref bk, .ref ai, .ref ak, .ref sc, .ref rd, .ref fo, .ref tx, .int 0, .ref ar, .ref atr, .ref ao])), (bk, .inr (0, [.ref rk0, .ref rk1, .ref rk2, .ref rk3, .ref eak, .int 0])), (rk1, .inr (6, [.int 4, .int 5, .ref cak1, .int 0])), (ar, .inl (cr, 3, .inl (fun _ => 0)))]) hD hS hA [0, 1, 2, 3] rfl
  refine va_calli (va_runV (As := [.int (xs 1), .int (xs 2)]) (rest := []) ⟨hx, hb, hml, hown, hts⟩ (k_x_about l dC dI o aw bk ai ak sc rd fo tx ar atr ao rk0 rk1 rk2 rk3 eak cak1 cr (xs 1) (xs 2) H.size) (cwV 2 hts gL_law_X11_about rfl rfl rfl (by decide +kernel) ⟨Nat.le_of_ble_eq_true rfl, Nat.le_of_ble_eq_true rfl⟩) ⟨fun a U g mk q => by obtain ⟨q0, q1, qP, qK, qD⟩ := q; exact ⟨q0, q1, qP, va_K.moved (u := U) (U := U.calling g mk a) (Vm.Alike.refl U.vm) qK, qD⟩, va_recv hK hP (ci := 11) (q0 := 0) rfl rfl, fun U hU hW => ⟨rfl, by rw [hU], by rw [hU]; exact hPc, va_K.moved hW.alike hKc, hDc.weaken (fun _ _ _ _ => trivial)⟩⟩ rfl rfl hl.1 rfl (lv_room (Nat.le_of_ble_eq_true rfl)) dL_law_548 ⟨Nat.le_of_ble_eq_true rfl, Nat.le_of_ble_eq_true rfl⟩) hS (fun q _ h => hFc q h) hFc (fun r_1 u_ t H1 locs ht hvm hw_2 hB hz1 hk1 hS => ?_)
  obtain ⟨hP, hD⟩ := va_join (wr := [(mo, .inr (12, [.ref nw, .ref kp, .ref ik, .ref mr, .long 0, .long 1, .ref mw, .long 0, .int 0, .int 0, .long 0, .long 0, .ref mq, .ref mz, .ref my, .int 0, .ref mb, .int 0, .int 0, .int 0, .int 0, .int 0, .ref mx, .ref mv])), (nw, .inl (cn, 350, .inl (fun _ => 0))), (mr, .inl (cm, 3, .inl (fun _ => 0)))]) (w1 := []) hP hD [0, 1, 2, 3] [4, 5, 6] rfl rfl (by decide) (by decide) hk1 hFc tz_P0 tz_D0
  generalize H1 = H at hP hS ⊢
  have hP : va_P (dC, dI) vwCl [(mo, .inr (12, [.ref nw, .ref kp, .ref ik, .ref mr, .long 0, .long 1, .ref mw, .long 0, .int 0, .int 0, .long 0, .long 0, .ref mq, .ref mz, .ref my, .int 0, .ref mb, .int 0, .int 0, .int 0, .int 0, .int 0, .ref mx, .ref mv])), (nw, .inl (cn, 350, .inl (fun _ => 0))), (mr, .inl (cm, 3, .inl (fun _ => 0)))] H := hP
  have hD : va_D A [(mo, .inr (12, [.ref nw, .ref kp, .ref ik, .ref mr, .long 0, .long 1, .ref mw, .long 0, .int 0, .int 0, .long 0, .long 0, .ref mq, .ref mz, .ref my, .int 0, .ref mb, .int 0, .int 0, .int 0, .int 0, .int 0, .ref mx, .ref mv])), (nw, .inl (cn, 350, .inl (fun _ => 0))), (mr, .inl (cm, 3, .inl (fun _ => 0)))] := hD
  obtain rfl : (-10) = r_1 := hw_2.symm
  refine lv_aload_n hx hb dL_law_551 rfl (lv_at hl 1 rfl) ?_
  refine lv_aload_n hx hb dL_law_552 rfl (lv_at hl 3 rfl) ?_
  refine lv_iload_n hx hb dL_law_553 rfl (lv_at hl 0 rfl) ?_
  refine lv_iconst (v := 1) hx hb dL_law_554 (by decide) ?_
  refine lv_iadd hx hb dL_law_555 ?_
  refine tz_i 1 (by decide) ?_
  refine va_sld hx hb hX hbl hbA hS (show ¬ ((1 : Int32) < 0 ∨ 6 ≤ (1 : Int32).toNatClampNeg) by decide) dL_law_556 ?_
  refine tz_i (xs 1) rfl ?_
  refine lv_aload_n hx hb dL_law_557 rfl (lv_at hl 3 rfl) ?_
  refine lv_iload_n hx hb dL_law_558 rfl (lv_at hl 0 rfl) ?_
  refine lv_iconst (v := 2) hx hb dL_law_559 (by decide) ?_
  refine lv_iadd hx hb dL_law_560 ?_
  refine tz_i 2 (by decide) ?_
  refine va_sld hx hb hX hbl hbA hS (show ¬ ((2 : Int32) < 0 ∨ 6 ≤ (2 : Int32).toNatClampNeg) by decide) dL_law_561 ?_
  refine tz_i (xs 2) rfl ?_
  have hPc := hP.sub (ws' := [(mo, .inr (12, [.ref nw, .ref kp, .ref ik, .ref mr, .long 0, .long 1, .ref mw, .long 0, .int 0, .int 0, .long 0, .long 0, .ref mq, .ref mz, .ref my, .int 0, .ref mb, .int 0, .int 0, .int 0, .int 0, .int 0, .ref mx, .ref mv])), (nw, .inl (cn, 350, .inl (fun _ => 0))), (mr, .inl (cm, 3, .inl (fun _ => 0)))]) [0, 1, 2] rfl
  have hDc := hD.sub (ws' := [(mo, .inr (12, [.ref nw, .ref kp, .ref ik, .ref mr, .long 0, .long 1, .ref mw, .long 0, .int 0, .int 0, .long 0, .long 0, .ref mq, .ref mz, .ref my, .int 0, .ref mb, .int 0, .int 0, .int 0, .int 0, .int 0, .ref mx, .ref mv])), (nw, .inl (cn, 350, .inl (fun _ => 0))), (mr, .inl (cm, 3, .inl (fun _ => 0)))]) [0, 1, 2] (by decide) rfl
  have hKc := hK.sub (tys' := [(cn, .int), (cm, .int)]) [1, 2] rfl
  have hFc := va_free (wc := [(mo, .inr (12, [.ref nw, .ref kp, .ref ik, .ref mr, .long 0, .long 1, .ref mw, .long 0, .int 0, .int 0, .long 0, .long 0, .ref mq, .ref mz, .ref my, .int 0, .ref mb, .int 0, .int 0, .int 0, .int 0, .int 0, .ref mx, .ref mv])), (nw, .inl (cn, 350, .inl (fun _ => 0))), (mr, .inl (cm, 3, .inl (fun _ => 0)))]) hD hS hA [0, 1, 2] rfl
  refine va_calli (va_runV (As := [.int (xs 1), .int (xs 2)]) (rest := [.int (-10)]) ⟨hx, hb, hml, hown, hts⟩ (k_m_about l dC dI mo nw kp ik mr mw mq mz my mb mx mv cn cm (xs 1) (xs 2) H.size) (cwV 2 hts gL_law_X12_about rfl rfl rfl (by decide +kernel) ⟨Nat.le_of_ble_eq_true rfl, Nat.le_of_ble_eq_true rfl⟩) ⟨fun a U g mk q => by obtain ⟨q0, q1, qP, qK, qD⟩ := q; exact ⟨q0, q1, qP, va_K.moved (u := U) (U := U.calling g mk a) (Vm.Alike.refl U.vm) qK, qD⟩, va_recv hK hP (ci := 12) (q0 := 0) rfl rfl, fun U hU hW => ⟨rfl, by rw [hU], by rw [hU]; exact hPc, va_K.moved hW.alike hKc, hDc.weaken (fun _ _ _ _ => trivial)⟩⟩ rfl rfl hl.1 rfl (lv_room (Nat.le_of_ble_eq_true rfl)) dL_law_562 ⟨Nat.le_of_ble_eq_true rfl, Nat.le_of_ble_eq_true rfl⟩) hS (fun q _ h => hFc q h) hFc (fun r_3 u_ t H1 locs ht hvm hw_4 hB hz1 hk1 hS => ?_)
  obtain ⟨hP, hD⟩ := va_join (wr := []) (w1 := []) hP hD [0, 1, 2] [] rfl rfl (by decide) (by decide) hk1 hFc tz_P0 tz_D0
  generalize H1 = H at hP hS ⊢
  have hP : va_P (dC, dI) vwCl [] H := hP
  have hD : va_D A [] := hD
  obtain rfl : (-10) = r_3 := hw_4.symm
  refine lv_icmp_eq (tgt := 1155) hx hb dL_law_565 (by decide) (fun c_5 => ?_) (fun c_5 => ?_)
  · refine lv_iinc (v := 6) (lv' := [(3, .int 6), (2, .ref mo), (1, .ref o), (0, .ref b)]) hx hb dL_law_1155 hl (k := 0) rfl (by decide) (by decide) rfl (fun ls hl => ?_)
    refine lv_goto (tgt := 18) hx hb dL_law_1158 (by decide) ?_
    refine lv_iload_n hx hb dL_law_18 rfl (lv_at hl 0 rfl) ?_
    refine lv_aload_n hx hb dL_law_19 rfl (lv_at hl 3 rfl) ?_
    refine va_slen hx hb hX hbl hbA hS dL_law_20 ?_
    refine tz_i 6 rfl ?_
    refine lv_bipush (v := 6) hx hb dL_law_21 (by decide) ?_
    refine lv_isub hx hb dL_law_23 ?_
    refine tz_i 0 (by decide) ?_
    refine lv_icmp_gt (tgt := 1161) hx hb dL_law_24 (by decide) (fun c_6 => ?_) (fun c_6 => ?_)
    · refine lv_iconst (v := 1) hx hb dL_law_1161 (by decide) ?_
      refine va_forget (fun q hq => hA2 _ (hS.2.2 q hq)) ?_
      refine W.widen (k := 600000) (n := 7302250) (Nat.le_of_ble_eq_true rfl) (Nat.le_of_ble_eq_true rfl) ?_
      exact lw_ret hx hb hr hlocks dL_law_1162
    · exact absurd c_6 (by decide)
  · exact absurd c_5 (by decide)
set_option maxRecDepth 20000 in
theorem gL_law_X11_likely : GoodIn lw_tbl (wsV RL 74 RX11 yX11_likely wsX11_likely) := tz_good [(29, 5), (29, 6), (29, 7), (0, 2), (29, 8), (1, 10), (5, 20), (1, 17), (1, 6), (2, 1), (10, 4), (10, 5), (10, 6), (3, 4), (10, 7), (3, 15), (7, 4), (7, 5), (0, 2), (7, 6), (7, 7), (7, 8), (7, 9), (7, 10), (7, 11), (7, 12), (7, 13), (7, 14), (2, 6), (29, 9), (29, 10), (29, 11), (1, 16), (29, 12), (4, 3), (29, 13), (29, 14), (29, 15), (29, 16), (29, 17), (29, 18), (29, 19), (10, 9), (10, 10), (10, 11), (3, 22), (3, 21), (8, 8), (8, 9), (8, 10), (8, 11), (29, 20), (5, 22), (5, 23), (6, 0), (29, 21), (29, 22), (29, 23), (30, 0), (4, 4), (30, 1), (24, 1), (24, 2), (24, 3), (24, 4), (0, 17), (24, 5), (24, 6), (24, 7), (24, 2), (0, 14), (24, 9), (24, 10), (24, 11), (0, 23), (24, 12), (24, 13), (24, 14), (24, 15), (24, 16), (0, 20), (24, 17), (30, 1), (24, 19), (24, 20), (24, 21), (1, 5), (24, 22), (24, 23), (25, 0), (25, 1), (25, 2), (1, 2), (25, 3), (25, 4), (25, 5), (25, 6), (25, 7), (30, 3), (30, 4), (30, 5), (30, 6), (30, 7), (30, 8), (30, 9), (30, 10), (6, 9), (6, 10), (6, 11), (2, 0), (6, 12), (4, 22), (4, 23), (6, 13), (6, 14), (6, 15), (46, 0), (46, 1), (46, 2), (46, 3), (46, 4), (46, 5), (46, 6), (46, 7), (46, 8), (46, 9), (46, 10), (46, 11), (54, 0), (54, 1), (54, 2), (54, 3), (54, 4), (54, 5), (58, 0), (58, 1), (58, 2), (58, 3), (55, 0), (55, 1), (57, 0), (57, 1)] (by decide +kernel) (by decide +kernel)
set_option maxRecDepth 20000 in
theorem gL_law_X12_likely : GoodIn lw_tbl (wsV RL 77 RX12 yX12_likely wsX12_likely) := tz_good [(30, 11), (30, 12), (30, 13), (0, 5), (30, 14), (9, 19), (9, 20), (30, 15), (5, 9), (10, 20), (10, 21), (10, 22), (0, 5), (10, 23), (5, 4), (8, 17), (8, 18), (8, 19), (8, 20), (8, 21), (8, 22), (8, 23), (5, 7), (30, 16), (30, 17), (30, 18), (30, 19), (30, 20), (30, 21), (30, 22), (30, 23), (31, 0), (31, 1), (11, 4), (11, 5), (11, 6), (11, 7), (28, 10), (28, 11), (28, 12), (28, 13), (27, 1), (27, 2), (27, 3), (27, 4), (27, 5), (27, 6), (27, 7), (27, 8), (27, 9), (27, 10), (27, 11), (27, 12), (27, 13), (27, 14), (14, 19), (14, 20), (14, 21), (14, 22), (31, 2), (31, 3), (31, 4), (31, 5), (31, 6), (5, 8), (47, 0), (47, 1), (47, 2), (47, 3), (47, 4), (47, 5), (47, 6), (47, 7), (47, 8), (47, 9), (47, 10), (47, 11), (47, 12), (47, 13), (47, 14), (47, 15), (47, 16), (47, 17), (47, 18), (47, 19), (47, 20), (47, 21), (47, 22), (47, 23)] (by decide +kernel) (by decide +kernel)
theorem dL_law_570 : decode cL_law 570 = .ok (.aload_n 1, 1) := by decide +kernel
theorem dL_law_571 : decode cL_law 571 = .ok (.aload_n 0, 1) := by decide +kernel
theorem dL_law_572 : decode cL_law 572 = .ok (.iload_n 3, 1) := by decide +kernel
theorem dL_law_573 : decode cL_law 573 = .ok (.iconst 1, 1) := by decide +kernel
theorem dL_law_574 : decode cL_law 574 = .ok (.iadd, 1) := by decide +kernel
theorem dL_law_575 : decode cL_law 575 = .ok (.iaload, 1) := by decide +kernel
theorem dL_law_576 : decode cL_law 576 = .ok (.aload_n 0, 1) := by decide +kernel
theorem dL_law_577 : decode cL_law 577 = .ok (.iload_n 3, 1) := by decide +kernel
theorem dL_law_578 : decode cL_law 578 = .ok (.iconst 2, 1) := by decide +kernel
theorem dL_law_579 : decode cL_law 579 = .ok (.iadd, 1) := by decide +kernel
theorem dL_law_580 : decode cL_law 580 = .ok (.iaload, 1) := by decide +kernel
theorem dL_law_581 : decode cL_law 581 = .ok (.invokevirtual 74, 3) := by decide +kernel
theorem dL_law_584 : decode cL_law 584 = .ok (.aload_n 2, 1) := by decide +kernel
theorem dL_law_585 : decode cL_law 585 = .ok (.aload_n 0, 1) := by decide +kernel
theorem dL_law_586 : decode cL_law 586 = .ok (.iload_n 3, 1) := by decide +kernel
theorem dL_law_587 : decode cL_law 587 = .ok (.iconst 1, 1) := by decide +kernel
theorem dL_law_588 : decode cL_law 588 = .ok (.iadd, 1) := by decide +kernel
theorem dL_law_589 : decode cL_law 589 = .ok (.iaload, 1) := by decide +kernel
theorem dL_law_590 : decode cL_law 590 = .ok (.aload_n 0, 1) := by decide +kernel
theorem dL_law_591 : decode cL_law 591 = .ok (.iload_n 3, 1) := by decide +kernel
theorem dL_law_592 : decode cL_law 592 = .ok (.iconst 2, 1) := by decide +kernel
theorem dL_law_593 : decode cL_law 593 = .ok (.iadd, 1) := by decide +kernel
theorem dL_law_594 : decode cL_law 594 = .ok (.iaload, 1) := by decide +kernel
theorem dL_law_595 : decode cL_law 595 = .ok (.invokevirtual 77, 3) := by decide +kernel
theorem dL_law_598 : decode cL_law 598 = .ok (.if_icmp .eq 557, 3) := by decide +kernel
set_option maxHeartbeats 4000000 in
set_option maxRecDepth 100000 in
theorem lc_likely {p : Program} {l : Launch} {e : Env} {s : State} {m : MethodId} {below : List Frame} {meth : Method} {c : Code} {b : Nat} {xs : Nat → Int32} (C0 : lw_At p s m meth c b 6 xs) (hN : tz_N s) (A : Nat → Prop) (hA : ∀ q : Nat, s.heap.size ≤ q → A q) (hA2 : ∀ q : Nat, A q → s.heap.size ≤ q) (hbA : ¬ A b) (dC : Nat → ClassId) (dI : Nat → Nat → Nat) (o : Nat) (aw : Nat) (bk : Nat) (ai : Nat) (ak : Nat) (sc : Nat) (rd : Nat) (fo : Nat) (tx : Nat) (ar : Nat) (atr : Nat) (ao : Nat) (rk0 : Nat) (rk1 : Nat) (rk2 : Nat) (rk3 : Nat) (eak : Nat) (cak1 : Nat) (cr : ClassId) (mo : Nat) (nw : Nat) (kp : Nat) (ik : Nat) (mr : Nat) (mw : Nat) (mq : Nat) (mz : Nat) (my : Nat) (mb : Nat) (mx : Nat) (mv : Nat) (cn : ClassId) (cm : ClassId) (H : Heap) (locs : List Loc) (hK : va_K (dC, dI) vwCl [(cr, .int), (cn, .int), (cm, .int)] s) (hP : va_P (dC, dI) vwCl [(o, .inr (11, [.ref aw, .ref bk, .ref ai, .ref ak, .ref sc, .ref rd, .ref fo, .ref tx, .int 0, .ref ar, .ref atr, .ref ao])), (bk, .inr (0, [.ref rk0, .ref rk1, .ref rk2, .ref rk3, .ref eak, .int 0])), (rk1, .inr (6, [.int 4, .int 5, .ref cak1, .int 0])), (ar, .inl (cr, 3, .inl (fun _ => 0))), (mo, .inr (12, [.ref nw, .ref kp, .ref ik, .ref mr, .long 0, .long 1, .ref mw, .long 0, .int 0, .int 0, .long 0, .long 0, .ref mq, .ref mz, .ref my, .int 0, .ref mb, .int 0, .int 0, .int 0, .int 0, .int 0, .ref mx, .ref mv])), (nw, .inl (cn, 350, .inl (fun _ => 0))), (mr, .inl (cm, 3, .inl (fun _ => 0)))] H) (hD : va_D A [(o, .inr (11, [.ref aw, .ref bk, .ref ai, .ref ak, .ref sc, .ref rd, .ref fo, .ref tx, .int 0, .ref ar, .ref atr, .ref ao])), (bk, .inr (0, [.ref rk0, .ref rk1, .ref rk2, .ref rk3, .ref eak, .int 0])), (rk1, .inr (6, [.int 4, .int 5, .ref cak1, .int 0])), (ar, .inl (cr, 3, .inl (fun _ => 0))), (mo, .inr (12, [.ref nw, .ref kp, .ref ik, .ref mr, .long 0, .long 1, .ref mw, .long 0, .int 0, .int 0, .long 0, .long 0, .ref mq, .ref mz, .ref my, .int 0, .ref mb, .int 0, .int 0, .int 0, .int 0, .int 0, .ref mx, .ref mv])), (nw, .inl (cn, 350, .inl (fun _ => 0))), (mr, .inl (cm, 3, .inl (fun _ => 0)))]) (hS : va_S A s.heap H locs) (ls : Array Slot) (hl : lv_has ls 4 [(3, .int 0), (2, .ref mo), (1, .ref o), (0, .ref b)]) : W p l e room_1 s m #[Value.ref b] below meth c H locs 136 3195 (lw_Z below #[Value.ref b] s) (F0 m 570 ls []) := by
  obtain ⟨hx, hb, hr, hml, hown, hts, hX, hbl, hlocks, hgv⟩ := C0
  have hb : c.code = cL_law := hb
  have hown : s.vm.findClass RL = some m.cls := hown
  refine lv_aload_n hx hb dL_law_570 rfl (lv_at hl 2 rfl) ?_
  refine lv_aload_n hx hb dL_law_571 rfl (lv_at hl 3 rfl) ?_
  refine lv_iload_n hx hb dL_law_572 rfl (lv_at hl 0 rfl) ?_
  refine lv_iconst (v := 1) hx hb dL_law_573 (by decide) ?_
  refine lv_iadd hx hb dL_law_574 ?_
  refine tz_i 1 (by decide) ?_
  refine va_sld hx hb hX hbl hbA hS (show ¬ ((1 : Int32) < 0 ∨ 6 ≤ (1 : Int32).toNatClampNeg) by decide) dL_law_575 ?_
  refine tz_i (xs 1) rfl ?_
  refine lv_aload_n hx hb dL_law_576 rfl (lv_at hl 3 rfl) ?_
  refine lv_iload_n hx hb dL_law_577 rfl (lv_at hl 0 rfl) ?_
  refine lv_iconst (v := 2) hx hb dL_law_578 (by decide) ?_
  refine lv_iadd hx hb dL_law_579 ?_
  refine tz_i 2 (by decide) ?_
  refine va_sld hx hb hX hbl hbA hS (show ¬ ((2 : Int32) < 0 ∨ 6 ≤ (2 : Int32).toNatClampNeg) by decide) dL_law_580 ?_
  refine tz_i (xs 2) rfl ?_
  have hPc := hP.sub (ws' := [(o, .inr (11, [.ref aw, .ref bk, .ref ai, .ref ak, .ref sc, .ref rd, .ref fo, .ref tx, .int 0, .ref ar, .ref atr, .ref ao])), (bk, .inr (0, [.ref rk0, .ref rk1, .ref rk2, .ref rk3, .ref eak, .int 0])), (rk1, .inr (6, [.int 4, .int 5, .ref cak1, .int 0])), (ar, .inl (cr, 3, .inl (fun _ => 0)))]) [0, 1, 2, 3] rfl
  have hDc := hD.sub (ws' := [(o, .inr (11, [.ref aw, .ref bk, .ref ai, .ref ak, .ref sc, .ref rd, .ref fo, .ref tx, .int 0, .ref ar, .ref atr, .ref ao])), (bk, .inr (0, [.ref rk0, .ref rk1, .ref rk2, .ref rk3, .ref eak, .int 0])), (rk1, .inr (6, [.int 4, .int 5, .ref cak1, .int 0])), (ar, .inl (cr, 3, .inl (fun _ => 0)))]) [0, 1, 2, 3] (by decide) rfl
  have hKc := hK.sub (tys' := [(cr, .int)]) [0] rfl
  have hFc := va_free (wc := [(o, .inr (11, [.ref aw, .ref bk, .ref ai, .ref ak, .ref sc, .ref rd, .ref fo, .ref tx, .int 0, .ref ar, .ref atr, .ref ao])), (bk, .inr (0, [.ref rk0, .ref rk1, .ref rk2, .ref rk3, .ref eak, .int 0])), (rk1, .inr (6, [.int 4, .int 5, .ref cak1, .int 0])), (ar, .inl (cr, 3, .inl (fun _ => 0)))]) hD hS hA [0, 1, 2, 3] rfl
  refine va_calli (va_runV (As := [.int (xs 1), .int (xs 2)]) (rest := []) ⟨hx, hb, hml, hown, hts⟩ (k_x_likely l dC dI o aw bk ai ak sc rd fo tx ar atr ao rk0 rk1 rk2 rk3 eak cak1 cr (xs 1) (xs 2) H.size) (cwV 2 hts gL_law_X11_likely rfl rfl rfl (by decide +kernel) ⟨Nat.le_of_ble_eq_true rfl, Nat.le_of_ble_eq_true rfl⟩) ⟨fun a U g mk q => by obtain ⟨q0, q1, qP, qK, qD⟩ := q; exact ⟨q0, q1, qP, va_K.moved (u := U) (U := U.calling g mk a) (Vm.Alike.refl U.vm) qK, qD⟩, va_recv hK hP (ci := 11) (q0 := 0) rfl rfl, fun U hU hW => ⟨rfl, by rw [hU], by rw [hU]; exact hPc, va_K.moved hW.alike hKc, hDc.weaken (fun _ _ _ _ => trivial)⟩⟩ rfl rfl hl.1 rfl (lv_room (Nat.le_of_ble_eq_true rfl)) dL_law_581 ⟨Nat.le_of_ble_eq_true rfl, Nat.le_of_ble_eq_true rfl⟩) hS (fun q _ h => hFc q h) hFc (fun r_1 u_ t H1 locs ht hvm hw_2 hB hz1 hk1 hS => ?_)
  obtain ⟨hP, hD⟩ := va_join (wr := [(mo, .inr (12, [.ref nw, .ref kp, .ref ik, .ref mr, .long 0, .long 1, .ref mw, .long 0, .int 0, .int 0, .long 0, .long 0, .ref mq, .ref mz, .ref my, .int 0, .ref mb, .int 0, .int 0, .int 0, .int 0, .int 0, .ref mx, .ref mv])), (nw, .inl (cn, 350, .inl (fun _ => 0))), (mr, .inl (cm, 3, .inl (fun _ => 0)))]) (w1 := []) hP hD [0, 1, 2, 3] [4, 5, 6] rfl rfl (by decide) (by decide) hk1 hFc tz_P0 tz_D0
  generalize H1 = H at hP hS ⊢
  have hP : va_P (dC, dI) vwCl [(mo, .inr (12, [.ref nw, .ref kp, .ref ik, .ref mr, .long 0, .long 1, .ref mw, .long 0, .int 0, .int 0, .long 0, .long 0, .ref mq, .ref mz, .ref my, .int 0, .ref mb, .int 0, .int 0, .int 0, .int 0, .int 0, .ref mx, .ref mv])), (nw, .inl (cn, 350, .inl (fun _ => 0))), (mr, .inl (cm, 3, .inl (fun _ => 0)))] H := hP
  have hD : va_D A [(mo, .inr (12, [.ref nw, .ref kp, .ref ik, .ref mr, .long 0, .long 1, .ref mw, .long 0, .int 0, .int 0, .long 0, .long 0, .ref mq, .ref mz, .ref my, .int 0, .ref mb, .int 0, .int 0, .int 0, .int 0, .int 0, .ref mx, .ref mv])), (nw, .inl (cn, 350, .inl (fun _ => 0))), (mr, .inl (cm, 3, .inl (fun _ => 0)))] := hD
  obtain rfl : (-2) = r_1 := hw_2.symm
  refine lv_aload_n hx hb dL_law_584 rfl (lv_at hl 1 rfl) ?_
  refine lv_aload_n hx hb dL_law_585 rfl (lv_at hl 3 rfl) ?_
  refine lv_iload_n hx hb dL_law_586 rfl (lv_at hl 0 rfl) ?_
  refine lv_iconst (v := 1) hx hb dL_law_587 (by decide) ?_
  refine lv_iadd hx hb dL_law_588 ?_
  refine tz_i 1 (by decide) ?_
  refine va_sld hx hb hX hbl hbA hS (show ¬ ((1 : Int32) < 0 ∨ 6 ≤ (1 : Int32).toNatClampNeg) by decide) dL_law_589 ?_
  refine tz_i (xs 1) rfl ?_
  refine lv_aload_n hx hb dL_law_590 rfl (lv_at hl 3 rfl) ?_
  refine lv_iload_n hx hb dL_law_591 rfl (lv_at hl 0 rfl) ?_
  refine lv_iconst (v := 2) hx hb dL_law_592 (by decide) ?_
  refine lv_iadd hx hb dL_law_593 ?_
  refine tz_i 2 (by decide) ?_
  refine va_sld hx hb hX hbl hbA hS (show ¬ ((2 : Int32) < 0 ∨ 6 ≤ (2 : Int32).toNatClampNeg) by decide) dL_law_594 ?_
  refine tz_i (xs 2) rfl ?_
  have hPc := hP.sub (ws' := [(mo, .inr (12, [.ref nw, .ref kp, .ref ik, .ref mr, .long 0, .long 1, .ref mw, .long 0, .int 0, .int 0, .long 0, .long 0, .ref mq, .ref mz, .ref my, .int 0, .ref mb, .int 0, .int 0, .int 0, .int 0, .int 0, .ref mx, .ref mv])), (nw, .inl (cn, 350, .inl (fun _ => 0))), (mr, .inl (cm, 3, .inl (fun _ => 0)))]) [0, 1, 2] rfl
  have hDc := hD.sub (ws' := [(mo, .inr (12, [.ref nw, .ref kp, .ref ik, .ref mr, .long 0, .long 1, .ref mw, .long 0, .int 0, .int 0, .long 0, .long 0, .ref mq, .ref mz, .ref my, .int 0, .ref mb, .int 0, .int 0, .int 0, .int 0, .int 0, .ref mx, .ref mv])), (nw, .inl (cn, 350, .inl (fun _ => 0))), (mr, .inl (cm, 3, .inl (fun _ => 0)))]) [0, 1, 2] (by decide) rfl
  have hKc := hK.sub (tys' := [(cn, .int), (cm, .int)]) [1, 2] rfl
  have hFc := va_free (wc := [(mo, .inr (12, [.ref nw, .ref kp, .ref ik, .ref mr, .long 0, .long 1, .ref mw, .long 0, .int 0, .int 0, .long 0, .long 0, .ref mq, .ref mz, .ref my, .int 0, .ref mb, .int 0, .int 0, .int 0, .int 0, .int 0, .ref mx, .ref mv])), (nw, .inl (cn, 350, .inl (fun _ => 0))), (mr, .inl (cm, 3, .inl (fun _ => 0)))]) hD hS hA [0, 1, 2] rfl
  refine va_calli (va_runV (As := [.int (xs 1), .int (xs 2)]) (rest := [.int (-2)]) ⟨hx, hb, hml, hown, hts⟩ (k_m_likely l dC dI mo nw kp ik mr mw mq mz my mb mx mv cn cm (xs 1) (xs 2) H.size) (cwV 2 hts gL_law_X12_likely rfl rfl rfl (by decide +kernel) ⟨Nat.le_of_ble_eq_true rfl, Nat.le_of_ble_eq_true rfl⟩) ⟨fun a U g mk q => by obtain ⟨q0, q1, qP, qK, qD⟩ := q; exact ⟨q0, q1, qP, va_K.moved (u := U) (U := U.calling g mk a) (Vm.Alike.refl U.vm) qK, qD⟩, va_recv hK hP (ci := 12) (q0 := 0) rfl rfl, fun U hU hW => ⟨rfl, by rw [hU], by rw [hU]; exact hPc, va_K.moved hW.alike hKc, hDc.weaken (fun _ _ _ _ => trivial)⟩⟩ rfl rfl hl.1 rfl (lv_room (Nat.le_of_ble_eq_true rfl)) dL_law_595 ⟨Nat.le_of_ble_eq_true rfl, Nat.le_of_ble_eq_true rfl⟩) hS (fun q _ h => hFc q h) hFc (fun r_3 u_ t H1 locs ht hvm hw_4 hB hz1 hk1 hS => ?_)
  obtain ⟨hP, hD⟩ := va_join (wr := []) (w1 := []) hP hD [0, 1, 2] [] rfl rfl (by decide) (by decide) hk1 hFc tz_P0 tz_D0
  generalize H1 = H at hP hS ⊢
  have hP : va_P (dC, dI) vwCl [] H := hP
  have hD : va_D A [] := hD
  obtain rfl : (-2) = r_3 := hw_4.symm
  refine lv_icmp_eq (tgt := 1155) hx hb dL_law_598 (by decide) (fun c_5 => ?_) (fun c_5 => ?_)
  · refine lv_iinc (v := 6) (lv' := [(3, .int 6), (2, .ref mo), (1, .ref o), (0, .ref b)]) hx hb dL_law_1155 hl (k := 0) rfl (by decide) (by decide) rfl (fun ls hl => ?_)
    refine lv_goto (tgt := 18) hx hb dL_law_1158 (by decide) ?_
    refine lv_iload_n hx hb dL_law_18 rfl (lv_at hl 0 rfl) ?_
    refine lv_aload_n hx hb dL_law_19 rfl (lv_at hl 3 rfl) ?_
    refine va_slen hx hb hX hbl hbA hS dL_law_20 ?_
    refine tz_i 6 rfl ?_
    refine lv_bipush (v := 6) hx hb dL_law_21 (by decide) ?_
    refine lv_isub hx hb dL_law_23 ?_
    refine tz_i 0 (by decide) ?_
    refine lv_icmp_gt (tgt := 1161) hx hb dL_law_24 (by decide) (fun c_6 => ?_) (fun c_6 => ?_)
    · refine lv_iconst (v := 1) hx hb dL_law_1161 (by decide) ?_
      refine va_forget (fun q hq => hA2 _ (hS.2.2 q hq)) ?_
      refine W.widen (k := 600000) (n := 7302250) (Nat.le_of_ble_eq_true rfl) (Nat.le_of_ble_eq_true rfl) ?_
      exact lw_ret hx hb hr hlocks dL_law_1162
    · exact absurd c_6 (by decide)
  · exact absurd c_5 (by decide)
set_option maxRecDepth 20000 in
theorem gL_law_X11_truly : GoodIn lw_tbl (wsV RL 78 RX11 yX11_truly wsX11_truly) := tz_good [(31, 7), (31, 8), (31, 9), (0, 2), (31, 10), (1, 10), (5, 20), (1, 17), (1, 6), (10, 4), (10, 5), (10, 6), (3, 4), (10, 7), (3, 15), (7, 4), (7, 5), (0, 2), (7, 6), (7, 7), (7, 8), (7, 9), (7, 10), (7, 11), (7, 12), (7, 13), (7, 14), (2, 6), (29, 9), (29, 10), (29, 11), (1, 16), (29, 12), (4, 3), (29, 13), (29, 14), (29, 15), (29, 16), (29, 17), (29, 18), (29, 19), (10, 9), (10, 10), (10, 11), (3, 22), (3, 21), (8, 8), (8, 9), (8, 10), (8, 11), (29, 20), (5, 22), (5, 23), (6, 0), (29, 21), (29, 22), (29, 23), (30, 0), (4, 4), (30, 1), (24, 1), (24, 2), (24, 3), (24, 4), (0, 17), (24, 5), (24, 6), (24, 7), (24, 2), (0, 14), (24, 9), (24, 10), (24, 11), (0, 23), (24, 12), (24, 13), (24, 14), (24, 15), (24, 16), (0, 20), (24, 17), (30, 1), (24, 19), (24, 20), (24, 21), (1, 5), (24, 22), (24, 23), (25, 0), (25, 1), (25, 2), (1, 2), (25, 3), (25, 4), (25, 5), (25, 6), (25, 7), (31, 11), (31, 12), (31, 13), (31, 14), (31, 15), (31, 16), (31, 17), (31, 18), (46, 0), (46, 1), (46, 2), (46, 3), (46, 4), (46, 5), (46, 6), (46, 7), (46, 8), (46, 9), (46, 10), (46, 11), (54, 0), (54, 1), (54, 2), (54, 3), (54, 4), (54, 5), (58, 0), (58, 1), (58, 2), (58, 3), (55, 0), (55, 1)] (by decide +kernel) (by decide +kernel)
set_option maxRecDepth 20000 in
theorem gL_law_X12_truly : GoodIn lw_tbl (wsV RL 81 RX12 yX12_truly wsX12_truly) := tz_good [(31, 19), (31, 20), (31, 21), (0, 5), (31, 22), (30, 20), (30, 21), (10, 20), (10, 21), (10, 22), (0, 5), (10, 23), (5, 4), (8, 17), (8, 18), (8, 19), (8, 20), (8, 21), (8, 22), (8, 23), (5, 7), (30, 16), (30, 17), (30, 18), (30, 19), (30, 15), (5, 9), (30, 22), (30, 23), (31, 0), (31, 1), (11, 4), (11, 5), (11, 6), (11, 7), (28, 10), (28, 11), (28, 12), (28, 13), (27, 1), (27, 2), (27, 3), (27, 4), (27, 5), (27, 6), (27, 7), (27, 8), (27, 9), (27, 10), (27, 11), (27, 12), (27, 13), (27, 14), (47, 0), (47, 1), (47, 2), (47, 3), (47, 4), (47, 5), (47, 6), (47, 7), (47, 8), (47, 9), (47, 10), (47, 11), (47, 12), (47, 13), (47, 14), (47, 15), (47, 16), (47, 17), (47, 18), (47, 19), (47, 20), (47, 21), (47, 22), (47, 23)] (by decide +kernel) (by decide +kernel)
theorem dL_law_603 : decode cL_law 603 = .ok (.aload_n 1, 1) := by decide +kernel
theorem dL_law_604 : decode cL_law 604 = .ok (.aload_n 0, 1) := by decide +kernel
theorem dL_law_605 : decode cL_law 605 = .ok (.iload_n 3, 1) := by decide +kernel
theorem dL_law_606 : decode cL_law 606 = .ok (.iconst 1, 1) := by decide +kernel
theorem dL_law_607 : decode cL_law 607 = .ok (.iadd, 1) := by decide +kernel
theorem dL_law_608 : decode cL_law 608 = .ok (.iaload, 1) := by decide +kernel
theorem dL_law_609 : decode cL_law 609 = .ok (.aload_n 0, 1) := by decide +kernel
theorem dL_law_610 : decode cL_law 610 = .ok (.iload_n 3, 1) := by decide +kernel
theorem dL_law_611 : decode cL_law 611 = .ok (.iconst 2, 1) := by decide +kernel
theorem dL_law_612 : decode cL_law 612 = .ok (.iadd, 1) := by decide +kernel
theorem dL_law_613 : decode cL_law 613 = .ok (.iaload, 1) := by decide +kernel
theorem dL_law_614 : decode cL_law 614 = .ok (.invokevirtual 78, 3) := by decide +kernel
theorem dL_law_617 : decode cL_law 617 = .ok (.aload_n 2, 1) := by decide +kernel
theorem dL_law_618 : decode cL_law 618 = .ok (.aload_n 0, 1) := by decide +kernel
theorem dL_law_619 : decode cL_law 619 = .ok (.iload_n 3, 1) := by decide +kernel
theorem dL_law_620 : decode cL_law 620 = .ok (.iconst 1, 1) := by decide +kernel
theorem dL_law_621 : decode cL_law 621 = .ok (.iadd, 1) := by decide +kernel
theorem dL_law_622 : decode cL_law 622 = .ok (.iaload, 1) := by decide +kernel
theorem dL_law_623 : decode cL_law 623 = .ok (.aload_n 0, 1) := by decide +kernel
theorem dL_law_624 : decode cL_law 624 = .ok (.iload_n 3, 1) := by decide +kernel
theorem dL_law_625 : decode cL_law 625 = .ok (.iconst 2, 1) := by decide +kernel
theorem dL_law_626 : decode cL_law 626 = .ok (.iadd, 1) := by decide +kernel
theorem dL_law_627 : decode cL_law 627 = .ok (.iaload, 1) := by decide +kernel
theorem dL_law_628 : decode cL_law 628 = .ok (.invokevirtual 81, 3) := by decide +kernel
theorem dL_law_631 : decode cL_law 631 = .ok (.if_icmp .eq 524, 3) := by decide +kernel
set_option maxHeartbeats 4000000 in
set_option maxRecDepth 100000 in
theorem lc_truly {p : Program} {l : Launch} {e : Env} {s : State} {m : MethodId} {below : List Frame} {meth : Method} {c : Code} {b : Nat} {xs : Nat → Int32} (C0 : lw_At p s m meth c b 6 xs) (hN : tz_N s) (A : Nat → Prop) (hA : ∀ q : Nat, s.heap.size ≤ q → A q) (hA2 : ∀ q : Nat, A q → s.heap.size ≤ q) (hbA : ¬ A b) (dC : Nat → ClassId) (dI : Nat → Nat → Nat) (o : Nat) (aw : Nat) (bk : Nat) (ai : Nat) (ak : Nat) (sc : Nat) (rd : Nat) (fo : Nat) (tx : Nat) (ar : Nat) (atr : Nat) (ao : Nat) (rk0 : Nat) (rk1 : Nat) (rk2 : Nat) (rk3 : Nat) (eak : Nat) (cak1 : Nat) (cr : ClassId) (mo : Nat) (nw : Nat) (kp : Nat) (ik : Nat) (mr : Nat) (mw : Nat) (mq : Nat) (mz : Nat) (my : Nat) (mb : Nat) (mx : Nat) (mv : Nat) (cn : ClassId) (cm : ClassId) (H : Heap) (locs : List Loc) (hK : va_K (dC, dI) vwCl [(cr, .int), (cn, .int), (cm, .int)] s) (hP : va_P (dC, dI) vwCl [(o, .inr (11, [.ref aw, .ref bk, .ref ai, .ref ak, .ref sc, .ref rd, .ref fo, .ref tx, .int 0, .ref ar, .ref atr, .ref ao])), (bk, .inr (0, [.ref rk0, .ref rk1, .ref rk2, .ref rk3, .ref eak, .int 0])), (rk1, .inr (6, [.int 4, .int 5, .ref cak1, .int 0])), (ar, .inl (cr, 3, .inl (fun _ => 0))), (mo, .inr (12, [.ref nw, .ref kp, .ref ik, .ref mr, .long 0, .long 1, .ref mw, .long 0, .int 0, .int 0, .long 0, .long 0, .ref mq, .ref mz, .ref my, .int 0, .ref mb, .int 0, .int 0, .int 0, .int 0, .int 0, .ref mx, .ref mv])), (nw, .inl (cn, 350, .inl (fun _ => 0))), (mr, .inl (cm, 3, .inl (fun _ => 0)))] H) (hD : va_D A [(o, .inr (11, [.ref aw, .ref bk, .ref ai, .ref ak, .ref sc, .ref rd, .ref fo, .ref tx, .int 0, .ref ar, .ref atr, .ref ao])), (bk, .inr (0, [.ref rk0, .ref rk1, .ref rk2, .ref rk3, .ref eak, .int 0])), (rk1, .inr (6, [.int 4, .int 5, .ref cak1, .int 0])), (ar, .inl (cr, 3, .inl (fun _ => 0))), (mo, .inr (12, [.ref nw, .ref kp, .ref ik, .ref mr, .long 0, .long 1, .ref mw, .long 0, .int 0, .int 0, .long 0, .long 0, .ref mq, .ref mz, .ref my, .int 0, .ref mb, .int 0, .int 0, .int 0, .int 0, .int 0, .ref mx, .ref mv])), (nw, .inl (cn, 350, .inl (fun _ => 0))), (mr, .inl (cm, 3, .inl (fun _ => 0)))]) (hS : va_S A s.heap H locs) (ls : Array Slot) (hl : lv_has ls 4 [(3, .int 0), (2, .ref mo), (1, .ref o), (0, .ref b)]) : W p l e room_1 s m #[Value.ref b] below meth c H locs 136 3195 (lw_Z below #[Value.ref b] s) (F0 m 603 ls []) := by
  obtain ⟨hx, hb, hr, hml, hown, hts, hX, hbl, hlocks, hgv⟩ := C0
  have hb : c.code = cL_law := hb
  have hown : s.vm.findClass RL = some m.cls := hown
  refine lv_aload_n hx hb dL_law_603 rfl (lv_at hl 2 rfl) ?_
  refine lv_aload_n hx hb dL_law_604 rfl (lv_at hl 3 rfl) ?_
  refine lv_iload_n hx hb dL_law_605 rfl (lv_at hl 0 rfl) ?_
  refine lv_iconst (v := 1) hx hb dL_law_606 (by decide) ?_
  refine lv_iadd hx hb dL_law_607 ?_
  refine tz_i 1 (by decide) ?_
  refine va_sld hx hb hX hbl hbA hS (show ¬ ((1 : Int32) < 0 ∨ 6 ≤ (1 : Int32).toNatClampNeg) by decide) dL_law_608 ?_
  refine tz_i (xs 1) rfl ?_
  refine lv_aload_n hx hb dL_law_609 rfl (lv_at hl 3 rfl) ?_
  refine lv_iload_n hx hb dL_law_610 rfl (lv_at hl 0 rfl) ?_
  refine lv_iconst (v := 2) hx hb dL_law_611 (by decide) ?_
  refine lv_iadd hx hb dL_law_612 ?_
  refine tz_i 2 (by decide) ?_
  refine va_sld hx hb hX hbl hbA hS (show ¬ ((2 : Int32) < 0 ∨ 6 ≤ (2 : Int32).toNatClampNeg) by decide) dL_law_613 ?_
  refine tz_i (xs 2) rfl ?_
  have hPc := hP.sub (ws' := [(o, .inr (11, [.ref aw, .ref bk, .ref ai, .ref ak, .ref sc, .ref rd, .ref fo, .ref tx, .int 0, .ref ar, .ref atr, .ref ao])), (bk, .inr (0, [.ref rk0, .ref rk1, .ref rk2, .ref rk3, .ref eak, .int 0])), (rk1, .inr (6, [.int 4, .int 5, .ref cak1, .int 0])), (ar, .inl (cr, 3, .inl (fun _ => 0)))]) [0, 1, 2, 3] rfl
  have hDc := hD.sub (ws' := [(o, .inr (11, [.ref aw, .ref bk, .ref ai, .ref ak, .ref sc, .ref rd, .ref fo, .ref tx, .int 0, .ref ar, .ref atr, .ref ao])), (bk, .inr (0, [.ref rk0, .ref rk1, .ref rk2, .ref rk3, .ref eak, .int 0])), (rk1, .inr (6, [.int 4, .int 5, .ref cak1, .int 0])), (ar, .inl (cr, 3, .inl (fun _ => 0)))]) [0, 1, 2, 3] (by decide) rfl
  have hKc := hK.sub (tys' := [(cr, .int)]) [0] rfl
  have hFc := va_free (wc := [(o, .inr (11, [.ref aw, .ref bk, .ref ai, .ref ak, .ref sc, .ref rd, .ref fo, .ref tx, .int 0, .ref ar, .ref atr, .ref ao])), (bk, .inr (0, [.ref rk0, .ref rk1, .ref rk2, .ref rk3, .ref eak, .int 0])), (rk1, .inr (6, [.int 4, .int 5, .ref cak1, .int 0])), (ar, .inl (cr, 3, .inl (fun _ => 0)))]) hD hS hA [0, 1, 2, 3] rfl
  refine va_calli (va_runV (As := [.int (xs 1), .int (xs 2)]) (rest := []) ⟨hx, hb, hml, hown, hts⟩ (k_x_truly l dC dI o aw bk ai ak sc rd fo tx ar atr ao rk0 rk1 rk2 rk3 eak cak1 cr (xs 1) (xs 2) H.size) (cwV 2 hts gL_law_X11_truly rfl rfl rfl (by decide +kernel) ⟨Nat.le_of_ble_eq_true rfl, Nat.le_of_ble_eq_true rfl⟩) ⟨fun a U g mk q => by obtain ⟨q0, q1, qP, qK, qD⟩ := q; exact ⟨q0, q1, qP, va_K.moved (u := U) (U := U.calling g mk a) (Vm.Alike.refl U.vm) qK, qD⟩, va_recv hK hP (ci := 11) (q0 := 0) rfl rfl, fun U hU hW => ⟨rfl, by rw [hU], by rw [hU]; exact hPc, va_K.moved hW.alike hKc, hDc.weaken (fun _ _ _ _ => trivial)⟩⟩ rfl rfl hl.1 rfl (lv_room (Nat.le_of_ble_eq_true rfl)) dL_law_614 ⟨Nat.le_of_ble_eq_true rfl, Nat.le_of_ble_eq_true rfl⟩) hS (fun q _ h => hFc q h) hFc (fun r_1 u_ t H1 locs ht hvm hw_2 hB hz1 hk1 hS => ?_)
  obtain ⟨hP, hD⟩ := va_join (wr := [(mo, .inr (12, [.ref nw, .ref kp, .ref ik, .ref mr, .long 0, .long 1, .ref mw, .long 0, .int 0, .int 0, .long 0, .long 0, .ref mq, .ref mz, .ref my, .int 0, .ref mb, .int 0, .int 0, .int 0, .int 0, .int 0, .ref mx, .ref mv])), (nw, .inl (cn, 350, .inl (fun _ => 0))), (mr, .inl (cm, 3, .inl (fun _ => 0)))]) (w1 := []) hP hD [0, 1, 2, 3] [4, 5, 6] rfl rfl (by decide) (by decide) hk1 hFc tz_P0 tz_D0
  generalize H1 = H at hP hS ⊢
  have hP : va_P (dC, dI) vwCl [(mo, .inr (12, [.ref nw, .ref kp, .ref ik, .ref mr, .long 0, .long 1, .ref mw, .long 0, .int 0, .int 0, .long 0, .long 0, .ref mq, .ref mz, .ref my, .int 0, .ref mb, .int 0, .int 0, .int 0, .int 0, .int 0, .ref mx, .ref mv])), (nw, .inl (cn, 350, .inl (fun _ => 0))), (mr, .inl (cm, 3, .inl (fun _ => 0)))] H := hP
  have hD : va_D A [(mo, .inr (12, [.ref nw, .ref kp, .ref ik, .ref mr, .long 0, .long 1, .ref mw, .long 0, .int 0, .int 0, .long 0, .long 0, .ref mq, .ref mz, .ref my, .int 0, .ref mb, .int 0, .int 0, .int 0, .int 0, .int 0, .ref mx, .ref mv])), (nw, .inl (cn, 350, .inl (fun _ => 0))), (mr, .inl (cm, 3, .inl (fun _ => 0)))] := hD
  obtain rfl : (-2) = r_1 := hw_2.symm
  refine lv_aload_n hx hb dL_law_617 rfl (lv_at hl 1 rfl) ?_
  refine lv_aload_n hx hb dL_law_618 rfl (lv_at hl 3 rfl) ?_
  refine lv_iload_n hx hb dL_law_619 rfl (lv_at hl 0 rfl) ?_
  refine lv_iconst (v := 1) hx hb dL_law_620 (by decide) ?_
  refine lv_iadd hx hb dL_law_621 ?_
  refine tz_i 1 (by decide) ?_
  refine va_sld hx hb hX hbl hbA hS (show ¬ ((1 : Int32) < 0 ∨ 6 ≤ (1 : Int32).toNatClampNeg) by decide) dL_law_622 ?_
  refine tz_i (xs 1) rfl ?_
  refine lv_aload_n hx hb dL_law_623 rfl (lv_at hl 3 rfl) ?_
  refine lv_iload_n hx hb dL_law_624 rfl (lv_at hl 0 rfl) ?_
  refine lv_iconst (v := 2) hx hb dL_law_625 (by decide) ?_
  refine lv_iadd hx hb dL_law_626 ?_
  refine tz_i 2 (by decide) ?_
  refine va_sld hx hb hX hbl hbA hS (show ¬ ((2 : Int32) < 0 ∨ 6 ≤ (2 : Int32).toNatClampNeg) by decide) dL_law_627 ?_
  refine tz_i (xs 2) rfl ?_
  have hPc := hP.sub (ws' := [(mo, .inr (12, [.ref nw, .ref kp, .ref ik, .ref mr, .long 0, .long 1, .ref mw, .long 0, .int 0, .int 0, .long 0, .long 0, .ref mq, .ref mz, .ref my, .int 0, .ref mb, .int 0, .int 0, .int 0, .int 0, .int 0, .ref mx, .ref mv])), (nw, .inl (cn, 350, .inl (fun _ => 0))), (mr, .inl (cm, 3, .inl (fun _ => 0)))]) [0, 1, 2] rfl
  have hDc := hD.sub (ws' := [(mo, .inr (12, [.ref nw, .ref kp, .ref ik, .ref mr, .long 0, .long 1, .ref mw, .long 0, .int 0, .int 0, .long 0, .long 0, .ref mq, .ref mz, .ref my, .int 0, .ref mb, .int 0, .int 0, .int 0, .int 0, .int 0, .ref mx, .ref mv])), (nw, .inl (cn, 350, .inl (fun _ => 0))), (mr, .inl (cm, 3, .inl (fun _ => 0)))]) [0, 1, 2] (by decide) rfl
  have hKc := hK.sub (tys' := [(cn, .int), (cm, .int)]) [1, 2] rfl
  have hFc := va_free (wc := [(mo, .inr (12, [.ref nw, .ref kp, .ref ik, .ref mr, .long 0, .long 1, .ref mw, .long 0, .int 0, .int 0, .long 0, .long 0, .ref mq, .ref mz, .ref my, .int 0, .ref mb, .int 0, .int 0, .int 0, .int 0, .int 0, .ref mx, .ref mv])), (nw, .inl (cn, 350, .inl (fun _ => 0))), (mr, .inl (cm, 3, .inl (fun _ => 0)))]) hD hS hA [0, 1, 2] rfl
  refine va_calli (va_runV (As := [.int (xs 1), .int (xs 2)]) (rest := [.int (-2)]) ⟨hx, hb, hml, hown, hts⟩ (k_m_truly l dC dI mo nw kp ik mr mw mq mz my mb mx mv cn cm (xs 1) (xs 2) H.size) (cwV 2 hts gL_law_X12_truly rfl rfl rfl (by decide +kernel) ⟨Nat.le_of_ble_eq_true rfl, Nat.le_of_ble_eq_true rfl⟩) ⟨fun a U g mk q => by obtain ⟨q0, q1, qP, qK, qD⟩ := q; exact ⟨q0, q1, qP, va_K.moved (u := U) (U := U.calling g mk a) (Vm.Alike.refl U.vm) qK, qD⟩, va_recv hK hP (ci := 12) (q0 := 0) rfl rfl, fun U hU hW => ⟨rfl, by rw [hU], by rw [hU]; exact hPc, va_K.moved hW.alike hKc, hDc.weaken (fun _ _ _ _ => trivial)⟩⟩ rfl rfl hl.1 rfl (lv_room (Nat.le_of_ble_eq_true rfl)) dL_law_628 ⟨Nat.le_of_ble_eq_true rfl, Nat.le_of_ble_eq_true rfl⟩) hS (fun q _ h => hFc q h) hFc (fun r_3 u_ t H1 locs ht hvm hw_4 hB hz1 hk1 hS => ?_)
  obtain ⟨hP, hD⟩ := va_join (wr := []) (w1 := []) hP hD [0, 1, 2] [] rfl rfl (by decide) (by decide) hk1 hFc tz_P0 tz_D0
  generalize H1 = H at hP hS ⊢
  have hP : va_P (dC, dI) vwCl [] H := hP
  have hD : va_D A [] := hD
  obtain rfl : (-2) = r_3 := hw_4.symm
  refine lv_icmp_eq (tgt := 1155) hx hb dL_law_631 (by decide) (fun c_5 => ?_) (fun c_5 => ?_)
  · refine lv_iinc (v := 6) (lv' := [(3, .int 6), (2, .ref mo), (1, .ref o), (0, .ref b)]) hx hb dL_law_1155 hl (k := 0) rfl (by decide) (by decide) rfl (fun ls hl => ?_)
    refine lv_goto (tgt := 18) hx hb dL_law_1158 (by decide) ?_
    refine lv_iload_n hx hb dL_law_18 rfl (lv_at hl 0 rfl) ?_
    refine lv_aload_n hx hb dL_law_19 rfl (lv_at hl 3 rfl) ?_
    refine va_slen hx hb hX hbl hbA hS dL_law_20 ?_
    refine tz_i 6 rfl ?_
    refine lv_bipush (v := 6) hx hb dL_law_21 (by decide) ?_
    refine lv_isub hx hb dL_law_23 ?_
    refine tz_i 0 (by decide) ?_
    refine lv_icmp_gt (tgt := 1161) hx hb dL_law_24 (by decide) (fun c_6 => ?_) (fun c_6 => ?_)
    · refine lv_iconst (v := 1) hx hb dL_law_1161 (by decide) ?_
      refine va_forget (fun q hq => hA2 _ (hS.2.2 q hq)) ?_
      refine W.widen (k := 600000) (n := 7302250) (Nat.le_of_ble_eq_true rfl) (Nat.le_of_ble_eq_true rfl) ?_
      exact lw_ret hx hb hr hlocks dL_law_1162
    · exact absurd c_6 (by decide)
  · exact absurd c_5 (by decide)
set_option maxRecDepth 20000 in
theorem gL_law_X11_agreed : GoodIn lw_tbl (wsV RL 82 RX11 yX11_agreed wsX11_agreed) := tz_good [(31, 23), (32, 0), (32, 1), (0, 2), (32, 2), (1, 10), (5, 20), (11, 15), (10, 4), (10, 5), (10, 6), (3, 4), (10, 7), (3, 15), (7, 7), (7, 8), (7, 9), (0, 2), (7, 10), (7, 11), (7, 12), (7, 13), (7, 14), (2, 6), (5, 21), (5, 22), (5, 23), (6, 0), (10, 8), (10, 9), (10, 10), (10, 11), (3, 22), (3, 21), (8, 8), (8, 9), (8, 10), (8, 11), (46, 0), (46, 1), (46, 2), (46, 3), (46, 4), (46, 5), (46, 6), (46, 7), (46, 8), (46, 9), (46, 10), (46, 11), (54, 0), (54, 1), (54, 2), (54, 3), (54, 4), (54, 5), (58, 0), (58, 1), (58, 2), (58, 3)] (by decide +kernel) (by decide +kernel)
set_option maxRecDepth 20000 in
theorem gL_law_X12_agreed : GoodIn lw_tbl (wsV RL 85 RX12 yX12_agreed wsX12_agreed) := tz_good [(32, 3), (32, 4), (32, 5), (0, 5), (32, 6), (5, 4), (10, 20), (10, 21), (10, 22), (0, 5), (10, 23), (8, 17), (8, 18), (8, 19), (8, 20), (8, 21), (8, 22), (8, 23), (5, 7), (28, 10), (28, 11), (28, 12), (28, 13), (47, 0), (47, 1), (47, 2), (47, 3), (47, 4), (47, 5), (47, 6), (47, 7), (47, 8), (47, 9), (47, 10), (47, 11), (47, 12), (47, 13), (47, 14), (47, 15), (47, 16), (47, 17), (47, 18), (47, 19), (47, 20), (47, 21), (47, 22), (47, 23)] (by decide +kernel) (by decide +kernel)
theorem dL_law_636 : decode cL_law 636 = .ok (.aload_n 1, 1) := by decide +kernel
theorem dL_law_637 : decode cL_law 637 = .ok (.aload_n 0, 1) := by decide +kernel
theorem dL_law_638 : decode cL_law 638 = .ok (.iload_n 3, 1) := by decide +kernel
theorem dL_law_639 : decode cL_law 639 = .ok (.iconst 1, 1) := by decide +kernel
theorem dL_law_640 : decode cL_law 640 = .ok (.iadd, 1) := by decide +kernel
theorem dL_law_641 : decode cL_law 641 = .ok (.iaload, 1) := by decide +kernel
theorem dL_law_642 : decode cL_law 642 = .ok (.invokevirtual 82, 3) := by decide +kernel
theorem dL_law_645 : decode cL_law 645 = .ok (.aload_n 2, 1) := by decide +kernel
theorem dL_law_646 : decode cL_law 646 = .ok (.aload_n 0, 1) := by decide +kernel
theorem dL_law_647 : decode cL_law 647 = .ok (.iload_n 3, 1) := by decide +kernel
theorem dL_law_648 : decode cL_law 648 = .ok (.iconst 1, 1) := by decide +kernel
theorem dL_law_649 : decode cL_law 649 = .ok (.iadd, 1) := by decide +kernel
theorem dL_law_650 : decode cL_law 650 = .ok (.iaload, 1) := by decide +kernel
theorem dL_law_651 : decode cL_law 651 = .ok (.invokevirtual 85, 3) := by decide +kernel
theorem dL_law_654 : decode cL_law 654 = .ok (.if_icmp .eq 501, 3) := by decide +kernel
set_option maxHeartbeats 4000000 in
set_option maxRecDepth 100000 in
theorem lc_agreed {p : Program} {l : Launch} {e : Env} {s : State} {m : MethodId} {below : List Frame} {meth : Method} {c : Code} {b : Nat} {xs : Nat → Int32} (C0 : lw_At p s m meth c b 6 xs) (hN : tz_N s) (A : Nat → Prop) (hA : ∀ q : Nat, s.heap.size ≤ q → A q) (hA2 : ∀ q : Nat, A q → s.heap.size ≤ q) (hbA : ¬ A b) (dC : Nat → ClassId) (dI : Nat → Nat → Nat) (o : Nat) (aw : Nat) (bk : Nat) (ai : Nat) (ak : Nat) (sc : Nat) (rd : Nat) (fo : Nat) (tx : Nat) (ar : Nat) (atr : Nat) (ao : Nat) (rk0 : Nat) (rk1 : Nat) (rk2 : Nat) (rk3 : Nat) (eak : Nat) (cak1 : Nat) (cr : ClassId) (mo : Nat) (nw : Nat) (kp : Nat) (ik : Nat) (mr : Nat) (mw : Nat) (mq : Nat) (mz : Nat) (my : Nat) (mb : Nat) (mx : Nat) (mv : Nat) (cn : ClassId) (cm : ClassId) (H : Heap) (locs : List Loc) (hK : va_K (dC, dI) vwCl [(cr, .int), (cn, .int), (cm, .int)] s) (hP : va_P (dC, dI) vwCl [(o, .inr (11, [.ref aw, .ref bk, .ref ai, .ref ak, .ref sc, .ref rd, .ref fo, .ref tx, .int 0, .ref ar, .ref atr, .ref ao])), (bk, .inr (0, [.ref rk0, .ref rk1, .ref rk2, .ref rk3, .ref eak, .int 0])), (rk1, .inr (6, [.int 4, .int 5, .ref cak1, .int 0])), (ar, .inl (cr, 3, .inl (fun _ => 0))), (mo, .inr (12, [.ref nw, .ref kp, .ref ik, .ref mr, .long 0, .long 1, .ref mw, .long 0, .int 0, .int 0, .long 0, .long 0, .ref mq, .ref mz, .ref my, .int 0, .ref mb, .int 0, .int 0, .int 0, .int 0, .int 0, .ref mx, .ref mv])), (nw, .inl (cn, 350, .inl (fun _ => 0))), (mr, .inl (cm, 3, .inl (fun _ => 0)))] H) (hD : va_D A [(o, .inr (11, [.ref aw, .ref bk, .ref ai, .ref ak, .ref sc, .ref rd, .ref fo, .ref tx, .int 0, .ref ar, .ref atr, .ref ao])), (bk, .inr (0, [.ref rk0, .ref rk1, .ref rk2, .ref rk3, .ref eak, .int 0])), (rk1, .inr (6, [.int 4, .int 5, .ref cak1, .int 0])), (ar, .inl (cr, 3, .inl (fun _ => 0))), (mo, .inr (12, [.ref nw, .ref kp, .ref ik, .ref mr, .long 0, .long 1, .ref mw, .long 0, .int 0, .int 0, .long 0, .long 0, .ref mq, .ref mz, .ref my, .int 0, .ref mb, .int 0, .int 0, .int 0, .int 0, .int 0, .ref mx, .ref mv])), (nw, .inl (cn, 350, .inl (fun _ => 0))), (mr, .inl (cm, 3, .inl (fun _ => 0)))]) (hS : va_S A s.heap H locs) (ls : Array Slot) (hl : lv_has ls 4 [(3, .int 0), (2, .ref mo), (1, .ref o), (0, .ref b)]) : W p l e room_1 s m #[Value.ref b] below meth c H locs 136 3195 (lw_Z below #[Value.ref b] s) (F0 m 636 ls []) := by
  obtain ⟨hx, hb, hr, hml, hown, hts, hX, hbl, hlocks, hgv⟩ := C0
  have hb : c.code = cL_law := hb
  have hown : s.vm.findClass RL = some m.cls := hown
  refine lv_aload_n hx hb dL_law_636 rfl (lv_at hl 2 rfl) ?_
  refine lv_aload_n hx hb dL_law_637 rfl (lv_at hl 3 rfl) ?_
  refine lv_iload_n hx hb dL_law_638 rfl (lv_at hl 0 rfl) ?_
  refine lv_iconst (v := 1) hx hb dL_law_639 (by decide) ?_
  refine lv_iadd hx hb dL_law_640 ?_
  refine tz_i 1 (by decide) ?_
  refine va_sld hx hb hX hbl hbA hS (show ¬ ((1 : Int32) < 0 ∨ 6 ≤ (1 : Int32).toNatClampNeg) by decide) dL_law_641 ?_
  refine tz_i (xs 1) rfl ?_
  have hPc := hP.sub (ws' := [(o, .inr (11, [.ref aw, .ref bk, .ref ai, .ref ak, .ref sc, .ref rd, .ref fo, .ref tx, .int 0, .ref ar, .ref atr, .ref ao])), (bk, .inr (0, [.ref rk0, .ref rk1, .ref rk2, .ref rk3, .ref eak, .int 0])), (rk1, .inr (6, [.int 4, .int 5, .ref cak1, .int 0])), (ar, .inl (cr, 3, .inl (fun _ => 0)))]) [0, 1, 2, 3] rfl
  have hDc := hD.sub (ws' := [(o, .inr (11, [.ref aw, .ref bk, .ref ai, .ref ak, .ref sc, .ref rd, .ref fo, .ref tx, .int 0, .ref ar, .ref atr, .ref ao])), (bk, .inr (0, [.ref rk0, .ref rk1, .ref rk2, .ref rk3, .ref eak, .int 0])), (rk1, .inr (6, [.int 4, .int 5, .ref cak1, .int 0])), (ar, .inl (cr, 3, .inl (fun _ => 0)))]) [0, 1, 2, 3] (by decide) rfl
  have hKc := hK.sub (tys' := [(cr, .int)]) [0] rfl
  have hFc := va_free (wc := [(o, .inr (11, [.ref aw, .ref bk, .ref ai, .ref ak, .ref sc, .ref rd, .ref fo, .ref tx, .int 0, .ref ar, .ref atr, .ref ao])), (bk, .inr (0, [.ref rk0, .ref rk1, .ref rk2, .ref rk3, .ref eak, .int 0])), (rk1, .inr (6, [.int 4, .int 5, .ref cak1, .int 0])), (ar, .inl (cr, 3, .inl (fun _ => 0)))]) hD hS hA [0, 1, 2, 3] rfl
  refine va_calli (va_runV (As := [.int (xs 1)]) (rest := []) ⟨hx, hb, hml, hown, hts⟩ (k_x_agreed l dC dI o aw bk ai ak sc rd fo tx ar atr ao rk0 rk1 rk2 rk3 eak cak1 cr (xs 1) H.size) (cwV 1 hts gL_law_X11_agreed rfl rfl rfl (by decide +kernel) ⟨Nat.le_of_ble_eq_true rfl, Nat.le_of_ble_eq_true rfl⟩) ⟨fun a U g mk q => by obtain ⟨q0, q1, qP, qK, qD⟩ := q; exact ⟨q0, q1, qP, va_K.moved (u := U) (U := U.calling g mk a) (Vm.Alike.refl U.vm) qK, qD⟩, va_recv hK hP (ci := 11) (q0 := 0) rfl rfl, fun U hU hW => ⟨rfl, by rw [hU], by rw [hU]; exact hPc, va_K.moved hW.alike hKc, hDc.weaken (fun _ _ _ _ => trivial)⟩⟩ rfl rfl hl.1 rfl (lv_room (Nat.le_of_ble_eq_true rfl)) dL_law_642 ⟨Nat.le_of_ble_eq_true rfl, Nat.le_of_ble_eq_true rfl⟩) hS (fun q _ h => hFc q h) hFc (fun r_1 u_ t H1 locs ht hvm hw_2 hB hz1 hk1 hS => ?_)
  obtain ⟨hP, hD⟩ := va_join (wr := [(mo, .inr (12, [.ref nw, .ref kp, .ref ik, .ref mr, .long 0, .long 1, .ref mw, .long 0, .int 0, .int 0, .long 0, .long 0, .ref mq, .ref mz, .ref my, .int 0, .ref mb, .int 0, .int 0, .int 0, .int 0, .int 0, .ref mx, .ref mv])), (nw, .inl (cn, 350, .inl (fun _ => 0))), (mr, .inl (cm, 3, .inl (fun _ => 0)))]) (w1 := []) hP hD [0, 1, 2, 3] [4, 5, 6] rfl rfl (by decide) (by decide) hk1 hFc tz_P0 tz_D0
  generalize H1 = H at hP hS ⊢
  have hP : va_P (dC, dI) vwCl [(mo, .inr (12, [.ref nw, .ref kp, .ref ik, .ref mr, .long 0, .long 1, .ref mw, .long 0, .int 0, .int 0, .long 0, .long 0, .ref mq, .ref mz, .ref my, .int 0, .ref mb, .int 0, .int 0, .int 0, .int 0, .int 0, .ref mx, .ref mv])), (nw, .inl (cn, 350, .inl (fun _ => 0))), (mr, .inl (cm, 3, .inl (fun _ => 0)))] H := hP
  have hD : va_D A [(mo, .inr (12, [.ref nw, .ref kp, .ref ik, .ref mr, .long 0, .long 1, .ref mw, .long 0, .int 0, .int 0, .long 0, .long 0, .ref mq, .ref mz, .ref my, .int 0, .ref mb, .int 0, .int 0, .int 0, .int 0, .int 0, .ref mx, .ref mv])), (nw, .inl (cn, 350, .inl (fun _ => 0))), (mr, .inl (cm, 3, .inl (fun _ => 0)))] := hD
  obtain rfl : (-2) = r_1 := hw_2.symm
  refine lv_aload_n hx hb dL_law_645 rfl (lv_at hl 1 rfl) ?_
  refine lv_aload_n hx hb dL_law_646 rfl (lv_at hl 3 rfl) ?_
  refine lv_iload_n hx hb dL_law_647 rfl (lv_at hl 0 rfl) ?_
  refine lv_iconst (v := 1) hx hb dL_law_648 (by decide) ?_
  refine lv_iadd hx hb dL_law_649 ?_
  refine tz_i 1 (by decide) ?_
  refine va_sld hx hb hX hbl hbA hS (show ¬ ((1 : Int32) < 0 ∨ 6 ≤ (1 : Int32).toNatClampNeg) by decide) dL_law_650 ?_
  refine tz_i (xs 1) rfl ?_
  have hPc := hP.sub (ws' := [(mo, .inr (12, [.ref nw, .ref kp, .ref ik, .ref mr, .long 0, .long 1, .ref mw, .long 0, .int 0, .int 0, .long 0, .long 0, .ref mq, .ref mz, .ref my, .int 0, .ref mb, .int 0, .int 0, .int 0, .int 0, .int 0, .ref mx, .ref mv])), (nw, .inl (cn, 350, .inl (fun _ => 0))), (mr, .inl (cm, 3, .inl (fun _ => 0)))]) [0, 1, 2] rfl
  have hDc := hD.sub (ws' := [(mo, .inr (12, [.ref nw, .ref kp, .ref ik, .ref mr, .long 0, .long 1, .ref mw, .long 0, .int 0, .int 0, .long 0, .long 0, .ref mq, .ref mz, .ref my, .int 0, .ref mb, .int 0, .int 0, .int 0, .int 0, .int 0, .ref mx, .ref mv])), (nw, .inl (cn, 350, .inl (fun _ => 0))), (mr, .inl (cm, 3, .inl (fun _ => 0)))]) [0, 1, 2] (by decide) rfl
  have hKc := hK.sub (tys' := [(cn, .int), (cm, .int)]) [1, 2] rfl
  have hFc := va_free (wc := [(mo, .inr (12, [.ref nw, .ref kp, .ref ik, .ref mr, .long 0, .long 1, .ref mw, .long 0, .int 0, .int 0, .long 0, .long 0, .ref mq, .ref mz, .ref my, .int 0, .ref mb, .int 0, .int 0, .int 0, .int 0, .int 0, .ref mx, .ref mv])), (nw, .inl (cn, 350, .inl (fun _ => 0))), (mr, .inl (cm, 3, .inl (fun _ => 0)))]) hD hS hA [0, 1, 2] rfl
  refine va_calli (va_runV (As := [.int (xs 1)]) (rest := [.int (-2)]) ⟨hx, hb, hml, hown, hts⟩ (k_m_agreed l dC dI mo nw kp ik mr mw mq mz my mb mx mv cn cm (xs 1) H.size) (cwV 1 hts gL_law_X12_agreed rfl rfl rfl (by decide +kernel) ⟨Nat.le_of_ble_eq_true rfl, Nat.le_of_ble_eq_true rfl⟩) ⟨fun a U g mk q => by obtain ⟨q0, q1, qP, qK, qD⟩ := q; exact ⟨q0, q1, qP, va_K.moved (u := U) (U := U.calling g mk a) (Vm.Alike.refl U.vm) qK, qD⟩, va_recv hK hP (ci := 12) (q0 := 0) rfl rfl, fun U hU hW => ⟨rfl, by rw [hU], by rw [hU]; exact hPc, va_K.moved hW.alike hKc, hDc.weaken (fun _ _ _ _ => trivial)⟩⟩ rfl rfl hl.1 rfl (lv_room (Nat.le_of_ble_eq_true rfl)) dL_law_651 ⟨Nat.le_of_ble_eq_true rfl, Nat.le_of_ble_eq_true rfl⟩) hS (fun q _ h => hFc q h) hFc (fun r_3 u_ t H1 locs ht hvm hw_4 hB hz1 hk1 hS => ?_)
  obtain ⟨hP, hD⟩ := va_join (wr := []) (w1 := []) hP hD [0, 1, 2] [] rfl rfl (by decide) (by decide) hk1 hFc tz_P0 tz_D0
  generalize H1 = H at hP hS ⊢
  have hP : va_P (dC, dI) vwCl [] H := hP
  have hD : va_D A [] := hD
  obtain rfl : (-2) = r_3 := hw_4.symm
  refine lv_icmp_eq (tgt := 1155) hx hb dL_law_654 (by decide) (fun c_5 => ?_) (fun c_5 => ?_)
  · refine lv_iinc (v := 6) (lv' := [(3, .int 6), (2, .ref mo), (1, .ref o), (0, .ref b)]) hx hb dL_law_1155 hl (k := 0) rfl (by decide) (by decide) rfl (fun ls hl => ?_)
    refine lv_goto (tgt := 18) hx hb dL_law_1158 (by decide) ?_
    refine lv_iload_n hx hb dL_law_18 rfl (lv_at hl 0 rfl) ?_
    refine lv_aload_n hx hb dL_law_19 rfl (lv_at hl 3 rfl) ?_
    refine va_slen hx hb hX hbl hbA hS dL_law_20 ?_
    refine tz_i 6 rfl ?_
    refine lv_bipush (v := 6) hx hb dL_law_21 (by decide) ?_
    refine lv_isub hx hb dL_law_23 ?_
    refine tz_i 0 (by decide) ?_
    refine lv_icmp_gt (tgt := 1161) hx hb dL_law_24 (by decide) (fun c_6 => ?_) (fun c_6 => ?_)
    · refine lv_iconst (v := 1) hx hb dL_law_1161 (by decide) ?_
      refine va_forget (fun q hq => hA2 _ (hS.2.2 q hq)) ?_
      refine W.widen (k := 600000) (n := 7302250) (Nat.le_of_ble_eq_true rfl) (Nat.le_of_ble_eq_true rfl) ?_
      exact lw_ret hx hb hr hlocks dL_law_1162
    · exact absurd c_6 (by decide)
  · exact absurd c_5 (by decide)
set_option maxRecDepth 20000 in
theorem gL_law_X11_believe : GoodIn lw_tbl (wsV RL 86 RX11 yX11_believe wsX11_believe) := tz_good [(32, 7), (32, 8), (32, 9), (0, 2), (32, 10), (1, 10), (11, 15), (7, 3), (5, 21), (5, 22), (5, 23), (3, 4), (6, 0), (3, 15), (32, 11), (32, 12), (32, 13), (0, 2), (32, 14), (5, 20), (2, 7), (1, 17), (1, 6), (29, 9), (29, 10), (29, 11), (1, 16), (29, 12), (4, 3), (29, 13), (29, 14), (29, 15), (29, 16), (29, 17), (29, 18), (29, 19), (10, 9), (10, 10), (10, 11), (3, 22), (3, 21), (8, 8), (8, 9), (8, 10), (8, 11), (29, 20), (29, 21), (29, 22), (29, 23), (30, 0), (4, 4), (30, 1), (24, 1), (24, 2), (24, 3), (24, 4), (0, 17), (24, 5), (24, 6), (24, 7), (24, 2), (0, 14), (24, 9), (24, 10), (24, 11), (0, 23), (24, 12), (24, 13), (24, 14), (24, 15), (24, 16), (0, 20), (24, 17), (30, 1), (24, 19), (24, 20), (24, 21), (1, 5), (24, 22), (24, 23), (25, 0), (25, 1), (25, 2), (1, 2), (25, 3), (25, 4), (25, 5), (25, 6), (25, 7), (31, 11), (31, 12), (31, 13), (31, 14), (32, 15), (32, 16), (32, 17), (32, 18), (10, 8), (46, 0), (46, 1), (46, 2), (46, 3), (46, 4), (46, 5), (46, 6), (46, 7), (46, 8), (46, 9), (46, 10), (46, 11), (54, 0), (54, 1), (54, 2), (54, 3), (54, 4), (54, 5), (58, 0), (58, 1), (58, 2), (58, 3), (55, 0), (55, 1)] (by decide +kernel) (by decide +kernel)
set_option maxRecDepth 20000 in
theorem gL_law_X12_believe : GoodIn lw_tbl (wsV RL 89 RX12 yX12_believe wsX12_believe) := tz_good [(32, 19), (32, 20), (32, 21), (0, 5), (32, 22), (5, 4), (32, 23), (33, 0), (33, 1), (0, 5), (33, 2), (30, 20), (28, 10), (28, 11), (28, 12), (28, 13), (30, 16), (30, 17), (30, 18), (30, 19), (30, 15), (30, 21), (5, 9), (30, 22), (30, 23), (31, 0), (31, 1), (11, 4), (11, 5), (11, 6), (11, 7), (8, 17), (8, 18), (8, 19), (27, 1), (27, 2), (27, 3), (27, 4), (27, 5), (27, 6), (27, 7), (27, 8), (27, 9), (27, 10), (27, 11), (27, 12), (27, 13), (27, 14), (47, 0), (47, 1), (47, 2), (47, 3), (47, 4), (47, 5), (47, 6), (47, 7), (47, 8), (47, 9), (47, 10), (47, 11), (47, 12), (47, 13), (47, 14), (47, 15), (47, 16), (47, 17), (47, 18), (47, 19), (47, 20), (47, 21), (47, 22), (47, 23)] (by decide +kernel) (by decide +kernel)
theorem dL_law_659 : decode cL_law 659 = .ok (.aload_n 1, 1) := by decide +kernel
theorem dL_law_660 : decode cL_law 660 = .ok (.invokevirtual 86, 3) := by decide +kernel
theorem dL_law_663 : decode cL_law 663 = .ok (.aload_n 2, 1) := by decide +kernel
theorem dL_law_664 : decode cL_law 664 = .ok (.invokevirtual 89, 3) := by decide +kernel
theorem dL_law_667 : decode cL_law 667 = .ok (.if_icmp .eq 488, 3) := by decide +kernel
set_option maxHeartbeats 4000000 in
set_option maxRecDepth 100000 in
theorem lc_believe {p : Program} {l : Launch} {e : Env} {s : State} {m : MethodId} {below : List Frame} {meth : Method} {c : Code} {b : Nat} {xs : Nat → Int32} (C0 : lw_At p s m meth c b 6 xs) (hN : tz_N s) (A : Nat → Prop) (hA : ∀ q : Nat, s.heap.size ≤ q → A q) (hA2 : ∀ q : Nat, A q → s.heap.size ≤ q) (hbA : ¬ A b) (dC : Nat → ClassId) (dI : Nat → Nat → Nat) (o : Nat) (aw : Nat) (bk : Nat) (ai : Nat) (ak : Nat) (sc : Nat) (rd : Nat) (fo : Nat) (tx : Nat) (ar : Nat) (atr : Nat) (ao : Nat) (rk0 : Nat) (rk1 : Nat) (rk2 : Nat) (rk3 : Nat) (eak : Nat) (cak2 : Nat) (mo : Nat) (nw : Nat) (kp : Nat) (ik : Nat) (mr : Nat) (mw : Nat) (mq : Nat) (mz : Nat) (my : Nat) (mb : Nat) (mx : Nat) (mv : Nat) (cn : ClassId) (H : Heap) (locs : List Loc) (hK : va_K (dC, dI) vwCl [(cn, .int)] s) (hP : va_P (dC, dI) vwCl [(o, .inr (11, [.ref aw, .ref bk, .ref ai, .ref ak, .ref sc, .ref rd, .ref fo, .ref tx, .int 0, .ref ar, .ref atr, .ref ao])), (bk, .inr (0, [.ref rk0, .ref rk1, .ref rk2, .ref rk3, .ref eak, .int 0])), (rk2, .inr (6, [.int 4, .int 8, .ref cak2, .int 0])), (mo, .inr (12, [.ref nw, .ref kp, .ref ik, .ref mr, .long 0, .long 1, .ref mw, .long 0, .int 0, .int 0, .long 0, .long 0, .ref mq, .ref mz, .ref my, .int 0, .ref mb, .int 0, .int 0, .int 0, .int 0, .int 0, .ref mx, .ref mv])), (nw, .inl (cn, 350, .inl (fun _ => 0)))] H) (hD : va_D A [(o, .inr (11, [.ref aw, .ref bk, .ref ai, .ref ak, .ref sc, .ref rd, .ref fo, .ref tx, .int 0, .ref ar, .ref atr, .ref ao])), (bk, .inr (0, [.ref rk0, .ref rk1, .ref rk2, .ref rk3, .ref eak, .int 0])), (rk2, .inr (6, [.int 4, .int 8, .ref cak2, .int 0])), (mo, .inr (12, [.ref nw, .ref kp, .ref ik, .ref mr, .long 0, .long 1, .ref mw, .long 0, .int 0, .int 0, .long 0, .long 0, .ref mq, .ref mz, .ref my, .int 0, .ref mb, .int 0, .int 0, .int 0, .int 0, .int 0, .ref mx, .ref mv])), (nw, .inl (cn, 350, .inl (fun _ => 0)))]) (hS : va_S A s.heap H locs) (ls : Array Slot) (hl : lv_has ls 4 [(3, .int 0), (2, .ref mo), (1, .ref o), (0, .ref b)]) : W p l e room_1 s m #[Value.ref b] below meth c H locs 136 3195 (lw_Z below #[Value.ref b] s) (F0 m 659 ls []) := by
  obtain ⟨hx, hb, hr, hml, hown, hts, hX, hbl, hlocks, hgv⟩ := C0
  have hb : c.code = cL_law := hb
  have hown : s.vm.findClass RL = some m.cls := hown
  refine lv_aload_n hx hb dL_law_659 rfl (lv_at hl 2 rfl) ?_
  have hPc := hP.sub (ws' := [(o, .inr (11, [.ref aw, .ref bk, .ref ai, .ref ak, .ref sc, .ref rd, .ref fo, .ref tx, .int 0, .ref ar, .ref atr, .ref ao])), (bk, .inr (0, [.ref rk0, .ref rk1, .ref rk2, .ref rk3, .ref eak, .int 0])), (rk2, .inr (6, [.int 4, .int 8, .ref cak2, .int 0]))]) [0, 1, 2] rfl
  have hDc := hD.sub (ws' := [(o, .inr (11, [.ref aw, .ref bk, .ref ai, .ref ak, .ref sc, .ref rd, .ref fo, .ref tx, .int 0, .ref ar, .ref atr, .ref ao])), (bk, .inr (0, [.ref rk0, .ref rk1, .ref rk2, .ref rk3, .ref eak, .int 0])), (rk2, .inr (6, [.int 4, .int 8, .ref cak2, .int 0]))]) [0, 1, 2] (by decide) rfl
  have hKc := hK.sub (tys' := []) [] rfl
  have hFc := va_free (wc := [(o, .inr (11, [.ref aw, .ref bk, .ref ai, .ref ak, .ref sc, .ref rd, .ref fo, .ref tx, .int 0, .ref ar, .ref atr, .ref ao])), (bk, .inr (0, [.ref rk0, .ref rk1, .ref rk2, .ref rk3, .ref eak, .int 0])), (rk2, .inr (6, [.int 4, .int 8, .ref cak2, .int 0]))]) hD hS hA [0, 1, 2] rfl
  refine va_calli (va_runV (As := []) (rest := []) ⟨hx, hb, hml, hown, hts⟩ (k_x_believe l dC dI o aw bk ai ak sc rd fo tx ar atr ao rk0 rk1 rk2 rk3 eak cak2 H.size) (cwV 0 hts gL_law_X11_believe rfl rfl rfl (by decide +kernel) ⟨Nat.le_of_ble_eq_true rfl, Nat.le_of_ble_eq_true rfl⟩) ⟨fun a U g mk q => by obtain ⟨q0, q1, qP, qK, qD⟩ := q; exact ⟨q0, q1, qP, va_K.moved (u := U) (U := U.calling g mk a) (Vm.Alike.refl U.vm) qK, qD⟩, va_recv hK hP (ci := 11) (q0 := 0) rfl rfl, fun U hU hW => ⟨rfl, by rw [hU], by rw [hU]; exact hPc, va_K.moved hW.alike hKc, hDc.weaken (fun _ _ _ _ => trivial)⟩⟩ rfl rfl hl.1 rfl (lv_room (Nat.le_of_ble_eq_true rfl)) dL_law_660 ⟨Nat.le_of_ble_eq_true rfl, Nat.le_of_ble_eq_true rfl⟩) hS (fun q _ h => hFc q h) hFc (fun r_1 u_ t H1 locs ht hvm hw_2 hB hz1 hk1 hS => ?_)
  obtain ⟨hP, hD⟩ := va_join (wr := [(mo, .inr (12, [.ref nw, .ref kp, .ref ik, .ref mr, .long 0, .long 1, .ref mw, .long 0, .int 0, .int 0, .long 0, .long 0, .ref mq, .ref mz, .ref my, .int 0, .ref mb, .int 0, .int 0, .int 0, .int 0, .int 0, .ref mx, .ref mv])), (nw, .inl (cn, 350, .inl (fun _ => 0)))]) (w1 := []) hP hD [0, 1, 2] [3, 4] rfl rfl (by decide) (by decide) hk1 hFc tz_P0 tz_D0
  generalize H1 = H at hP hS ⊢
  have hP : va_P (dC, dI) vwCl [(mo, .inr (12, [.ref nw, .ref kp, .ref ik, .ref mr, .long 0, .long 1, .ref mw, .long 0, .int 0, .int 0, .long 0, .long 0, .ref mq, .ref mz, .ref my, .int 0, .ref mb, .int 0, .int 0, .int 0, .int 0, .int 0, .ref mx, .ref mv])), (nw, .inl (cn, 350, .inl (fun _ => 0)))] H := hP
  have hD : va_D A [(mo, .inr (12, [.ref nw, .ref kp, .ref ik, .ref mr, .long 0, .long 1, .ref mw, .long 0, .int 0, .int 0, .long 0, .long 0, .ref mq, .ref mz, .ref my, .int 0, .ref mb, .int 0, .int 0, .int 0, .int 0, .int 0, .ref mx, .ref mv])), (nw, .inl (cn, 350, .inl (fun _ => 0)))] := hD
  obtain rfl : (-1) = r_1 := hw_2.symm
  refine lv_aload_n hx hb dL_law_663 rfl (lv_at hl 1 rfl) ?_
  have hPc := hP.sub (ws' := [(mo, .inr (12, [.ref nw, .ref kp, .ref ik, .ref mr, .long 0, .long 1, .ref mw, .long 0, .int 0, .int 0, .long 0, .long 0, .ref mq, .ref mz, .ref my, .int 0, .ref mb, .int 0, .int 0, .int 0, .int 0, .int 0, .ref mx, .ref mv])), (nw, .inl (cn, 350, .inl (fun _ => 0)))]) [0, 1] rfl
  have hDc := hD.sub (ws' := [(mo, .inr (12, [.ref nw, .ref kp, .ref ik, .ref mr, .long 0, .long 1, .ref mw, .long 0, .int 0, .int 0, .long 0, .long 0, .ref mq, .ref mz, .ref my, .int 0, .ref mb, .int 0, .int 0, .int 0, .int 0, .int 0, .ref mx, .ref mv])), (nw, .inl (cn, 350, .inl (fun _ => 0)))]) [0, 1] (by decide) rfl
  have hKc := hK.sub (tys' := [(cn, .int)]) [0] rfl
  have hFc := va_free (wc := [(mo, .inr (12, [.ref nw, .ref kp, .ref ik, .ref mr, .long 0, .long 1, .ref mw, .long 0, .int 0, .int 0, .long 0, .long 0, .ref mq, .ref mz, .ref my, .int 0, .ref mb, .int 0, .int 0, .int 0, .int 0, .int 0, .ref mx, .ref mv])), (nw, .inl (cn, 350, .inl (fun _ => 0)))]) hD hS hA [0, 1] rfl
  refine va_calli (va_runV (As := []) (rest := [.int (-1)]) ⟨hx, hb, hml, hown, hts⟩ (k_m_believe l dC dI mo nw kp ik mr mw mq mz my mb mx mv cn H.size) (cwV 0 hts gL_law_X12_believe rfl rfl rfl (by decide +kernel) ⟨Nat.le_of_ble_eq_true rfl, Nat.le_of_ble_eq_true rfl⟩) ⟨fun a U g mk q => by obtain ⟨q0, q1, qP, qK, qD⟩ := q; exact ⟨q0, q1, qP, va_K.moved (u := U) (U := U.calling g mk a) (Vm.Alike.refl U.vm) qK, qD⟩, va_recv hK hP (ci := 12) (q0 := 0) rfl rfl, fun U hU hW => ⟨rfl, by rw [hU], by rw [hU]; exact hPc, va_K.moved hW.alike hKc, hDc.weaken (fun _ _ _ _ => trivial)⟩⟩ rfl rfl hl.1 rfl (lv_room (Nat.le_of_ble_eq_true rfl)) dL_law_664 ⟨Nat.le_of_ble_eq_true rfl, Nat.le_of_ble_eq_true rfl⟩) hS (fun q _ h => hFc q h) hFc (fun r_3 u_ t H1 locs ht hvm hw_4 hB hz1 hk1 hS => ?_)
  obtain ⟨hP, hD⟩ := va_join (wr := []) (w1 := []) hP hD [0, 1] [] rfl rfl (by decide) (by decide) hk1 hFc tz_P0 tz_D0
  generalize H1 = H at hP hS ⊢
  have hP : va_P (dC, dI) vwCl [] H := hP
  have hD : va_D A [] := hD
  obtain rfl : (-1) = r_3 := hw_4.symm
  refine lv_icmp_eq (tgt := 1155) hx hb dL_law_667 (by decide) (fun c_5 => ?_) (fun c_5 => ?_)
  · refine lv_iinc (v := 6) (lv' := [(3, .int 6), (2, .ref mo), (1, .ref o), (0, .ref b)]) hx hb dL_law_1155 hl (k := 0) rfl (by decide) (by decide) rfl (fun ls hl => ?_)
    refine lv_goto (tgt := 18) hx hb dL_law_1158 (by decide) ?_
    refine lv_iload_n hx hb dL_law_18 rfl (lv_at hl 0 rfl) ?_
    refine lv_aload_n hx hb dL_law_19 rfl (lv_at hl 3 rfl) ?_
    refine va_slen hx hb hX hbl hbA hS dL_law_20 ?_
    refine tz_i 6 rfl ?_
    refine lv_bipush (v := 6) hx hb dL_law_21 (by decide) ?_
    refine lv_isub hx hb dL_law_23 ?_
    refine tz_i 0 (by decide) ?_
    refine lv_icmp_gt (tgt := 1161) hx hb dL_law_24 (by decide) (fun c_6 => ?_) (fun c_6 => ?_)
    · refine lv_iconst (v := 1) hx hb dL_law_1161 (by decide) ?_
      refine va_forget (fun q hq => hA2 _ (hS.2.2 q hq)) ?_
      refine W.widen (k := 600000) (n := 7302250) (Nat.le_of_ble_eq_true rfl) (Nat.le_of_ble_eq_true rfl) ?_
      exact lw_ret hx hb hr hlocks dL_law_1162
    · exact absurd c_6 (by decide)
  · exact absurd c_5 (by decide)
