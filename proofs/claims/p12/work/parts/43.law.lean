set_option maxRecDepth 20000 in
theorem gL_law_X11_bank : GoodIn lw_tbl (wsV RL 13 RX11 yX11_bank wsX11_bank) := tz_good [(5, 16), (5, 17), (5, 18), (0, 2), (5, 19), (1, 10), (5, 20), (2, 4), (2, 1), (1, 13), (2, 6), (5, 21), (5, 22), (5, 23), (3, 4), (6, 0), (3, 15), (6, 1), (6, 2), (6, 3), (1, 9), (6, 4), (3, 5), (3, 6), (3, 7), (3, 8), (3, 10), (6, 5), (6, 6), (6, 7), (6, 8), (6, 9), (6, 10), (6, 11), (2, 0), (6, 12), (4, 22), (4, 23), (6, 13), (6, 14), (6, 15), (46, 0), (46, 1), (46, 2), (46, 3), (46, 4), (46, 5), (46, 6), (46, 7), (46, 8), (46, 9), (46, 10), (46, 11), (54, 0), (54, 1), (54, 2), (54, 3), (54, 4), (54, 5), (58, 0), (58, 1), (58, 2), (58, 3), (57, 0), (57, 1)] (by decide +kernel) (by decide +kernel)
set_option maxRecDepth 20000 in
theorem gL_law_X12_bank : GoodIn lw_tbl (wsV RL 17 RX12 yX12_bank wsX12_bank) := tz_good [(6, 16), (6, 17), (6, 18), (0, 5), (6, 19), (5, 4), (6, 20), (6, 21), (0, 5), (6, 22), (47, 0), (47, 1), (47, 2), (47, 3), (47, 4), (47, 5), (47, 6), (47, 7), (47, 8), (47, 9), (47, 10), (47, 11), (47, 12), (47, 13), (47, 14), (47, 15), (47, 16), (47, 17), (47, 18), (47, 19), (47, 20), (47, 21), (47, 22), (47, 23)] (by decide +kernel) (by decide +kernel)
theorem dL_law_188 : decode cL_law 188 = .ok (.aload_n 1, 1) := by decide +kernel
theorem dL_law_189 : decode cL_law 189 = .ok (.invokevirtual 13, 3) := by decide +kernel
theorem dL_law_192 : decode cL_law 192 = .ok (.pop, 1) := by decide +kernel
theorem dL_law_193 : decode cL_law 193 = .ok (.aload_n 2, 1) := by decide +kernel
theorem dL_law_194 : decode cL_law 194 = .ok (.invokevirtual 17, 3) := by decide +kernel
theorem dL_law_197 : decode cL_law 197 = .ok (.pop, 1) := by decide +kernel
theorem dL_law_198 : decode cL_law 198 = .ok (.goto 955, 3) := by decide +kernel
set_option maxHeartbeats 8000000 in
set_option maxRecDepth 100000 in
theorem lc_bank {p : Program} {l : Launch} {e : Env} {s : State} {m : MethodId} {below : List Frame} {meth : Method} {c : Code} {b L : Nat} {xs : Nat → Int32} (hL : L ≤ 3072) (C0 : lw_At p s m meth c b L xs) (hN : tz_N s) (A : Nat → Prop) (hA : ∀ q : Nat, s.heap.size ≤ q → A q) (hA2 : ∀ q : Nat, A q → s.heap.size ≤ q) (hbA : ¬ A b) (hV : tz_V A s s.heap) (dC : Nat → ClassId) (dI : Nat → Nat → Nat) (o : Nat) (aw : Nat) (ai : Nat) (ak : Nat) (sc : Nat) (rd : Nat) (fo : Nat) (tx : Nat) (ar : Nat) (at_ : Nat) (ao : Nat) (w0 : Nat) (w1 : Nat) (w2 : Nat) (w3 : Nat) (w4 : Nat) (w5 : Nat) (sw : Nat) (sh : Nat) (mo : Nat) (nw : Nat) (kp : Nat) (ik : Nat) (mr : Nat) (mw : Nat) (mq : Nat) (mz : Nat) (my : Nat) (mb : Nat) (mx : Nat) (mv : Nat) (ad : Nat → Nat) (ab : Nat → Nat) (ai0 : Nat → Nat) (ai1 : Nat → Nat) (cw : ClassId) (cai : ClassId) (ck : ClassId) (csw : ClassId) (csh : ClassId) (ctx : ClassId) (cr : ClassId) (ct_ : ClassId) (co_ : ClassId) (cn_ : ClassId) (ck_ : ClassId) (ci_ : ClassId) (cr_ : ClassId) (cw_ : ClassId) (cs_ : ClassId) (cz_ : ClassId) (cy_ : ClassId) (cb2_ : ClassId) (cx_ : ClassId) (cv_ : ClassId) (cd : Nat → ClassId) (cb : Nat → ClassId) (ci0 : Nat → ClassId) (ci1 : Nat → ClassId) (hK : va_K (dC, dI) vwCl (tz_T cw cai ck csw csh ctx cr ct_ co_ cn_ ck_ ci_ cr_ cw_ cs_ cz_ cy_ cb2_ cx_ cv_ cd cb ci0 ci1) s) (i : Nat) (hi : i + 6 ≤ L) (H : Heap) (locs : List Loc) (hI : tz_I dC dI o aw ai ak sc rd fo tx ar at_ ao w0 w1 w2 w3 w4 w5 sw sh mo nw kp ik mr mw mq mz my mb mx mv ad ab ai0 ai1 cw cai ck csw csh ctx cr ct_ co_ cn_ ck_ ci_ cr_ cw_ cs_ cz_ cy_ cb2_ cx_ cv_ cd cb ci0 ci1 A H) (hS : va_S A s.heap H locs) (ls : Array Slot) (hl : lv_has ls 4 [(3, .int (nI i)), (2, .ref mo), (1, .ref o), (0, .ref b)]) (K : ∀ (H : Heap) (locs : List Loc) (ls : Array Slot), tz_I dC dI o aw ai ak sc rd fo tx ar at_ ao w0 w1 w2 w3 w4 w5 sw sh mo nw kp ik mr mw mq mz my mb mx mv ad ab ai0 ai1 cw cai ck csw csh ctx cr ct_ co_ cn_ ck_ ci_ cr_ cw_ cs_ cz_ cy_ cb2_ cx_ cv_ cd cb ci0 ci1 A H → va_S A s.heap H locs → lv_has ls 4 [(3, .int (nI i)), (2, .ref mo), (1, .ref o), (0, .ref b)] → W p l e room_1 s m #[Value.ref b] below meth c H locs 136 3195 (lw_Z below #[Value.ref b] s) (F0 m 1153 ls [])) : W p l e room_1 s m #[Value.ref b] below meth c H locs 136 3195 (lw_Z below #[Value.ref b] s) (F0 m 188 ls []) := by
  obtain ⟨hx, hb, hr, hml, hown, hts, hX, hbl, hlocks, hgv⟩ := C0
  have hb : c.code = cL_law := hb
  have hown : s.vm.findClass RL = some m.cls := hown
  obtain ⟨ty, fr, fk, fx, ft_, fo_, fw, fh, la, lb, rt, nl_, np_, nk_, ns_, nv_, ni_, nf_, ud, zd, fd, ub, zb, fb, ui0, zi0, fi0, ui1, zi1, fi1, la_, lb_, lc_, ti_, cb_, ld_, le_, sm_, jb, ta_, tl_, tk_, vl_, fn, fk_, fi_, fr_, fw_, fs_, fz_, fb_, fy_, fx_, fv_, hB_d, hB_b, hB_i0, hB_i1, hO_n, hO_k, hO_x, hO_b, hP, hD⟩ := hI
  have hu_zd := hB_d.2
  have hu_zb := hB_b.2
  have hu_zi0 := hB_i0.2
  have hu_zi1 := hB_i1.2
  refine lv_aload_n hx hb dL_law_188 rfl (lv_at hl 2 rfl) ?_
  have hPc := hP.sub (ws' := [(o, .inr (11, [.ref aw, .ref (ab 0), .ref ai, .ref ak, .ref sc, .ref rd, .ref fo, .ref tx, .int ty, .ref ar, .ref at_, .ref ao])), (fo, .inr (2, [.long la, .long lb])), (ak, .inl (ck, 2, .inl fk)), (ar, .inl (cr, 3, .inl fr)), ((ab 0), .inr (0, [.ref (ab 1), .ref (ab 3), .ref (ab 5), .ref (ab 7), .ref (ab 9), .int (nI ub)])), ((ab 1), .inr (6, [.int 1, .int 5, .ref (ab 2), .int (nI (zb 0))])), ((ab 2), .inl ((cb 0), 5, .inl (fb 0))), ((ab 3), .inr (6, [.int 4, .int 5, .ref (ab 4), .int (nI (zb 1))])), ((ab 4), .inl ((cb 1), 20, .inl (fb 1))), ((ab 5), .inr (6, [.int 4, .int 8, .ref (ab 6), .int (nI (zb 2))])), ((ab 6), .inl ((cb 2), 32, .inl (fb 2))), ((ab 7), .inr (6, [.int 4, .int 6, .ref (ab 8), .int (nI (zb 3))])), ((ab 8), .inl ((cb 3), 24, .inl (fb 3))), ((ab 9), .inl ((cb 12), 8, .inr (.inr (.inr (.inr (tz_ear ab)))))), ((ab 10), .inr (6, [.int 4, .int 8, .ref (ab 11), .int (nI (zb 4))])), ((ab 11), .inl ((cb 4), 32, .inl (fb 4))), ((ab 12), .inr (6, [.int 4, .int 8, .ref (ab 13), .int (nI (zb 5))])), ((ab 13), .inl ((cb 5), 32, .inl (fb 5))), ((ab 14), .inr (6, [.int 4, .int 8, .ref (ab 15), .int (nI (zb 6))])), ((ab 15), .inl ((cb 6), 32, .inl (fb 6))), ((ab 16), .inr (6, [.int 4, .int 8, .ref (ab 17), .int (nI (zb 7))])), ((ab 17), .inl ((cb 7), 32, .inl (fb 7))), ((ab 18), .inr (6, [.int 4, .int 8, .ref (ab 19), .int (nI (zb 8))])), ((ab 19), .inl ((cb 8), 32, .inl (fb 8))), ((ab 20), .inr (6, [.int 4, .int 8, .ref (ab 21), .int (nI (zb 9))])), ((ab 21), .inl ((cb 9), 32, .inl (fb 9))), ((ab 22), .inr (6, [.int 4, .int 8, .ref (ab 23), .int (nI (zb 10))])), ((ab 23), .inl ((cb 10), 32, .inl (fb 10))), ((ab 24), .inr (6, [.int 4, .int 8, .ref (ab 25), .int (nI (zb 11))])), ((ab 25), .inl ((cb 11), 32, .inl (fb 11)))]) [0, 17, 2, 1, 45, 46, 47, 48, 49, 50, 51, 52, 53, 54, 55, 56, 57, 58, 59, 60, 61, 62, 63, 64, 65, 66, 67, 68, 69, 70] rfl
  have hDc := hD.sub (ws' := [(o, .inr (11, [.ref aw, .ref (ab 0), .ref ai, .ref ak, .ref sc, .ref rd, .ref fo, .ref tx, .int ty, .ref ar, .ref at_, .ref ao])), (fo, .inr (2, [.long la, .long lb])), (ak, .inl (ck, 2, .inl fk)), (ar, .inl (cr, 3, .inl fr)), ((ab 0), .inr (0, [.ref (ab 1), .ref (ab 3), .ref (ab 5), .ref (ab 7), .ref (ab 9), .int (nI ub)])), ((ab 1), .inr (6, [.int 1, .int 5, .ref (ab 2), .int (nI (zb 0))])), ((ab 2), .inl ((cb 0), 5, .inl (fb 0))), ((ab 3), .inr (6, [.int 4, .int 5, .ref (ab 4), .int (nI (zb 1))])), ((ab 4), .inl ((cb 1), 20, .inl (fb 1))), ((ab 5), .inr (6, [.int 4, .int 8, .ref (ab 6), .int (nI (zb 2))])), ((ab 6), .inl ((cb 2), 32, .inl (fb 2))), ((ab 7), .inr (6, [.int 4, .int 6, .ref (ab 8), .int (nI (zb 3))])), ((ab 8), .inl ((cb 3), 24, .inl (fb 3))), ((ab 9), .inl ((cb 12), 8, .inr (.inr (.inr (.inr (tz_ear ab)))))), ((ab 10), .inr (6, [.int 4, .int 8, .ref (ab 11), .int (nI (zb 4))])), ((ab 11), .inl ((cb 4), 32, .inl (fb 4))), ((ab 12), .inr (6, [.int 4, .int 8, .ref (ab 13), .int (nI (zb 5))])), ((ab 13), .inl ((cb 5), 32, .inl (fb 5))), ((ab 14), .inr (6, [.int 4, .int 8, .ref (ab 15), .int (nI (zb 6))])), ((ab 15), .inl ((cb 6), 32, .inl (fb 6))), ((ab 16), .inr (6, [.int 4, .int 8, .ref (ab 17), .int (nI (zb 7))])), ((ab 17), .inl ((cb 7), 32, .inl (fb 7))), ((ab 18), .inr (6, [.int 4, .int 8, .ref (ab 19), .int (nI (zb 8))])), ((ab 19), .inl ((cb 8), 32, .inl (fb 8))), ((ab 20), .inr (6, [.int 4, .int 8, .ref (ab 21), .int (nI (zb 9))])), ((ab 21), .inl ((cb 9), 32, .inl (fb 9))), ((ab 22), .inr (6, [.int 4, .int 8, .ref (ab 23), .int (nI (zb 10))])), ((ab 23), .inl ((cb 10), 32, .inl (fb 10))), ((ab 24), .inr (6, [.int 4, .int 8, .ref (ab 25), .int (nI (zb 11))])), ((ab 25), .inl ((cb 11), 32, .inl (fb 11)))]) [0, 17, 2, 1, 45, 46, 47, 48, 49, 50, 51, 52, 53, 54, 55, 56, 57, 58, 59, 60, 61, 62, 63, 64, 65, 66, 67, 68, 69, 70] (by decide) rfl
  have hKc := hK.sub (tys' := [(ck, .boolean), (cr, .int), ((cb 0), .int), ((cb 1), .int), ((cb 2), .int), ((cb 3), .int), ((cb 12), (.object "ThriceCounted$Rows")), ((cb 4), .int), ((cb 5), .int), ((cb 6), .int), ((cb 7), .int), ((cb 8), .int), ((cb 9), .int), ((cb 10), .int), ((cb 11), .int)]) [1, 0, 22, 23, 24, 25, 26, 27, 28, 29, 30, 31, 32, 33, 34] rfl
  have hFc := va_free (wc := [(o, .inr (11, [.ref aw, .ref (ab 0), .ref ai, .ref ak, .ref sc, .ref rd, .ref fo, .ref tx, .int ty, .ref ar, .ref at_, .ref ao])), (fo, .inr (2, [.long la, .long lb])), (ak, .inl (ck, 2, .inl fk)), (ar, .inl (cr, 3, .inl fr)), ((ab 0), .inr (0, [.ref (ab 1), .ref (ab 3), .ref (ab 5), .ref (ab 7), .ref (ab 9), .int (nI ub)])), ((ab 1), .inr (6, [.int 1, .int 5, .ref (ab 2), .int (nI (zb 0))])), ((ab 2), .inl ((cb 0), 5, .inl (fb 0))), ((ab 3), .inr (6, [.int 4, .int 5, .ref (ab 4), .int (nI (zb 1))])), ((ab 4), .inl ((cb 1), 20, .inl (fb 1))), ((ab 5), .inr (6, [.int 4, .int 8, .ref (ab 6), .int (nI (zb 2))])), ((ab 6), .inl ((cb 2), 32, .inl (fb 2))), ((ab 7), .inr (6, [.int 4, .int 6, .ref (ab 8), .int (nI (zb 3))])), ((ab 8), .inl ((cb 3), 24, .inl (fb 3))), ((ab 9), .inl ((cb 12), 8, .inr (.inr (.inr (.inr (tz_ear ab)))))), ((ab 10), .inr (6, [.int 4, .int 8, .ref (ab 11), .int (nI (zb 4))])), ((ab 11), .inl ((cb 4), 32, .inl (fb 4))), ((ab 12), .inr (6, [.int 4, .int 8, .ref (ab 13), .int (nI (zb 5))])), ((ab 13), .inl ((cb 5), 32, .inl (fb 5))), ((ab 14), .inr (6, [.int 4, .int 8, .ref (ab 15), .int (nI (zb 6))])), ((ab 15), .inl ((cb 6), 32, .inl (fb 6))), ((ab 16), .inr (6, [.int 4, .int 8, .ref (ab 17), .int (nI (zb 7))])), ((ab 17), .inl ((cb 7), 32, .inl (fb 7))), ((ab 18), .inr (6, [.int 4, .int 8, .ref (ab 19), .int (nI (zb 8))])), ((ab 19), .inl ((cb 8), 32, .inl (fb 8))), ((ab 20), .inr (6, [.int 4, .int 8, .ref (ab 21), .int (nI (zb 9))])), ((ab 21), .inl ((cb 9), 32, .inl (fb 9))), ((ab 22), .inr (6, [.int 4, .int 8, .ref (ab 23), .int (nI (zb 10))])), ((ab 23), .inl ((cb 10), 32, .inl (fb 10))), ((ab 24), .inr (6, [.int 4, .int 8, .ref (ab 25), .int (nI (zb 11))])), ((ab 25), .inl ((cb 11), 32, .inl (fb 11)))]) hD hS hA [0, 17, 2, 1, 45, 46, 47, 48, 49, 50, 51, 52, 53, 54, 55, 56, 57, 58, 59, 60, 61, 62, 63, 64, 65, 66, 67, 68, 69, 70] rfl
  refine va_calli (va_runV (As := []) (rest := []) ⟨hx, hb, hml, hown, hts⟩ (x_bank l dC dI o aw ab ai ak sc rd fo tx ty ar at_ ao la lb ck fk cr fr ub zb cb fb H.size ⟨hB_b.1, show ub ≤ 8 by omega⟩) (cwV 0 hts gL_law_X11_bank rfl rfl rfl (by decide +kernel) ⟨Nat.le_of_ble_eq_true rfl, Nat.le_of_ble_eq_true rfl⟩) ⟨fun a U g mk q => by obtain ⟨q0, q1, qP, qK, qD⟩ := q; exact ⟨q0, q1, qP, va_K.moved (u := U) (U := U.calling g mk a) (Vm.Alike.refl U.vm) qK, qD⟩, va_recv hK hP (ci := 11) (q0 := 0) rfl rfl, fun U hU hW => ⟨rfl, by rw [hU], by rw [hU]; exact hPc, va_K.moved hW.alike hKc, hDc.weaken (fun _ _ _ _ => trivial)⟩⟩ rfl rfl hl.1 rfl (lv_room (Nat.le_of_ble_eq_true rfl)) dL_law_189 ⟨Nat.le_of_ble_eq_true rfl, Nat.le_of_ble_eq_true rfl⟩) hS (fun q _ h => hFc q h) hFc (fun r_1 u_ t H1 locs ht hvm hw_2 hB hz1 hk1 hS => ?_)
  obtain ⟨tg_3, lg_4, lh_5, gk_6, gr_7, zg_8, fg_9, ug_10, hf_11, hP1, hK1, hD1⟩ := hB
  have hz_zg_8_0 : zg_8 0 ≤ 5 := hf_11.1 0
  have hz_zg_8_1 : zg_8 1 ≤ 5 := hf_11.1 1
  have hz_zg_8_2 : zg_8 2 ≤ 8 := hf_11.1 2
  have hz_zg_8_3 : zg_8 3 ≤ 6 := hf_11.1 3
  have hz_zg_8_4 : zg_8 4 ≤ 8 := hf_11.1 4
  have hz_zg_8_5 : zg_8 5 ≤ 8 := hf_11.1 5
  have hz_zg_8_6 : zg_8 6 ≤ 8 := hf_11.1 6
  have hz_zg_8_7 : zg_8 7 ≤ 8 := hf_11.1 7
  have hz_zg_8_8 : zg_8 8 ≤ 8 := hf_11.1 8
  have hz_zg_8_9 : zg_8 9 ≤ 8 := hf_11.1 9
  have hz_zg_8_10 : zg_8 10 ≤ 8 := hf_11.1 10
  have hz_zg_8_11 : zg_8 11 ≤ 8 := hf_11.1 11
  have hu_zg_8 := hf_11.2
  rw [ht] at hP1
  have hK1 := va_K.moved hvm.symm hK1
  obtain ⟨hP, hD⟩ := tz_put (ws' := (tz_XW o aw ai ak sc rd fo tx ar at_ ao w0 w1 w2 w3 w4 w5 sw sh mo nw kp ik mr mw mq mz my mb mx mv ad ab ai0 ai1 cw cai ck csw csh ctx cr ct_ co_ cn_ ck_ ci_ cr_ cw_ cs_ cz_ cy_ cb2_ cx_ cv_ cd cb ci0 ci1 tg_3 gr_7 gk_6 fx ft_ fo_ fw fh lg_4 lh_5 rt nl_ np_ nk_ ns_ nv_ ni_ nf_ ud zd fd ug_10 zg_8 fg_9 ui0 zi0 fi0 ui1 zi1 fi1 la_ lb_ lc_ ti_ cb_ ld_ le_ sm_ jb ta_ tl_ tk_ vl_ fn fk_ fi_ fr_ fw_ fs_ fz_ fb_ fy_ fx_ fv_)) hP hD [0, 17, 2, 1, 45, 46, 47, 48, 49, 50, 51, 52, 53, 54, 55, 56, 57, 58, 59, 60, 61, 62, 63, 64, 65, 66, 67, 68, 69, 70] rfl hk1 hP1 rfl rfl rfl
  generalize H1 = H at hP hS ⊢
  refine lv_pop hx hb dL_law_192 rfl ?_
  refine lv_aload_n hx hb dL_law_193 rfl (lv_at hl 1 rfl) ?_
  have hPc := hP.sub (ws' := [(mo, .inr (12, [.ref nw, .ref kp, .ref ik, .ref mr, .long la_, .long lb_, .ref mw, .long lc_, .int ti_, .int cb_, .long ld_, .long le_, .ref mq, .ref mz, .ref my, .int sm_, .ref mb, .int (nI jb), .int ta_, .int tl_, .int tk_, .int vl_, .ref mx, .ref mv])), (nw, .inl (cn_, 350, .inl fn))]) [123, 124] rfl
  have hDc := hD.sub (ws' := [(mo, .inr (12, [.ref nw, .ref kp, .ref ik, .ref mr, .long la_, .long lb_, .ref mw, .long lc_, .int ti_, .int cb_, .long ld_, .long le_, .ref mq, .ref mz, .ref my, .int sm_, .ref mb, .int (nI jb), .int ta_, .int tl_, .int tk_, .int vl_, .ref mx, .ref mv])), (nw, .inl (cn_, 350, .inl fn))]) [123, 124] (by decide) rfl
  have hKc := hK.sub (tys' := [(cn_, .int)]) [61] rfl
  have hFc := va_free (wc := [(mo, .inr (12, [.ref nw, .ref kp, .ref ik, .ref mr, .long la_, .long lb_, .ref mw, .long lc_, .int ti_, .int cb_, .long ld_, .long le_, .ref mq, .ref mz, .ref my, .int sm_, .ref mb, .int (nI jb), .int ta_, .int tl_, .int tk_, .int vl_, .ref mx, .ref mv])), (nw, .inl (cn_, 350, .inl fn))]) hD hS hA [123, 124] rfl
  refine va_calli (va_runV (As := []) (rest := []) ⟨hx, hb, hml, hown, hts⟩ (m_bank l dC dI mo nw kp ik mr la_ lb_ mw lc_ ti_ cb_ ld_ le_ mq mz my sm_ mb (nI jb) ta_ tl_ tk_ vl_ mx mv cn_ fn H.size hO_n) (cwV 0 hts gL_law_X12_bank rfl rfl rfl (by decide +kernel) ⟨Nat.le_of_ble_eq_true rfl, Nat.le_of_ble_eq_true rfl⟩) ⟨fun a U g mk q => by obtain ⟨q0, q1, qP, qK, qD⟩ := q; exact ⟨q0, q1, qP, va_K.moved (u := U) (U := U.calling g mk a) (Vm.Alike.refl U.vm) qK, qD⟩, va_recv hK hP (ci := 12) (q0 := 123) rfl rfl, fun U hU hW => ⟨rfl, by rw [hU], by rw [hU]; exact hPc, va_K.moved hW.alike hKc, hDc.weaken (fun _ _ _ _ => trivial)⟩⟩ rfl rfl hl.1 rfl (lv_room (Nat.le_of_ble_eq_true rfl)) dL_law_194 ⟨Nat.le_of_ble_eq_true rfl, Nat.le_of_ble_eq_true rfl⟩) hS (fun q _ h => hFc q h) hFc (fun r_12 u_ t H1 locs ht hvm hw_13 hB hz1 hk1 hS => ?_)
  obtain ⟨gn_14, hf_15, hP1, hK1, hD1⟩ := hB
  rw [ht] at hP1
  have hK1 := va_K.moved hvm.symm hK1
  obtain ⟨hP, hD⟩ := tz_put (ws' := (tz_XW o aw ai ak sc rd fo tx ar at_ ao w0 w1 w2 w3 w4 w5 sw sh mo nw kp ik mr mw mq mz my mb mx mv ad ab ai0 ai1 cw cai ck csw csh ctx cr ct_ co_ cn_ ck_ ci_ cr_ cw_ cs_ cz_ cy_ cb2_ cx_ cv_ cd cb ci0 ci1 tg_3 gr_7 gk_6 fx ft_ fo_ fw fh lg_4 lh_5 rt nl_ np_ nk_ ns_ nv_ ni_ nf_ ud zd fd ug_10 zg_8 fg_9 ui0 zi0 fi0 ui1 zi1 fi1 la_ lb_ lc_ ti_ cb_ ld_ le_ sm_ jb ta_ tl_ tk_ vl_ gn_14 fk_ fi_ fr_ fw_ fs_ fz_ fb_ fy_ fx_ fv_)) hP hD [123, 124] rfl hk1 hP1 rfl rfl rfl
  generalize H1 = H at hP hS ⊢
  refine lv_pop hx hb dL_law_197 rfl ?_
  refine lv_goto (tgt := 1153) hx hb dL_law_198 (by decide) ?_
  exact K H _ ls ⟨tg_3, gr_7, gk_6, fx, ft_, fo_, fw, fh, lg_4, lh_5, rt, nl_, np_, nk_, ns_, nv_, ni_, nf_, ud, zd, fd, ug_10, zg_8, fg_9, ui0, zi0, fi0, ui1, zi1, fi1, la_, lb_, lc_, ti_, cb_, ld_, le_, sm_, jb, ta_, tl_, tk_, vl_, gn_14, fk_, fi_, fr_, fw_, fs_, fz_, fb_, fy_, fx_, fv_, hB_d, hf_11, hB_i0, hB_i1, hf_15, hO_k, hO_x, hO_b, hP, hD⟩ hS hl
set_option maxRecDepth 20000 in
theorem gL_law_X11_clerk : GoodIn lw_tbl (wsV RL 18 RX11 yX11_clerk wsX11_clerk) := tz_good [(6, 23), (7, 0), (7, 1), (0, 2), (7, 2), (1, 10), (7, 3), (7, 4), (7, 5), (0, 2), (7, 6), (7, 7), (7, 8), (7, 9), (7, 10), (7, 11), (7, 12), (7, 13), (7, 14), (2, 6), (7, 15), (7, 16), (7, 17), (3, 4), (7, 18), (3, 15), (3, 20), (7, 19), (7, 20), (7, 21), (1, 9), (7, 22), (3, 5), (7, 23), (8, 0), (8, 1), (8, 2), (8, 3), (8, 4), (8, 5), (8, 6), (8, 7), (3, 22), (3, 21), (8, 8), (8, 9), (8, 10), (8, 11), (46, 0), (46, 1), (46, 2), (46, 3), (46, 4), (46, 5), (46, 6), (46, 7), (46, 8), (46, 9), (46, 10), (46, 11), (54, 0), (54, 1), (54, 2), (54, 3), (54, 4), (54, 5), (58, 0), (58, 1), (58, 2), (58, 3)] (by decide +kernel) (by decide +kernel)
set_option maxRecDepth 20000 in
theorem gL_law_X12_clerk : GoodIn lw_tbl (wsV RL 22 RX12 yX12_clerk wsX12_clerk) := tz_good [(8, 12), (8, 13), (8, 14), (0, 5), (8, 15), (8, 16), (5, 4), (8, 17), (8, 18), (0, 5), (8, 19), (8, 20), (8, 21), (8, 22), (8, 23), (5, 7), (9, 0), (9, 1), (9, 2), (9, 3), (9, 4), (9, 5), (9, 6), (47, 0), (47, 1), (47, 2), (47, 3), (47, 4), (47, 5), (47, 6), (47, 7), (47, 8), (47, 9), (47, 10), (47, 11), (47, 12), (47, 13), (47, 14), (47, 15), (47, 16), (47, 17), (47, 18), (47, 19), (47, 20), (47, 21), (47, 22), (47, 23)] (by decide +kernel) (by decide +kernel)
theorem dL_law_201 : decode cL_law 201 = .ok (.aload_n 1, 1) := by decide +kernel
theorem dL_law_202 : decode cL_law 202 = .ok (.aload_n 0, 1) := by decide +kernel
theorem dL_law_203 : decode cL_law 203 = .ok (.iload_n 3, 1) := by decide +kernel
theorem dL_law_204 : decode cL_law 204 = .ok (.iconst 1, 1) := by decide +kernel
theorem dL_law_205 : decode cL_law 205 = .ok (.iadd, 1) := by decide +kernel
theorem dL_law_206 : decode cL_law 206 = .ok (.iaload, 1) := by decide +kernel
theorem dL_law_207 : decode cL_law 207 = .ok (.invokevirtual 18, 3) := by decide +kernel
theorem dL_law_210 : decode cL_law 210 = .ok (.pop, 1) := by decide +kernel
theorem dL_law_211 : decode cL_law 211 = .ok (.aload_n 2, 1) := by decide +kernel
theorem dL_law_212 : decode cL_law 212 = .ok (.aload_n 0, 1) := by decide +kernel
theorem dL_law_213 : decode cL_law 213 = .ok (.iload_n 3, 1) := by decide +kernel
theorem dL_law_214 : decode cL_law 214 = .ok (.iconst 1, 1) := by decide +kernel
theorem dL_law_215 : decode cL_law 215 = .ok (.iadd, 1) := by decide +kernel
theorem dL_law_216 : decode cL_law 216 = .ok (.iaload, 1) := by decide +kernel
theorem dL_law_217 : decode cL_law 217 = .ok (.invokevirtual 22, 3) := by decide +kernel
theorem dL_law_220 : decode cL_law 220 = .ok (.pop, 1) := by decide +kernel
theorem dL_law_221 : decode cL_law 221 = .ok (.goto 932, 3) := by decide +kernel
set_option maxHeartbeats 8000000 in
set_option maxRecDepth 100000 in
theorem lc_clerk {p : Program} {l : Launch} {e : Env} {s : State} {m : MethodId} {below : List Frame} {meth : Method} {c : Code} {b L : Nat} {xs : Nat → Int32} (hL : L ≤ 3072) (C0 : lw_At p s m meth c b L xs) (hN : tz_N s) (A : Nat → Prop) (hA : ∀ q : Nat, s.heap.size ≤ q → A q) (hA2 : ∀ q : Nat, A q → s.heap.size ≤ q) (hbA : ¬ A b) (hV : tz_V A s s.heap) (dC : Nat → ClassId) (dI : Nat → Nat → Nat) (o : Nat) (aw : Nat) (ai : Nat) (ak : Nat) (sc : Nat) (rd : Nat) (fo : Nat) (tx : Nat) (ar : Nat) (at_ : Nat) (ao : Nat) (w0 : Nat) (w1 : Nat) (w2 : Nat) (w3 : Nat) (w4 : Nat) (w5 : Nat) (sw : Nat) (sh : Nat) (mo : Nat) (nw : Nat) (kp : Nat) (ik : Nat) (mr : Nat) (mw : Nat) (mq : Nat) (mz : Nat) (my : Nat) (mb : Nat) (mx : Nat) (mv : Nat) (ad : Nat → Nat) (ab : Nat → Nat) (ai0 : Nat → Nat) (ai1 : Nat → Nat) (cw : ClassId) (cai : ClassId) (ck : ClassId) (csw : ClassId) (csh : ClassId) (ctx : ClassId) (cr : ClassId) (ct_ : ClassId) (co_ : ClassId) (cn_ : ClassId) (ck_ : ClassId) (ci_ : ClassId) (cr_ : ClassId) (cw_ : ClassId) (cs_ : ClassId) (cz_ : ClassId) (cy_ : ClassId) (cb2_ : ClassId) (cx_ : ClassId) (cv_ : ClassId) (cd : Nat → ClassId) (cb : Nat → ClassId) (ci0 : Nat → ClassId) (ci1 : Nat → ClassId) (hK : va_K (dC, dI) vwCl (tz_T cw cai ck csw csh ctx cr ct_ co_ cn_ ck_ ci_ cr_ cw_ cs_ cz_ cy_ cb2_ cx_ cv_ cd cb ci0 ci1) s) (i : Nat) (hi : i + 6 ≤ L) (H : Heap) (locs : List Loc) (hI : tz_I dC dI o aw ai ak sc rd fo tx ar at_ ao w0 w1 w2 w3 w4 w5 sw sh mo nw kp ik mr mw mq mz my mb mx mv ad ab ai0 ai1 cw cai ck csw csh ctx cr ct_ co_ cn_ ck_ ci_ cr_ cw_ cs_ cz_ cy_ cb2_ cx_ cv_ cd cb ci0 ci1 A H) (hS : va_S A s.heap H locs) (ls : Array Slot) (hl : lv_has ls 4 [(3, .int (nI i)), (2, .ref mo), (1, .ref o), (0, .ref b)]) (K : ∀ (H : Heap) (locs : List Loc) (ls : Array Slot), tz_I dC dI o aw ai ak sc rd fo tx ar at_ ao w0 w1 w2 w3 w4 w5 sw sh mo nw kp ik mr mw mq mz my mb mx mv ad ab ai0 ai1 cw cai ck csw csh ctx cr ct_ co_ cn_ ck_ ci_ cr_ cw_ cs_ cz_ cy_ cb2_ cx_ cv_ cd cb ci0 ci1 A H → va_S A s.heap H locs → lv_has ls 4 [(3, .int (nI i)), (2, .ref mo), (1, .ref o), (0, .ref b)] → W p l e room_1 s m #[Value.ref b] below meth c H locs 136 3195 (lw_Z below #[Value.ref b] s) (F0 m 1153 ls [])) : W p l e room_1 s m #[Value.ref b] below meth c H locs 136 3195 (lw_Z below #[Value.ref b] s) (F0 m 201 ls []) := by
  obtain ⟨hx, hb, hr, hml, hown, hts, hX, hbl, hlocks, hgv⟩ := C0
  have hb : c.code = cL_law := hb
  have hown : s.vm.findClass RL = some m.cls := hown
  obtain ⟨ty, fr, fk, fx, ft_, fo_, fw, fh, la, lb, rt, nl_, np_, nk_, ns_, nv_, ni_, nf_, ud, zd, fd, ub, zb, fb, ui0, zi0, fi0, ui1, zi1, fi1, la_, lb_, lc_, ti_, cb_, ld_, le_, sm_, jb, ta_, tl_, tk_, vl_, fn, fk_, fi_, fr_, fw_, fs_, fz_, fb_, fy_, fx_, fv_, hB_d, hB_b, hB_i0, hB_i1, hO_n, hO_k, hO_x, hO_b, hP, hD⟩ := hI
  have hu_zd := hB_d.2
  have hu_zb := hB_b.2
  have hu_zi0 := hB_i0.2
  have hu_zi1 := hB_i1.2
  refine lv_aload_n hx hb dL_law_201 rfl (lv_at hl 2 rfl) ?_
  refine lv_aload_n hx hb dL_law_202 rfl (lv_at hl 3 rfl) ?_
  refine lv_iload_n hx hb dL_law_203 rfl (lv_at hl 0 rfl) ?_
  refine lv_iconst (v := 1) hx hb dL_law_204 (by decide) ?_
  refine lv_iadd hx hb dL_law_205 ?_
  refine tz_i (nI (i + 1)) (nI_add i 1) ?_
  refine va_sld hx hb hX hbl hbA hS (vp_in_nI (n := (i + 1)) (N := L) (by omega) (by omega)) dL_law_206 ?_
  refine tz_i (xs (i + 1)) (congrArg xs (nI_clamp (by omega))) ?_
  have hPc := hP.sub (ws' := [(o, .inr (11, [.ref aw, .ref (ab 0), .ref ai, .ref ak, .ref sc, .ref rd, .ref fo, .ref tx, .int ty, .ref ar, .ref at_, .ref ao])), (ar, .inl (cr, 3, .inl fr)), ((ab 0), .inr (0, [.ref (ab 1), .ref (ab 3), .ref (ab 5), .ref (ab 7), .ref (ab 9), .int (nI ub)])), ((ab 1), .inr (6, [.int 1, .int 5, .ref (ab 2), .int (nI (zb 0))])), ((ab 2), .inl ((cb 0), 5, .inl (fb 0))), ((ab 3), .inr (6, [.int 4, .int 5, .ref (ab 4), .int (nI (zb 1))])), ((ab 4), .inl ((cb 1), 20, .inl (fb 1))), ((ab 5), .inr (6, [.int 4, .int 8, .ref (ab 6), .int (nI (zb 2))])), ((ab 6), .inl ((cb 2), 32, .inl (fb 2))), ((ab 7), .inr (6, [.int 4, .int 6, .ref (ab 8), .int (nI (zb 3))])), ((ab 8), .inl ((cb 3), 24, .inl (fb 3))), ((ab 9), .inl ((cb 12), 8, .inr (.inr (.inr (.inr (tz_ear ab)))))), ((ab 10), .inr (6, [.int 4, .int 8, .ref (ab 11), .int (nI (zb 4))])), ((ab 11), .inl ((cb 4), 32, .inl (fb 4))), ((ab 12), .inr (6, [.int 4, .int 8, .ref (ab 13), .int (nI (zb 5))])), ((ab 13), .inl ((cb 5), 32, .inl (fb 5))), ((ab 14), .inr (6, [.int 4, .int 8, .ref (ab 15), .int (nI (zb 6))])), ((ab 15), .inl ((cb 6), 32, .inl (fb 6))), ((ab 16), .inr (6, [.int 4, .int 8, .ref (ab 17), .int (nI (zb 7))])), ((ab 17), .inl ((cb 7), 32, .inl (fb 7))), ((ab 18), .inr (6, [.int 4, .int 8, .ref (ab 19), .int (nI (zb 8))])), ((ab 19), .inl ((cb 8), 32, .inl (fb 8))), ((ab 20), .inr (6, [.int 4, .int 8, .ref (ab 21), .int (nI (zb 9))])), ((ab 21), .inl ((cb 9), 32, .inl (fb 9))), ((ab 22), .inr (6, [.int 4, .int 8, .ref (ab 23), .int (nI (zb 10))])), ((ab 23), .inl ((cb 10), 32, .inl (fb 10))), ((ab 24), .inr (6, [.int 4, .int 8, .ref (ab 25), .int (nI (zb 11))])), ((ab 25), .inl ((cb 11), 32, .inl (fb 11)))]) [0, 1, 45, 46, 47, 48, 49, 50, 51, 52, 53, 54, 55, 56, 57, 58, 59, 60, 61, 62, 63, 64, 65, 66, 67, 68, 69, 70] rfl
  have hDc := hD.sub (ws' := [(o, .inr (11, [.ref aw, .ref (ab 0), .ref ai, .ref ak, .ref sc, .ref rd, .ref fo, .ref tx, .int ty, .ref ar, .ref at_, .ref ao])), (ar, .inl (cr, 3, .inl fr)), ((ab 0), .inr (0, [.ref (ab 1), .ref (ab 3), .ref (ab 5), .ref (ab 7), .ref (ab 9), .int (nI ub)])), ((ab 1), .inr (6, [.int 1, .int 5, .ref (ab 2), .int (nI (zb 0))])), ((ab 2), .inl ((cb 0), 5, .inl (fb 0))), ((ab 3), .inr (6, [.int 4, .int 5, .ref (ab 4), .int (nI (zb 1))])), ((ab 4), .inl ((cb 1), 20, .inl (fb 1))), ((ab 5), .inr (6, [.int 4, .int 8, .ref (ab 6), .int (nI (zb 2))])), ((ab 6), .inl ((cb 2), 32, .inl (fb 2))), ((ab 7), .inr (6, [.int 4, .int 6, .ref (ab 8), .int (nI (zb 3))])), ((ab 8), .inl ((cb 3), 24, .inl (fb 3))), ((ab 9), .inl ((cb 12), 8, .inr (.inr (.inr (.inr (tz_ear ab)))))), ((ab 10), .inr (6, [.int 4, .int 8, .ref (ab 11), .int (nI (zb 4))])), ((ab 11), .inl ((cb 4), 32, .inl (fb 4))), ((ab 12), .inr (6, [.int 4, .int 8, .ref (ab 13), .int (nI (zb 5))])), ((ab 13), .inl ((cb 5), 32, .inl (fb 5))), ((ab 14), .inr (6, [.int 4, .int 8, .ref (ab 15), .int (nI (zb 6))])), ((ab 15), .inl ((cb 6), 32, .inl (fb 6))), ((ab 16), .inr (6, [.int 4, .int 8, .ref (ab 17), .int (nI (zb 7))])), ((ab 17), .inl ((cb 7), 32, .inl (fb 7))), ((ab 18), .inr (6, [.int 4, .int 8, .ref (ab 19), .int (nI (zb 8))])), ((ab 19), .inl ((cb 8), 32, .inl (fb 8))), ((ab 20), .inr (6, [.int 4, .int 8, .ref (ab 21), .int (nI (zb 9))])), ((ab 21), .inl ((cb 9), 32, .inl (fb 9))), ((ab 22), .inr (6, [.int 4, .int 8, .ref (ab 23), .int (nI (zb 10))])), ((ab 23), .inl ((cb 10), 32, .inl (fb 10))), ((ab 24), .inr (6, [.int 4, .int 8, .ref (ab 25), .int (nI (zb 11))])), ((ab 25), .inl ((cb 11), 32, .inl (fb 11)))]) [0, 1, 45, 46, 47, 48, 49, 50, 51, 52, 53, 54, 55, 56, 57, 58, 59, 60, 61, 62, 63, 64, 65, 66, 67, 68, 69, 70] (by decide) rfl
  have hKc := hK.sub (tys' := [(cr, .int), ((cb 0), .int), ((cb 1), .int), ((cb 2), .int), ((cb 3), .int), ((cb 12), (.object "ThriceCounted$Rows")), ((cb 4), .int), ((cb 5), .int), ((cb 6), .int), ((cb 7), .int), ((cb 8), .int), ((cb 9), .int), ((cb 10), .int), ((cb 11), .int)]) [0, 22, 23, 24, 25, 26, 27, 28, 29, 30, 31, 32, 33, 34] rfl
  have hFc := va_free (wc := [(o, .inr (11, [.ref aw, .ref (ab 0), .ref ai, .ref ak, .ref sc, .ref rd, .ref fo, .ref tx, .int ty, .ref ar, .ref at_, .ref ao])), (ar, .inl (cr, 3, .inl fr)), ((ab 0), .inr (0, [.ref (ab 1), .ref (ab 3), .ref (ab 5), .ref (ab 7), .ref (ab 9), .int (nI ub)])), ((ab 1), .inr (6, [.int 1, .int 5, .ref (ab 2), .int (nI (zb 0))])), ((ab 2), .inl ((cb 0), 5, .inl (fb 0))), ((ab 3), .inr (6, [.int 4, .int 5, .ref (ab 4), .int (nI (zb 1))])), ((ab 4), .inl ((cb 1), 20, .inl (fb 1))), ((ab 5), .inr (6, [.int 4, .int 8, .ref (ab 6), .int (nI (zb 2))])), ((ab 6), .inl ((cb 2), 32, .inl (fb 2))), ((ab 7), .inr (6, [.int 4, .int 6, .ref (ab 8), .int (nI (zb 3))])), ((ab 8), .inl ((cb 3), 24, .inl (fb 3))), ((ab 9), .inl ((cb 12), 8, .inr (.inr (.inr (.inr (tz_ear ab)))))), ((ab 10), .inr (6, [.int 4, .int 8, .ref (ab 11), .int (nI (zb 4))])), ((ab 11), .inl ((cb 4), 32, .inl (fb 4))), ((ab 12), .inr (6, [.int 4, .int 8, .ref (ab 13), .int (nI (zb 5))])), ((ab 13), .inl ((cb 5), 32, .inl (fb 5))), ((ab 14), .inr (6, [.int 4, .int 8, .ref (ab 15), .int (nI (zb 6))])), ((ab 15), .inl ((cb 6), 32, .inl (fb 6))), ((ab 16), .inr (6, [.int 4, .int 8, .ref (ab 17), .int (nI (zb 7))])), ((ab 17), .inl ((cb 7), 32, .inl (fb 7))), ((ab 18), .inr (6, [.int 4, .int 8, .ref (ab 19), .int (nI (zb 8))])), ((ab 19), .inl ((cb 8), 32, .inl (fb 8))), ((ab 20), .inr (6, [.int 4, .int 8, .ref (ab 21), .int (nI (zb 9))])), ((ab 21), .inl ((cb 9), 32, .inl (fb 9))), ((ab 22), .inr (6, [.int 4, .int 8, .ref (ab 23), .int (nI (zb 10))])), ((ab 23), .inl ((cb 10), 32, .inl (fb 10))), ((ab 24), .inr (6, [.int 4, .int 8, .ref (ab 25), .int (nI (zb 11))])), ((ab 25), .inl ((cb 11), 32, .inl (fb 11)))]) hD hS hA [0, 1, 45, 46, 47, 48, 49, 50, 51, 52, 53, 54, 55, 56, 57, 58, 59, 60, 61, 62, 63, 64, 65, 66, 67, 68, 69, 70] rfl
  refine va_calli (va_runV (As := [.int (xs (i + 1))]) (rest := []) ⟨hx, hb, hml, hown, hts⟩ (x_clerk l dC dI o aw ab ai ak sc rd fo tx ty ar at_ ao cr fr ub zb cb fb (xs (i + 1)) H.size ⟨hB_b.1, show ub ≤ 8 by omega⟩) (cwV 1 hts gL_law_X11_clerk rfl rfl rfl (by decide +kernel) ⟨Nat.le_of_ble_eq_true rfl, Nat.le_of_ble_eq_true rfl⟩) ⟨fun a U g mk q => by obtain ⟨q0, q1, qP, qK, qD⟩ := q; exact ⟨q0, q1, qP, va_K.moved (u := U) (U := U.calling g mk a) (Vm.Alike.refl U.vm) qK, qD⟩, va_recv hK hP (ci := 11) (q0 := 0) rfl rfl, fun U hU hW => ⟨rfl, by rw [hU], by rw [hU]; exact hPc, va_K.moved hW.alike hKc, hDc.weaken (fun _ _ _ _ => trivial)⟩⟩ rfl rfl hl.1 rfl (lv_room (Nat.le_of_ble_eq_true rfl)) dL_law_207 ⟨Nat.le_of_ble_eq_true rfl, Nat.le_of_ble_eq_true rfl⟩) hS (fun q _ h => hFc q h) hFc (fun r_1 u_ t H1 locs ht hvm hw_2 hB hz1 hk1 hS => ?_)
  obtain ⟨gr_3, zg_4, fg_5, ug_6, hf_7, hP1, hK1, hD1⟩ := hB
  have hz_zg_4_0 : zg_4 0 ≤ 5 := hf_7.1 0
  have hz_zg_4_1 : zg_4 1 ≤ 5 := hf_7.1 1
  have hz_zg_4_2 : zg_4 2 ≤ 8 := hf_7.1 2
  have hz_zg_4_3 : zg_4 3 ≤ 6 := hf_7.1 3
  have hz_zg_4_4 : zg_4 4 ≤ 8 := hf_7.1 4
  have hz_zg_4_5 : zg_4 5 ≤ 8 := hf_7.1 5
  have hz_zg_4_6 : zg_4 6 ≤ 8 := hf_7.1 6
  have hz_zg_4_7 : zg_4 7 ≤ 8 := hf_7.1 7
  have hz_zg_4_8 : zg_4 8 ≤ 8 := hf_7.1 8
  have hz_zg_4_9 : zg_4 9 ≤ 8 := hf_7.1 9
  have hz_zg_4_10 : zg_4 10 ≤ 8 := hf_7.1 10
  have hz_zg_4_11 : zg_4 11 ≤ 8 := hf_7.1 11
  have hu_zg_4 := hf_7.2
  rw [ht] at hP1
  have hK1 := va_K.moved hvm.symm hK1
  obtain ⟨hP, hD⟩ := tz_put (ws' := (tz_XW o aw ai ak sc rd fo tx ar at_ ao w0 w1 w2 w3 w4 w5 sw sh mo nw kp ik mr mw mq mz my mb mx mv ad ab ai0 ai1 cw cai ck csw csh ctx cr ct_ co_ cn_ ck_ ci_ cr_ cw_ cs_ cz_ cy_ cb2_ cx_ cv_ cd cb ci0 ci1 ty gr_3 fk fx ft_ fo_ fw fh la lb rt nl_ np_ nk_ ns_ nv_ ni_ nf_ ud zd fd ug_6 zg_4 fg_5 ui0 zi0 fi0 ui1 zi1 fi1 la_ lb_ lc_ ti_ cb_ ld_ le_ sm_ jb ta_ tl_ tk_ vl_ fn fk_ fi_ fr_ fw_ fs_ fz_ fb_ fy_ fx_ fv_)) hP hD [0, 1, 45, 46, 47, 48, 49, 50, 51, 52, 53, 54, 55, 56, 57, 58, 59, 60, 61, 62, 63, 64, 65, 66, 67, 68, 69, 70] rfl hk1 hP1 rfl rfl rfl
  generalize H1 = H at hP hS ⊢
  refine lv_pop hx hb dL_law_210 rfl ?_
  refine lv_aload_n hx hb dL_law_211 rfl (lv_at hl 1 rfl) ?_
  refine lv_aload_n hx hb dL_law_212 rfl (lv_at hl 3 rfl) ?_
  refine lv_iload_n hx hb dL_law_213 rfl (lv_at hl 0 rfl) ?_
  refine lv_iconst (v := 1) hx hb dL_law_214 (by decide) ?_
  refine lv_iadd hx hb dL_law_215 ?_
  refine tz_i (nI (i + 1)) (nI_add i 1) ?_
  refine va_sld hx hb hX hbl hbA hS (vp_in_nI (n := (i + 1)) (N := L) (by omega) (by omega)) dL_law_216 ?_
  refine tz_i (xs (i + 1)) (congrArg xs (nI_clamp (by omega))) ?_
  have hPc := hP.sub (ws' := [(mo, .inr (12, [.ref nw, .ref kp, .ref ik, .ref mr, .long la_, .long lb_, .ref mw, .long lc_, .int ti_, .int cb_, .long ld_, .long le_, .ref mq, .ref mz, .ref my, .int sm_, .ref mb, .int (nI jb), .int ta_, .int tl_, .int tk_, .int vl_, .ref mx, .ref mv])), (nw, .inl (cn_, 350, .inl fn)), (mr, .inl (cr_, 3, .inl fr_))]) [123, 124, 127] rfl
  have hDc := hD.sub (ws' := [(mo, .inr (12, [.ref nw, .ref kp, .ref ik, .ref mr, .long la_, .long lb_, .ref mw, .long lc_, .int ti_, .int cb_, .long ld_, .long le_, .ref mq, .ref mz, .ref my, .int sm_, .ref mb, .int (nI jb), .int ta_, .int tl_, .int tk_, .int vl_, .ref mx, .ref mv])), (nw, .inl (cn_, 350, .inl fn)), (mr, .inl (cr_, 3, .inl fr_))]) [123, 124, 127] (by decide) rfl
  have hKc := hK.sub (tys' := [(cn_, .int), (cr_, .int)]) [61, 64] rfl
  have hFc := va_free (wc := [(mo, .inr (12, [.ref nw, .ref kp, .ref ik, .ref mr, .long la_, .long lb_, .ref mw, .long lc_, .int ti_, .int cb_, .long ld_, .long le_, .ref mq, .ref mz, .ref my, .int sm_, .ref mb, .int (nI jb), .int ta_, .int tl_, .int tk_, .int vl_, .ref mx, .ref mv])), (nw, .inl (cn_, 350, .inl fn)), (mr, .inl (cr_, 3, .inl fr_))]) hD hS hA [123, 124, 127] rfl
  refine va_calli (va_runV (As := [.int (xs (i + 1))]) (rest := []) ⟨hx, hb, hml, hown, hts⟩ (m_clerk l dC dI mo nw kp ik mr la_ lb_ mw lc_ ti_ cb_ ld_ le_ mq mz my sm_ mb (nI jb) ta_ tl_ tk_ vl_ mx mv cn_ fn cr_ fr_ (xs (i + 1)) H.size hO_n) (cwV 1 hts gL_law_X12_clerk rfl rfl rfl (by decide +kernel) ⟨Nat.le_of_ble_eq_true rfl, Nat.le_of_ble_eq_true rfl⟩) ⟨fun a U g mk q => by obtain ⟨q0, q1, qP, qK, qD⟩ := q; exact ⟨q0, q1, qP, va_K.moved (u := U) (U := U.calling g mk a) (Vm.Alike.refl U.vm) qK, qD⟩, va_recv hK hP (ci := 12) (q0 := 123) rfl rfl, fun U hU hW => ⟨rfl, by rw [hU], by rw [hU]; exact hPc, va_K.moved hW.alike hKc, hDc.weaken (fun _ _ _ _ => trivial)⟩⟩ rfl rfl hl.1 rfl (lv_room (Nat.le_of_ble_eq_true rfl)) dL_law_217 ⟨Nat.le_of_ble_eq_true rfl, Nat.le_of_ble_eq_true rfl⟩) hS (fun q _ h => hFc q h) hFc (fun r_8 u_ t H1 locs ht hvm hw_9 hB hz1 hk1 hS => ?_)
  obtain ⟨gn_10, gr__11, hf_12, hP1, hK1, hD1⟩ := hB
  rw [ht] at hP1
  have hK1 := va_K.moved hvm.symm hK1
  obtain ⟨hP, hD⟩ := tz_put (ws' := (tz_XW o aw ai ak sc rd fo tx ar at_ ao w0 w1 w2 w3 w4 w5 sw sh mo nw kp ik mr mw mq mz my mb mx mv ad ab ai0 ai1 cw cai ck csw csh ctx cr ct_ co_ cn_ ck_ ci_ cr_ cw_ cs_ cz_ cy_ cb2_ cx_ cv_ cd cb ci0 ci1 ty gr_3 fk fx ft_ fo_ fw fh la lb rt nl_ np_ nk_ ns_ nv_ ni_ nf_ ud zd fd ug_6 zg_4 fg_5 ui0 zi0 fi0 ui1 zi1 fi1 la_ lb_ lc_ ti_ cb_ ld_ le_ sm_ jb ta_ tl_ tk_ vl_ gn_10 fk_ fi_ gr__11 fw_ fs_ fz_ fb_ fy_ fx_ fv_)) hP hD [123, 124, 127] rfl hk1 hP1 rfl rfl rfl
  generalize H1 = H at hP hS ⊢
  refine lv_pop hx hb dL_law_220 rfl ?_
  refine lv_goto (tgt := 1153) hx hb dL_law_221 (by decide) ?_
  exact K H _ ls ⟨ty, gr_3, fk, fx, ft_, fo_, fw, fh, la, lb, rt, nl_, np_, nk_, ns_, nv_, ni_, nf_, ud, zd, fd, ug_6, zg_4, fg_5, ui0, zi0, fi0, ui1, zi1, fi1, la_, lb_, lc_, ti_, cb_, ld_, le_, sm_, jb, ta_, tl_, tk_, vl_, gn_10, fk_, fi_, gr__11, fw_, fs_, fz_, fb_, fy_, fx_, fv_, hB_d, hf_7, hB_i0, hB_i1, hf_12, hO_k, hO_x, hO_b, hP, hD⟩ hS hl
set_option maxRecDepth 20000 in
theorem gL_law_X11_bundle : GoodIn lw_tbl (wsV RL 23 RX11 yX11_bundle wsX11_bundle) := tz_good [(9, 7), (9, 8), (9, 9), (0, 2), (9, 10), (1, 10), (5, 20), (7, 4), (7, 5), (0, 2), (7, 6), (7, 7), (7, 8), (7, 9), (7, 10), (7, 11), (7, 12), (7, 13), (7, 14), (2, 6), (7, 15), (7, 16), (7, 17), (3, 4), (7, 18), (3, 15), (3, 20), (9, 11), (9, 12), (9, 13), (1, 9), (9, 14), (3, 6), (7, 23), (8, 0), (8, 1), (8, 2), (8, 3), (8, 4), (8, 5), (8, 6), (8, 7), (3, 22), (3, 21), (8, 8), (8, 9), (8, 10), (8, 11), (46, 0), (46, 1), (46, 2), (46, 3), (46, 4), (46, 5), (46, 6), (46, 7), (46, 8), (46, 9), (46, 10), (46, 11), (54, 0), (54, 1), (54, 2), (54, 3), (54, 4), (54, 5), (58, 0), (58, 1), (58, 2), (58, 3)] (by decide +kernel) (by decide +kernel)
set_option maxRecDepth 20000 in
theorem gL_law_X12_bundle : GoodIn lw_tbl (wsV RL 27 RX12 yX12_bundle wsX12_bundle) := tz_good [(9, 15), (9, 16), (9, 17), (0, 5), (9, 18), (9, 19), (9, 20), (5, 4), (8, 17), (8, 18), (0, 5), (8, 19), (8, 20), (8, 21), (8, 22), (8, 23), (5, 7), (9, 0), (9, 1), (9, 2), (9, 3), (9, 21), (9, 22), (9, 23), (47, 0), (47, 1), (47, 2), (47, 3), (47, 4), (47, 5), (47, 6), (47, 7), (47, 8), (47, 9), (47, 10), (47, 11), (47, 12), (47, 13), (47, 14), (47, 15), (47, 16), (47, 17), (47, 18), (47, 19), (47, 20), (47, 21), (47, 22), (47, 23)] (by decide +kernel) (by decide +kernel)
theorem dL_law_224 : decode cL_law 224 = .ok (.aload_n 1, 1) := by decide +kernel
theorem dL_law_225 : decode cL_law 225 = .ok (.aload_n 0, 1) := by decide +kernel
theorem dL_law_226 : decode cL_law 226 = .ok (.iload_n 3, 1) := by decide +kernel
theorem dL_law_227 : decode cL_law 227 = .ok (.iconst 1, 1) := by decide +kernel
theorem dL_law_228 : decode cL_law 228 = .ok (.iadd, 1) := by decide +kernel
theorem dL_law_229 : decode cL_law 229 = .ok (.iaload, 1) := by decide +kernel
theorem dL_law_230 : decode cL_law 230 = .ok (.aload_n 0, 1) := by decide +kernel
theorem dL_law_231 : decode cL_law 231 = .ok (.iload_n 3, 1) := by decide +kernel
theorem dL_law_232 : decode cL_law 232 = .ok (.iconst 2, 1) := by decide +kernel
theorem dL_law_233 : decode cL_law 233 = .ok (.iadd, 1) := by decide +kernel
theorem dL_law_234 : decode cL_law 234 = .ok (.iaload, 1) := by decide +kernel
theorem dL_law_235 : decode cL_law 235 = .ok (.invokevirtual 23, 3) := by decide +kernel
theorem dL_law_238 : decode cL_law 238 = .ok (.pop, 1) := by decide +kernel
theorem dL_law_239 : decode cL_law 239 = .ok (.aload_n 2, 1) := by decide +kernel
theorem dL_law_240 : decode cL_law 240 = .ok (.aload_n 0, 1) := by decide +kernel
theorem dL_law_241 : decode cL_law 241 = .ok (.iload_n 3, 1) := by decide +kernel
theorem dL_law_242 : decode cL_law 242 = .ok (.iconst 1, 1) := by decide +kernel
theorem dL_law_243 : decode cL_law 243 = .ok (.iadd, 1) := by decide +kernel
theorem dL_law_244 : decode cL_law 244 = .ok (.iaload, 1) := by decide +kernel
theorem dL_law_245 : decode cL_law 245 = .ok (.aload_n 0, 1) := by decide +kernel
theorem dL_law_246 : decode cL_law 246 = .ok (.iload_n 3, 1) := by decide +kernel
theorem dL_law_247 : decode cL_law 247 = .ok (.iconst 2, 1) := by decide +kernel
theorem dL_law_248 : decode cL_law 248 = .ok (.iadd, 1) := by decide +kernel
theorem dL_law_249 : decode cL_law 249 = .ok (.iaload, 1) := by decide +kernel
theorem dL_law_250 : decode cL_law 250 = .ok (.invokevirtual 27, 3) := by decide +kernel
theorem dL_law_253 : decode cL_law 253 = .ok (.pop, 1) := by decide +kernel
theorem dL_law_254 : decode cL_law 254 = .ok (.goto 899, 3) := by decide +kernel
set_option maxHeartbeats 8000000 in
set_option maxRecDepth 100000 in
theorem lc_bundle {p : Program} {l : Launch} {e : Env} {s : State} {m : MethodId} {below : List Frame} {meth : Method} {c : Code} {b L : Nat} {xs : Nat → Int32} (hL : L ≤ 3072) (C0 : lw_At p s m meth c b L xs) (hN : tz_N s) (A : Nat → Prop) (hA : ∀ q : Nat, s.heap.size ≤ q → A q) (hA2 : ∀ q : Nat, A q → s.heap.size ≤ q) (hbA : ¬ A b) (hV : tz_V A s s.heap) (dC : Nat → ClassId) (dI : Nat → Nat → Nat) (o : Nat) (aw : Nat) (ai : Nat) (ak : Nat) (sc : Nat) (rd : Nat) (fo : Nat) (tx : Nat) (ar : Nat) (at_ : Nat) (ao : Nat) (w0 : Nat) (w1 : Nat) (w2 : Nat) (w3 : Nat) (w4 : Nat) (w5 : Nat) (sw : Nat) (sh : Nat) (mo : Nat) (nw : Nat) (kp : Nat) (ik : Nat) (mr : Nat) (mw : Nat) (mq : Nat) (mz : Nat) (my : Nat) (mb : Nat) (mx : Nat) (mv : Nat) (ad : Nat → Nat) (ab : Nat → Nat) (ai0 : Nat → Nat) (ai1 : Nat → Nat) (cw : ClassId) (cai : ClassId) (ck : ClassId) (csw : ClassId) (csh : ClassId) (ctx : ClassId) (cr : ClassId) (ct_ : ClassId) (co_ : ClassId) (cn_ : ClassId) (ck_ : ClassId) (ci_ : ClassId) (cr_ : ClassId) (cw_ : ClassId) (cs_ : ClassId) (cz_ : ClassId) (cy_ : ClassId) (cb2_ : ClassId) (cx_ : ClassId) (cv_ : ClassId) (cd : Nat → ClassId) (cb : Nat → ClassId) (ci0 : Nat → ClassId) (ci1 : Nat → ClassId) (hK : va_K (dC, dI) vwCl (tz_T cw cai ck csw csh ctx cr ct_ co_ cn_ ck_ ci_ cr_ cw_ cs_ cz_ cy_ cb2_ cx_ cv_ cd cb ci0 ci1) s) (i : Nat) (hi : i + 6 ≤ L) (H : Heap) (locs : List Loc) (hI : tz_I dC dI o aw ai ak sc rd fo tx ar at_ ao w0 w1 w2 w3 w4 w5 sw sh mo nw kp ik mr mw mq mz my mb mx mv ad ab ai0 ai1 cw cai ck csw csh ctx cr ct_ co_ cn_ ck_ ci_ cr_ cw_ cs_ cz_ cy_ cb2_ cx_ cv_ cd cb ci0 ci1 A H) (hS : va_S A s.heap H locs) (ls : Array Slot) (hl : lv_has ls 4 [(3, .int (nI i)), (2, .ref mo), (1, .ref o), (0, .ref b)]) (K : ∀ (H : Heap) (locs : List Loc) (ls : Array Slot), tz_I dC dI o aw ai ak sc rd fo tx ar at_ ao w0 w1 w2 w3 w4 w5 sw sh mo nw kp ik mr mw mq mz my mb mx mv ad ab ai0 ai1 cw cai ck csw csh ctx cr ct_ co_ cn_ ck_ ci_ cr_ cw_ cs_ cz_ cy_ cb2_ cx_ cv_ cd cb ci0 ci1 A H → va_S A s.heap H locs → lv_has ls 4 [(3, .int (nI i)), (2, .ref mo), (1, .ref o), (0, .ref b)] → W p l e room_1 s m #[Value.ref b] below meth c H locs 136 3195 (lw_Z below #[Value.ref b] s) (F0 m 1153 ls [])) : W p l e room_1 s m #[Value.ref b] below meth c H locs 136 3195 (lw_Z below #[Value.ref b] s) (F0 m 224 ls []) := by
  obtain ⟨hx, hb, hr, hml, hown, hts, hX, hbl, hlocks, hgv⟩ := C0
  have hb : c.code = cL_law := hb
  have hown : s.vm.findClass RL = some m.cls := hown
  obtain ⟨ty, fr, fk, fx, ft_, fo_, fw, fh, la, lb, rt, nl_, np_, nk_, ns_, nv_, ni_, nf_, ud, zd, fd, ub, zb, fb, ui0, zi0, fi0, ui1, zi1, fi1, la_, lb_, lc_, ti_, cb_, ld_, le_, sm_, jb, ta_, tl_, tk_, vl_, fn, fk_, fi_, fr_, fw_, fs_, fz_, fb_, fy_, fx_, fv_, hB_d, hB_b, hB_i0, hB_i1, hO_n, hO_k, hO_x, hO_b, hP, hD⟩ := hI
  have hu_zd := hB_d.2
  have hu_zb := hB_b.2
  have hu_zi0 := hB_i0.2
  have hu_zi1 := hB_i1.2
  refine lv_aload_n hx hb dL_law_224 rfl (lv_at hl 2 rfl) ?_
  refine lv_aload_n hx hb dL_law_225 rfl (lv_at hl 3 rfl) ?_
  refine lv_iload_n hx hb dL_law_226 rfl (lv_at hl 0 rfl) ?_
  refine lv_iconst (v := 1) hx hb dL_law_227 (by decide) ?_
  refine lv_iadd hx hb dL_law_228 ?_
  refine tz_i (nI (i + 1)) (nI_add i 1) ?_
  refine va_sld hx hb hX hbl hbA hS (vp_in_nI (n := (i + 1)) (N := L) (by omega) (by omega)) dL_law_229 ?_
  refine tz_i (xs (i + 1)) (congrArg xs (nI_clamp (by omega))) ?_
  refine lv_aload_n hx hb dL_law_230 rfl (lv_at hl 3 rfl) ?_
  refine lv_iload_n hx hb dL_law_231 rfl (lv_at hl 0 rfl) ?_
  refine lv_iconst (v := 2) hx hb dL_law_232 (by decide) ?_
  refine lv_iadd hx hb dL_law_233 ?_
  refine tz_i (nI (i + 2)) (nI_add i 2) ?_
  refine va_sld hx hb hX hbl hbA hS (vp_in_nI (n := (i + 2)) (N := L) (by omega) (by omega)) dL_law_234 ?_
  refine tz_i (xs (i + 2)) (congrArg xs (nI_clamp (by omega))) ?_
  have hPc := hP.sub (ws' := [(o, .inr (11, [.ref aw, .ref (ab 0), .ref ai, .ref ak, .ref sc, .ref rd, .ref fo, .ref tx, .int ty, .ref ar, .ref at_, .ref ao])), (ar, .inl (cr, 3, .inl fr)), ((ab 0), .inr (0, [.ref (ab 1), .ref (ab 3), .ref (ab 5), .ref (ab 7), .ref (ab 9), .int (nI ub)])), ((ab 1), .inr (6, [.int 1, .int 5, .ref (ab 2), .int (nI (zb 0))])), ((ab 2), .inl ((cb 0), 5, .inl (fb 0))), ((ab 3), .inr (6, [.int 4, .int 5, .ref (ab 4), .int (nI (zb 1))])), ((ab 4), .inl ((cb 1), 20, .inl (fb 1))), ((ab 5), .inr (6, [.int 4, .int 8, .ref (ab 6), .int (nI (zb 2))])), ((ab 6), .inl ((cb 2), 32, .inl (fb 2))), ((ab 7), .inr (6, [.int 4, .int 6, .ref (ab 8), .int (nI (zb 3))])), ((ab 8), .inl ((cb 3), 24, .inl (fb 3))), ((ab 9), .inl ((cb 12), 8, .inr (.inr (.inr (.inr (tz_ear ab)))))), ((ab 10), .inr (6, [.int 4, .int 8, .ref (ab 11), .int (nI (zb 4))])), ((ab 11), .inl ((cb 4), 32, .inl (fb 4))), ((ab 12), .inr (6, [.int 4, .int 8, .ref (ab 13), .int (nI (zb 5))])), ((ab 13), .inl ((cb 5), 32, .inl (fb 5))), ((ab 14), .inr (6, [.int 4, .int 8, .ref (ab 15), .int (nI (zb 6))])), ((ab 15), .inl ((cb 6), 32, .inl (fb 6))), ((ab 16), .inr (6, [.int 4, .int 8, .ref (ab 17), .int (nI (zb 7))])), ((ab 17), .inl ((cb 7), 32, .inl (fb 7))), ((ab 18), .inr (6, [.int 4, .int 8, .ref (ab 19), .int (nI (zb 8))])), ((ab 19), .inl ((cb 8), 32, .inl (fb 8))), ((ab 20), .inr (6, [.int 4, .int 8, .ref (ab 21), .int (nI (zb 9))])), ((ab 21), .inl ((cb 9), 32, .inl (fb 9))), ((ab 22), .inr (6, [.int 4, .int 8, .ref (ab 23), .int (nI (zb 10))])), ((ab 23), .inl ((cb 10), 32, .inl (fb 10))), ((ab 24), .inr (6, [.int 4, .int 8, .ref (ab 25), .int (nI (zb 11))])), ((ab 25), .inl ((cb 11), 32, .inl (fb 11)))]) [0, 1, 45, 46, 47, 48, 49, 50, 51, 52, 53, 54, 55, 56, 57, 58, 59, 60, 61, 62, 63, 64, 65, 66, 67, 68, 69, 70] rfl
  have hDc := hD.sub (ws' := [(o, .inr (11, [.ref aw, .ref (ab 0), .ref ai, .ref ak, .ref sc, .ref rd, .ref fo, .ref tx, .int ty, .ref ar, .ref at_, .ref ao])), (ar, .inl (cr, 3, .inl fr)), ((ab 0), .inr (0, [.ref (ab 1), .ref (ab 3), .ref (ab 5), .ref (ab 7), .ref (ab 9), .int (nI ub)])), ((ab 1), .inr (6, [.int 1, .int 5, .ref (ab 2), .int (nI (zb 0))])), ((ab 2), .inl ((cb 0), 5, .inl (fb 0))), ((ab 3), .inr (6, [.int 4, .int 5, .ref (ab 4), .int (nI (zb 1))])), ((ab 4), .inl ((cb 1), 20, .inl (fb 1))), ((ab 5), .inr (6, [.int 4, .int 8, .ref (ab 6), .int (nI (zb 2))])), ((ab 6), .inl ((cb 2), 32, .inl (fb 2))), ((ab 7), .inr (6, [.int 4, .int 6, .ref (ab 8), .int (nI (zb 3))])), ((ab 8), .inl ((cb 3), 24, .inl (fb 3))), ((ab 9), .inl ((cb 12), 8, .inr (.inr (.inr (.inr (tz_ear ab)))))), ((ab 10), .inr (6, [.int 4, .int 8, .ref (ab 11), .int (nI (zb 4))])), ((ab 11), .inl ((cb 4), 32, .inl (fb 4))), ((ab 12), .inr (6, [.int 4, .int 8, .ref (ab 13), .int (nI (zb 5))])), ((ab 13), .inl ((cb 5), 32, .inl (fb 5))), ((ab 14), .inr (6, [.int 4, .int 8, .ref (ab 15), .int (nI (zb 6))])), ((ab 15), .inl ((cb 6), 32, .inl (fb 6))), ((ab 16), .inr (6, [.int 4, .int 8, .ref (ab 17), .int (nI (zb 7))])), ((ab 17), .inl ((cb 7), 32, .inl (fb 7))), ((ab 18), .inr (6, [.int 4, .int 8, .ref (ab 19), .int (nI (zb 8))])), ((ab 19), .inl ((cb 8), 32, .inl (fb 8))), ((ab 20), .inr (6, [.int 4, .int 8, .ref (ab 21), .int (nI (zb 9))])), ((ab 21), .inl ((cb 9), 32, .inl (fb 9))), ((ab 22), .inr (6, [.int 4, .int 8, .ref (ab 23), .int (nI (zb 10))])), ((ab 23), .inl ((cb 10), 32, .inl (fb 10))), ((ab 24), .inr (6, [.int 4, .int 8, .ref (ab 25), .int (nI (zb 11))])), ((ab 25), .inl ((cb 11), 32, .inl (fb 11)))]) [0, 1, 45, 46, 47, 48, 49, 50, 51, 52, 53, 54, 55, 56, 57, 58, 59, 60, 61, 62, 63, 64, 65, 66, 67, 68, 69, 70] (by decide) rfl
  have hKc := hK.sub (tys' := [(cr, .int), ((cb 0), .int), ((cb 1), .int), ((cb 2), .int), ((cb 3), .int), ((cb 12), (.object "ThriceCounted$Rows")), ((cb 4), .int), ((cb 5), .int), ((cb 6), .int), ((cb 7), .int), ((cb 8), .int), ((cb 9), .int), ((cb 10), .int), ((cb 11), .int)]) [0, 22, 23, 24, 25, 26, 27, 28, 29, 30, 31, 32, 33, 34] rfl
  have hFc := va_free (wc := [(o, .inr (11, [.ref aw, .ref (ab 0), .ref ai, .ref ak, .ref sc, .ref rd, .ref fo, .ref tx, .int ty, .ref ar, .ref at_, .ref ao])), (ar, .inl (cr, 3, .inl fr)), ((ab 0), .inr (0, [.ref (ab 1), .ref (ab 3), .ref (ab 5), .ref (ab 7), .ref (ab 9), .int (nI ub)])), ((ab 1), .inr (6, [.int 1, .int 5, .ref (ab 2), .int (nI (zb 0))])), ((ab 2), .inl ((cb 0), 5, .inl (fb 0))), ((ab 3), .inr (6, [.int 4, .int 5, .ref (ab 4), .int (nI (zb 1))])), ((ab 4), .inl ((cb 1), 20, .inl (fb 1))), ((ab 5), .inr (6, [.int 4, .int 8, .ref (ab 6), .int (nI (zb 2))])), ((ab 6), .inl ((cb 2), 32, .inl (fb 2))), ((ab 7), .inr (6, [.int 4, .int 6, .ref (ab 8), .int (nI (zb 3))])), ((ab 8), .inl ((cb 3), 24, .inl (fb 3))), ((ab 9), .inl ((cb 12), 8, .inr (.inr (.inr (.inr (tz_ear ab)))))), ((ab 10), .inr (6, [.int 4, .int 8, .ref (ab 11), .int (nI (zb 4))])), ((ab 11), .inl ((cb 4), 32, .inl (fb 4))), ((ab 12), .inr (6, [.int 4, .int 8, .ref (ab 13), .int (nI (zb 5))])), ((ab 13), .inl ((cb 5), 32, .inl (fb 5))), ((ab 14), .inr (6, [.int 4, .int 8, .ref (ab 15), .int (nI (zb 6))])), ((ab 15), .inl ((cb 6), 32, .inl (fb 6))), ((ab 16), .inr (6, [.int 4, .int 8, .ref (ab 17), .int (nI (zb 7))])), ((ab 17), .inl ((cb 7), 32, .inl (fb 7))), ((ab 18), .inr (6, [.int 4, .int 8, .ref (ab 19), .int (nI (zb 8))])), ((ab 19), .inl ((cb 8), 32, .inl (fb 8))), ((ab 20), .inr (6, [.int 4, .int 8, .ref (ab 21), .int (nI (zb 9))])), ((ab 21), .inl ((cb 9), 32, .inl (fb 9))), ((ab 22), .inr (6, [.int 4, .int 8, .ref (ab 23), .int (nI (zb 10))])), ((ab 23), .inl ((cb 10), 32, .inl (fb 10))), ((ab 24), .inr (6, [.int 4, .int 8, .ref (ab 25), .int (nI (zb 11))])), ((ab 25), .inl ((cb 11), 32, .inl (fb 11)))]) hD hS hA [0, 1, 45, 46, 47, 48, 49, 50, 51, 52, 53, 54, 55, 56, 57, 58, 59, 60, 61, 62, 63, 64, 65, 66, 67, 68, 69, 70] rfl
  refine va_calli (va_runV (As := [.int (xs (i + 1)), .int (xs (i + 2))]) (rest := []) ⟨hx, hb, hml, hown, hts⟩ (x_bundle l dC dI o aw ab ai ak sc rd fo tx ty ar at_ ao cr fr ub zb cb fb (xs (i + 1)) (xs (i + 2)) H.size ⟨hB_b.1, show ub ≤ 8 by omega⟩) (cwV 2 hts gL_law_X11_bundle rfl rfl rfl (by decide +kernel) ⟨Nat.le_of_ble_eq_true rfl, Nat.le_of_ble_eq_true rfl⟩) ⟨fun a U g mk q => by obtain ⟨q0, q1, qP, qK, qD⟩ := q; exact ⟨q0, q1, qP, va_K.moved (u := U) (U := U.calling g mk a) (Vm.Alike.refl U.vm) qK, qD⟩, va_recv hK hP (ci := 11) (q0 := 0) rfl rfl, fun U hU hW => ⟨rfl, by rw [hU], by rw [hU]; exact hPc, va_K.moved hW.alike hKc, hDc.weaken (fun _ _ _ _ => trivial)⟩⟩ rfl rfl hl.1 rfl (lv_room (Nat.le_of_ble_eq_true rfl)) dL_law_235 ⟨Nat.le_of_ble_eq_true rfl, Nat.le_of_ble_eq_true rfl⟩) hS (fun q _ h => hFc q h) hFc (fun r_1 u_ t H1 locs ht hvm hw_2 hB hz1 hk1 hS => ?_)
  obtain ⟨gr_3, zg_4, fg_5, ug_6, hf_7, hP1, hK1, hD1⟩ := hB
  have hz_zg_4_0 : zg_4 0 ≤ 5 := hf_7.1 0
  have hz_zg_4_1 : zg_4 1 ≤ 5 := hf_7.1 1
  have hz_zg_4_2 : zg_4 2 ≤ 8 := hf_7.1 2
  have hz_zg_4_3 : zg_4 3 ≤ 6 := hf_7.1 3
  have hz_zg_4_4 : zg_4 4 ≤ 8 := hf_7.1 4
  have hz_zg_4_5 : zg_4 5 ≤ 8 := hf_7.1 5
  have hz_zg_4_6 : zg_4 6 ≤ 8 := hf_7.1 6
  have hz_zg_4_7 : zg_4 7 ≤ 8 := hf_7.1 7
  have hz_zg_4_8 : zg_4 8 ≤ 8 := hf_7.1 8
  have hz_zg_4_9 : zg_4 9 ≤ 8 := hf_7.1 9
  have hz_zg_4_10 : zg_4 10 ≤ 8 := hf_7.1 10
  have hz_zg_4_11 : zg_4 11 ≤ 8 := hf_7.1 11
  have hu_zg_4 := hf_7.2
  rw [ht] at hP1
  have hK1 := va_K.moved hvm.symm hK1
  obtain ⟨hP, hD⟩ := tz_put (ws' := (tz_XW o aw ai ak sc rd fo tx ar at_ ao w0 w1 w2 w3 w4 w5 sw sh mo nw kp ik mr mw mq mz my mb mx mv ad ab ai0 ai1 cw cai ck csw csh ctx cr ct_ co_ cn_ ck_ ci_ cr_ cw_ cs_ cz_ cy_ cb2_ cx_ cv_ cd cb ci0 ci1 ty gr_3 fk fx ft_ fo_ fw fh la lb rt nl_ np_ nk_ ns_ nv_ ni_ nf_ ud zd fd ug_6 zg_4 fg_5 ui0 zi0 fi0 ui1 zi1 fi1 la_ lb_ lc_ ti_ cb_ ld_ le_ sm_ jb ta_ tl_ tk_ vl_ fn fk_ fi_ fr_ fw_ fs_ fz_ fb_ fy_ fx_ fv_)) hP hD [0, 1, 45, 46, 47, 48, 49, 50, 51, 52, 53, 54, 55, 56, 57, 58, 59, 60, 61, 62, 63, 64, 65, 66, 67, 68, 69, 70] rfl hk1 hP1 rfl rfl rfl
  generalize H1 = H at hP hS ⊢
  refine lv_pop hx hb dL_law_238 rfl ?_
  refine lv_aload_n hx hb dL_law_239 rfl (lv_at hl 1 rfl) ?_
  refine lv_aload_n hx hb dL_law_240 rfl (lv_at hl 3 rfl) ?_
  refine lv_iload_n hx hb dL_law_241 rfl (lv_at hl 0 rfl) ?_
  refine lv_iconst (v := 1) hx hb dL_law_242 (by decide) ?_
  refine lv_iadd hx hb dL_law_243 ?_
  refine tz_i (nI (i + 1)) (nI_add i 1) ?_
  refine va_sld hx hb hX hbl hbA hS (vp_in_nI (n := (i + 1)) (N := L) (by omega) (by omega)) dL_law_244 ?_
  refine tz_i (xs (i + 1)) (congrArg xs (nI_clamp (by omega))) ?_
  refine lv_aload_n hx hb dL_law_245 rfl (lv_at hl 3 rfl) ?_
  refine lv_iload_n hx hb dL_law_246 rfl (lv_at hl 0 rfl) ?_
  refine lv_iconst (v := 2) hx hb dL_law_247 (by decide) ?_
  refine lv_iadd hx hb dL_law_248 ?_
  refine tz_i (nI (i + 2)) (nI_add i 2) ?_
  refine va_sld hx hb hX hbl hbA hS (vp_in_nI (n := (i + 2)) (N := L) (by omega) (by omega)) dL_law_249 ?_
  refine tz_i (xs (i + 2)) (congrArg xs (nI_clamp (by omega))) ?_
  have hPc := hP.sub (ws' := [(mo, .inr (12, [.ref nw, .ref kp, .ref ik, .ref mr, .long la_, .long lb_, .ref mw, .long lc_, .int ti_, .int cb_, .long ld_, .long le_, .ref mq, .ref mz, .ref my, .int sm_, .ref mb, .int (nI jb), .int ta_, .int tl_, .int tk_, .int vl_, .ref mx, .ref mv])), (nw, .inl (cn_, 350, .inl fn)), (mr, .inl (cr_, 3, .inl fr_))]) [123, 124, 127] rfl
  have hDc := hD.sub (ws' := [(mo, .inr (12, [.ref nw, .ref kp, .ref ik, .ref mr, .long la_, .long lb_, .ref mw, .long lc_, .int ti_, .int cb_, .long ld_, .long le_, .ref mq, .ref mz, .ref my, .int sm_, .ref mb, .int (nI jb), .int ta_, .int tl_, .int tk_, .int vl_, .ref mx, .ref mv])), (nw, .inl (cn_, 350, .inl fn)), (mr, .inl (cr_, 3, .inl fr_))]) [123, 124, 127] (by decide) rfl
  have hKc := hK.sub (tys' := [(cn_, .int), (cr_, .int)]) [61, 64] rfl
  have hFc := va_free (wc := [(mo, .inr (12, [.ref nw, .ref kp, .ref ik, .ref mr, .long la_, .long lb_, .ref mw, .long lc_, .int ti_, .int cb_, .long ld_, .long le_, .ref mq, .ref mz, .ref my, .int sm_, .ref mb, .int (nI jb), .int ta_, .int tl_, .int tk_, .int vl_, .ref mx, .ref mv])), (nw, .inl (cn_, 350, .inl fn)), (mr, .inl (cr_, 3, .inl fr_))]) hD hS hA [123, 124, 127] rfl
  refine va_calli (va_runV (As := [.int (xs (i + 1)), .int (xs (i + 2))]) (rest := []) ⟨hx, hb, hml, hown, hts⟩ (m_bundle l dC dI mo nw kp ik mr la_ lb_ mw lc_ ti_ cb_ ld_ le_ mq mz my sm_ mb (nI jb) ta_ tl_ tk_ vl_ mx mv cn_ fn cr_ fr_ (xs (i + 1)) (xs (i + 2)) H.size hO_n) (cwV 2 hts gL_law_X12_bundle rfl rfl rfl (by decide +kernel) ⟨Nat.le_of_ble_eq_true rfl, Nat.le_of_ble_eq_true rfl⟩) ⟨fun a U g mk q => by obtain ⟨q0, q1, qP, qK, qD⟩ := q; exact ⟨q0, q1, qP, va_K.moved (u := U) (U := U.calling g mk a) (Vm.Alike.refl U.vm) qK, qD⟩, va_recv hK hP (ci := 12) (q0 := 123) rfl rfl, fun U hU hW => ⟨rfl, by rw [hU], by rw [hU]; exact hPc, va_K.moved hW.alike hKc, hDc.weaken (fun _ _ _ _ => trivial)⟩⟩ rfl rfl hl.1 rfl (lv_room (Nat.le_of_ble_eq_true rfl)) dL_law_250 ⟨Nat.le_of_ble_eq_true rfl, Nat.le_of_ble_eq_true rfl⟩) hS (fun q _ h => hFc q h) hFc (fun r_8 u_ t H1 locs ht hvm hw_9 hB hz1 hk1 hS => ?_)
  obtain ⟨gn_10, gr__11, hf_12, hP1, hK1, hD1⟩ := hB
  rw [ht] at hP1
  have hK1 := va_K.moved hvm.symm hK1
  obtain ⟨hP, hD⟩ := tz_put (ws' := (tz_XW o aw ai ak sc rd fo tx ar at_ ao w0 w1 w2 w3 w4 w5 sw sh mo nw kp ik mr mw mq mz my mb mx mv ad ab ai0 ai1 cw cai ck csw csh ctx cr ct_ co_ cn_ ck_ ci_ cr_ cw_ cs_ cz_ cy_ cb2_ cx_ cv_ cd cb ci0 ci1 ty gr_3 fk fx ft_ fo_ fw fh la lb rt nl_ np_ nk_ ns_ nv_ ni_ nf_ ud zd fd ug_6 zg_4 fg_5 ui0 zi0 fi0 ui1 zi1 fi1 la_ lb_ lc_ ti_ cb_ ld_ le_ sm_ jb ta_ tl_ tk_ vl_ gn_10 fk_ fi_ gr__11 fw_ fs_ fz_ fb_ fy_ fx_ fv_)) hP hD [123, 124, 127] rfl hk1 hP1 rfl rfl rfl
  generalize H1 = H at hP hS ⊢
  refine lv_pop hx hb dL_law_253 rfl ?_
  refine lv_goto (tgt := 1153) hx hb dL_law_254 (by decide) ?_
  exact K H _ ls ⟨ty, gr_3, fk, fx, ft_, fo_, fw, fh, la, lb, rt, nl_, np_, nk_, ns_, nv_, ni_, nf_, ud, zd, fd, ug_6, zg_4, fg_5, ui0, zi0, fi0, ui1, zi1, fi1, la_, lb_, lc_, ti_, cb_, ld_, le_, sm_, jb, ta_, tl_, tk_, vl_, gn_10, fk_, fi_, gr__11, fw_, fs_, fz_, fb_, fy_, fx_, fv_, hB_d, hf_7, hB_i0, hB_i1, hf_12, hO_k, hO_x, hO_b, hP, hD⟩ hS hl
set_option maxRecDepth 20000 in
theorem gL_law_X11_band : GoodIn lw_tbl (wsV RL 28 RX11 yX11_band wsX11_band) := tz_good [(10, 0), (10, 1), (10, 2), (0, 2), (10, 3), (1, 10), (5, 20), (7, 3), (10, 4), (10, 5), (10, 6), (3, 4), (10, 7), (3, 15), (7, 4), (7, 5), (0, 2), (7, 6), (7, 7), (7, 8), (7, 9), (7, 10), (7, 11), (7, 12), (7, 13), (7, 14), (2, 6), (10, 8), (10, 9), (10, 10), (10, 11), (3, 22), (3, 21), (8, 8), (8, 9), (8, 10), (8, 11), (10, 12), (10, 13), (10, 14), (1, 9), (10, 15), (3, 6), (8, 4), (8, 5), (8, 6), (8, 7), (46, 0), (46, 1), (46, 2), (46, 3), (46, 4), (46, 5), (46, 6), (46, 7), (46, 8), (46, 9), (46, 10), (46, 11), (54, 0), (54, 1), (54, 2), (54, 3), (54, 4), (54, 5), (58, 0), (58, 1), (58, 2), (58, 3)] (by decide +kernel) (by decide +kernel)
set_option maxRecDepth 20000 in
theorem gL_law_X12_band : GoodIn lw_tbl (wsV RL 32 RX12 yX12_band wsX12_band) := tz_good [(10, 16), (10, 17), (10, 18), (0, 5), (10, 19), (9, 19), (9, 20), (5, 4), (10, 20), (10, 21), (10, 22), (0, 5), (10, 23), (8, 17), (8, 18), (8, 19), (11, 0), (11, 1), (11, 2), (11, 3), (8, 20), (8, 21), (8, 22), (8, 23), (5, 7), (11, 4), (11, 5), (11, 6), (11, 7), (11, 8), (11, 9), (11, 10), (47, 0), (47, 1), (47, 2), (47, 3), (47, 4), (47, 5), (47, 6), (47, 7), (47, 8), (47, 9), (47, 10), (47, 11), (47, 12), (47, 13), (47, 14), (47, 15), (47, 16), (47, 17), (47, 18), (47, 19), (47, 20), (47, 21), (47, 22), (47, 23)] (by decide +kernel) (by decide +kernel)
theorem dL_law_257 : decode cL_law 257 = .ok (.aload_n 1, 1) := by decide +kernel
theorem dL_law_258 : decode cL_law 258 = .ok (.aload_n 0, 1) := by decide +kernel
theorem dL_law_259 : decode cL_law 259 = .ok (.iload_n 3, 1) := by decide +kernel
theorem dL_law_260 : decode cL_law 260 = .ok (.iconst 1, 1) := by decide +kernel
theorem dL_law_261 : decode cL_law 261 = .ok (.iadd, 1) := by decide +kernel
theorem dL_law_262 : decode cL_law 262 = .ok (.iaload, 1) := by decide +kernel
theorem dL_law_263 : decode cL_law 263 = .ok (.aload_n 0, 1) := by decide +kernel
theorem dL_law_264 : decode cL_law 264 = .ok (.iload_n 3, 1) := by decide +kernel
theorem dL_law_265 : decode cL_law 265 = .ok (.iconst 2, 1) := by decide +kernel
theorem dL_law_266 : decode cL_law 266 = .ok (.iadd, 1) := by decide +kernel
theorem dL_law_267 : decode cL_law 267 = .ok (.iaload, 1) := by decide +kernel
theorem dL_law_268 : decode cL_law 268 = .ok (.aload_n 0, 1) := by decide +kernel
theorem dL_law_269 : decode cL_law 269 = .ok (.iload_n 3, 1) := by decide +kernel
theorem dL_law_270 : decode cL_law 270 = .ok (.iconst 3, 1) := by decide +kernel
theorem dL_law_271 : decode cL_law 271 = .ok (.iadd, 1) := by decide +kernel
theorem dL_law_272 : decode cL_law 272 = .ok (.iaload, 1) := by decide +kernel
theorem dL_law_273 : decode cL_law 273 = .ok (.invokevirtual 28, 3) := by decide +kernel
theorem dL_law_276 : decode cL_law 276 = .ok (.pop, 1) := by decide +kernel
theorem dL_law_277 : decode cL_law 277 = .ok (.aload_n 2, 1) := by decide +kernel
theorem dL_law_278 : decode cL_law 278 = .ok (.aload_n 0, 1) := by decide +kernel
theorem dL_law_279 : decode cL_law 279 = .ok (.iload_n 3, 1) := by decide +kernel
theorem dL_law_280 : decode cL_law 280 = .ok (.iconst 1, 1) := by decide +kernel
theorem dL_law_281 : decode cL_law 281 = .ok (.iadd, 1) := by decide +kernel
theorem dL_law_282 : decode cL_law 282 = .ok (.iaload, 1) := by decide +kernel
theorem dL_law_283 : decode cL_law 283 = .ok (.aload_n 0, 1) := by decide +kernel
theorem dL_law_284 : decode cL_law 284 = .ok (.iload_n 3, 1) := by decide +kernel
theorem dL_law_285 : decode cL_law 285 = .ok (.iconst 2, 1) := by decide +kernel
theorem dL_law_286 : decode cL_law 286 = .ok (.iadd, 1) := by decide +kernel
theorem dL_law_287 : decode cL_law 287 = .ok (.iaload, 1) := by decide +kernel
theorem dL_law_288 : decode cL_law 288 = .ok (.aload_n 0, 1) := by decide +kernel
theorem dL_law_289 : decode cL_law 289 = .ok (.iload_n 3, 1) := by decide +kernel
theorem dL_law_290 : decode cL_law 290 = .ok (.iconst 3, 1) := by decide +kernel
theorem dL_law_291 : decode cL_law 291 = .ok (.iadd, 1) := by decide +kernel
theorem dL_law_292 : decode cL_law 292 = .ok (.iaload, 1) := by decide +kernel
theorem dL_law_293 : decode cL_law 293 = .ok (.invokevirtual 32, 3) := by decide +kernel
theorem dL_law_296 : decode cL_law 296 = .ok (.pop, 1) := by decide +kernel
theorem dL_law_297 : decode cL_law 297 = .ok (.goto 856, 3) := by decide +kernel
set_option maxHeartbeats 8000000 in
set_option maxRecDepth 100000 in
theorem lc_band {p : Program} {l : Launch} {e : Env} {s : State} {m : MethodId} {below : List Frame} {meth : Method} {c : Code} {b L : Nat} {xs : Nat → Int32} (hL : L ≤ 3072) (C0 : lw_At p s m meth c b L xs) (hN : tz_N s) (A : Nat → Prop) (hA : ∀ q : Nat, s.heap.size ≤ q → A q) (hA2 : ∀ q : Nat, A q → s.heap.size ≤ q) (hbA : ¬ A b) (hV : tz_V A s s.heap) (dC : Nat → ClassId) (dI : Nat → Nat → Nat) (o : Nat) (aw : Nat) (ai : Nat) (ak : Nat) (sc : Nat) (rd : Nat) (fo : Nat) (tx : Nat) (ar : Nat) (at_ : Nat) (ao : Nat) (w0 : Nat) (w1 : Nat) (w2 : Nat) (w3 : Nat) (w4 : Nat) (w5 : Nat) (sw : Nat) (sh : Nat) (mo : Nat) (nw : Nat) (kp : Nat) (ik : Nat) (mr : Nat) (mw : Nat) (mq : Nat) (mz : Nat) (my : Nat) (mb : Nat) (mx : Nat) (mv : Nat) (ad : Nat → Nat) (ab : Nat → Nat) (ai0 : Nat → Nat) (ai1 : Nat → Nat) (cw : ClassId) (cai : ClassId) (ck : ClassId) (csw : ClassId) (csh : ClassId) (ctx : ClassId) (cr : ClassId) (ct_ : ClassId) (co_ : ClassId) (cn_ : ClassId) (ck_ : ClassId) (ci_ : ClassId) (cr_ : ClassId) (cw_ : ClassId) (cs_ : ClassId) (cz_ : ClassId) (cy_ : ClassId) (cb2_ : ClassId) (cx_ : ClassId) (cv_ : ClassId) (cd : Nat → ClassId) (cb : Nat → ClassId) (ci0 : Nat → ClassId) (ci1 : Nat → ClassId) (hK : va_K (dC, dI) vwCl (tz_T cw cai ck csw csh ctx cr ct_ co_ cn_ ck_ ci_ cr_ cw_ cs_ cz_ cy_ cb2_ cx_ cv_ cd cb ci0 ci1) s) (i : Nat) (hi : i + 6 ≤ L) (H : Heap) (locs : List Loc) (hI : tz_I dC dI o aw ai ak sc rd fo tx ar at_ ao w0 w1 w2 w3 w4 w5 sw sh mo nw kp ik mr mw mq mz my mb mx mv ad ab ai0 ai1 cw cai ck csw csh ctx cr ct_ co_ cn_ ck_ ci_ cr_ cw_ cs_ cz_ cy_ cb2_ cx_ cv_ cd cb ci0 ci1 A H) (hS : va_S A s.heap H locs) (ls : Array Slot) (hl : lv_has ls 4 [(3, .int (nI i)), (2, .ref mo), (1, .ref o), (0, .ref b)]) (K : ∀ (H : Heap) (locs : List Loc) (ls : Array Slot), tz_I dC dI o aw ai ak sc rd fo tx ar at_ ao w0 w1 w2 w3 w4 w5 sw sh mo nw kp ik mr mw mq mz my mb mx mv ad ab ai0 ai1 cw cai ck csw csh ctx cr ct_ co_ cn_ ck_ ci_ cr_ cw_ cs_ cz_ cy_ cb2_ cx_ cv_ cd cb ci0 ci1 A H → va_S A s.heap H locs → lv_has ls 4 [(3, .int (nI i)), (2, .ref mo), (1, .ref o), (0, .ref b)] → W p l e room_1 s m #[Value.ref b] below meth c H locs 136 3195 (lw_Z below #[Value.ref b] s) (F0 m 1153 ls [])) : W p l e room_1 s m #[Value.ref b] below meth c H locs 136 3195 (lw_Z below #[Value.ref b] s) (F0 m 257 ls []) := by
  obtain ⟨hx, hb, hr, hml, hown, hts, hX, hbl, hlocks, hgv⟩ := C0
  have hb : c.code = cL_law := hb
  have hown : s.vm.findClass RL = some m.cls := hown
  obtain ⟨ty, fr, fk, fx, ft_, fo_, fw, fh, la, lb, rt, nl_, np_, nk_, ns_, nv_, ni_, nf_, ud, zd, fd, ub, zb, fb, ui0, zi0, fi0, ui1, zi1, fi1, la_, lb_, lc_, ti_, cb_, ld_, le_, sm_, jb, ta_, tl_, tk_, vl_, fn, fk_, fi_, fr_, fw_, fs_, fz_, fb_, fy_, fx_, fv_, hB_d, hB_b, hB_i0, hB_i1, hO_n, hO_k, hO_x, hO_b, hP, hD⟩ := hI
  have hu_zd := hB_d.2
  have hu_zb := hB_b.2
  have hu_zi0 := hB_i0.2
  have hu_zi1 := hB_i1.2
  refine lv_aload_n hx hb dL_law_257 rfl (lv_at hl 2 rfl) ?_
  refine lv_aload_n hx hb dL_law_258 rfl (lv_at hl 3 rfl) ?_
  refine lv_iload_n hx hb dL_law_259 rfl (lv_at hl 0 rfl) ?_
  refine lv_iconst (v := 1) hx hb dL_law_260 (by decide) ?_
  refine lv_iadd hx hb dL_law_261 ?_
  refine tz_i (nI (i + 1)) (nI_add i 1) ?_
  refine va_sld hx hb hX hbl hbA hS (vp_in_nI (n := (i + 1)) (N := L) (by omega) (by omega)) dL_law_262 ?_
  refine tz_i (xs (i + 1)) (congrArg xs (nI_clamp (by omega))) ?_
  refine lv_aload_n hx hb dL_law_263 rfl (lv_at hl 3 rfl) ?_
  refine lv_iload_n hx hb dL_law_264 rfl (lv_at hl 0 rfl) ?_
  refine lv_iconst (v := 2) hx hb dL_law_265 (by decide) ?_
  refine lv_iadd hx hb dL_law_266 ?_
  refine tz_i (nI (i + 2)) (nI_add i 2) ?_
  refine va_sld hx hb hX hbl hbA hS (vp_in_nI (n := (i + 2)) (N := L) (by omega) (by omega)) dL_law_267 ?_
  refine tz_i (xs (i + 2)) (congrArg xs (nI_clamp (by omega))) ?_
  refine lv_aload_n hx hb dL_law_268 rfl (lv_at hl 3 rfl) ?_
  refine lv_iload_n hx hb dL_law_269 rfl (lv_at hl 0 rfl) ?_
  refine lv_iconst (v := 3) hx hb dL_law_270 (by decide) ?_
  refine lv_iadd hx hb dL_law_271 ?_
  refine tz_i (nI (i + 3)) (nI_add i 3) ?_
  refine va_sld hx hb hX hbl hbA hS (vp_in_nI (n := (i + 3)) (N := L) (by omega) (by omega)) dL_law_272 ?_
  refine tz_i (xs (i + 3)) (congrArg xs (nI_clamp (by omega))) ?_
  have hPc := hP.sub (ws' := [(o, .inr (11, [.ref aw, .ref (ab 0), .ref ai, .ref ak, .ref sc, .ref rd, .ref fo, .ref tx, .int ty, .ref ar, .ref at_, .ref ao])), (ar, .inl (cr, 3, .inl fr)), ((ab 0), .inr (0, [.ref (ab 1), .ref (ab 3), .ref (ab 5), .ref (ab 7), .ref (ab 9), .int (nI ub)])), ((ab 1), .inr (6, [.int 1, .int 5, .ref (ab 2), .int (nI (zb 0))])), ((ab 2), .inl ((cb 0), 5, .inl (fb 0))), ((ab 3), .inr (6, [.int 4, .int 5, .ref (ab 4), .int (nI (zb 1))])), ((ab 4), .inl ((cb 1), 20, .inl (fb 1))), ((ab 5), .inr (6, [.int 4, .int 8, .ref (ab 6), .int (nI (zb 2))])), ((ab 6), .inl ((cb 2), 32, .inl (fb 2))), ((ab 7), .inr (6, [.int 4, .int 6, .ref (ab 8), .int (nI (zb 3))])), ((ab 8), .inl ((cb 3), 24, .inl (fb 3))), ((ab 9), .inl ((cb 12), 8, .inr (.inr (.inr (.inr (tz_ear ab)))))), ((ab 10), .inr (6, [.int 4, .int 8, .ref (ab 11), .int (nI (zb 4))])), ((ab 11), .inl ((cb 4), 32, .inl (fb 4))), ((ab 12), .inr (6, [.int 4, .int 8, .ref (ab 13), .int (nI (zb 5))])), ((ab 13), .inl ((cb 5), 32, .inl (fb 5))), ((ab 14), .inr (6, [.int 4, .int 8, .ref (ab 15), .int (nI (zb 6))])), ((ab 15), .inl ((cb 6), 32, .inl (fb 6))), ((ab 16), .inr (6, [.int 4, .int 8, .ref (ab 17), .int (nI (zb 7))])), ((ab 17), .inl ((cb 7), 32, .inl (fb 7))), ((ab 18), .inr (6, [.int 4, .int 8, .ref (ab 19), .int (nI (zb 8))])), ((ab 19), .inl ((cb 8), 32, .inl (fb 8))), ((ab 20), .inr (6, [.int 4, .int 8, .ref (ab 21), .int (nI (zb 9))])), ((ab 21), .inl ((cb 9), 32, .inl (fb 9))), ((ab 22), .inr (6, [.int 4, .int 8, .ref (ab 23), .int (nI (zb 10))])), ((ab 23), .inl ((cb 10), 32, .inl (fb 10))), ((ab 24), .inr (6, [.int 4, .int 8, .ref (ab 25), .int (nI (zb 11))])), ((ab 25), .inl ((cb 11), 32, .inl (fb 11)))]) [0, 1, 45, 46, 47, 48, 49, 50, 51, 52, 53, 54, 55, 56, 57, 58, 59, 60, 61, 62, 63, 64, 65, 66, 67, 68, 69, 70] rfl
  have hDc := hD.sub (ws' := [(o, .inr (11, [.ref aw, .ref (ab 0), .ref ai, .ref ak, .ref sc, .ref rd, .ref fo, .ref tx, .int ty, .ref ar, .ref at_, .ref ao])), (ar, .inl (cr, 3, .inl fr)), ((ab 0), .inr (0, [.ref (ab 1), .ref (ab 3), .ref (ab 5), .ref (ab 7), .ref (ab 9), .int (nI ub)])), ((ab 1), .inr (6, [.int 1, .int 5, .ref (ab 2), .int (nI (zb 0))])), ((ab 2), .inl ((cb 0), 5, .inl (fb 0))), ((ab 3), .inr (6, [.int 4, .int 5, .ref (ab 4), .int (nI (zb 1))])), ((ab 4), .inl ((cb 1), 20, .inl (fb 1))), ((ab 5), .inr (6, [.int 4, .int 8, .ref (ab 6), .int (nI (zb 2))])), ((ab 6), .inl ((cb 2), 32, .inl (fb 2))), ((ab 7), .inr (6, [.int 4, .int 6, .ref (ab 8), .int (nI (zb 3))])), ((ab 8), .inl ((cb 3), 24, .inl (fb 3))), ((ab 9), .inl ((cb 12), 8, .inr (.inr (.inr (.inr (tz_ear ab)))))), ((ab 10), .inr (6, [.int 4, .int 8, .ref (ab 11), .int (nI (zb 4))])), ((ab 11), .inl ((cb 4), 32, .inl (fb 4))), ((ab 12), .inr (6, [.int 4, .int 8, .ref (ab 13), .int (nI (zb 5))])), ((ab 13), .inl ((cb 5), 32, .inl (fb 5))), ((ab 14), .inr (6, [.int 4, .int 8, .ref (ab 15), .int (nI (zb 6))])), ((ab 15), .inl ((cb 6), 32, .inl (fb 6))), ((ab 16), .inr (6, [.int 4, .int 8, .ref (ab 17), .int (nI (zb 7))])), ((ab 17), .inl ((cb 7), 32, .inl (fb 7))), ((ab 18), .inr (6, [.int 4, .int 8, .ref (ab 19), .int (nI (zb 8))])), ((ab 19), .inl ((cb 8), 32, .inl (fb 8))), ((ab 20), .inr (6, [.int 4, .int 8, .ref (ab 21), .int (nI (zb 9))])), ((ab 21), .inl ((cb 9), 32, .inl (fb 9))), ((ab 22), .inr (6, [.int 4, .int 8, .ref (ab 23), .int (nI (zb 10))])), ((ab 23), .inl ((cb 10), 32, .inl (fb 10))), ((ab 24), .inr (6, [.int 4, .int 8, .ref (ab 25), .int (nI (zb 11))])), ((ab 25), .inl ((cb 11), 32, .inl (fb 11)))]) [0, 1, 45, 46, 47, 48, 49, 50, 51, 52, 53, 54, 55, 56, 57, 58, 59, 60, 61, 62, 63, 64, 65, 66, 67, 68, 69, 70] (by decide) rfl
  have hKc := hK.sub (tys' := [(cr, .int), ((cb 0), .int), ((cb 1), .int), ((cb 2), .int), ((cb 3), .int), ((cb 12), (.object "ThriceCounted$Rows")), ((cb 4), .int), ((cb 5), .int), ((cb 6), .int), ((cb 7), .int), ((cb 8), .int), ((cb 9), .int), ((cb 10), .int), ((cb 11), .int)]) [0, 22, 23, 24, 25, 26, 27, 28, 29, 30, 31, 32, 33, 34] rfl
  have hFc := va_free (wc := [(o, .inr (11, [.ref aw, .ref (ab 0), .ref ai, .ref ak, .ref sc, .ref rd, .ref fo, .ref tx, .int ty, .ref ar, .ref at_, .ref ao])), (ar, .inl (cr, 3, .inl fr)), ((ab 0), .inr (0, [.ref (ab 1), .ref (ab 3), .ref (ab 5), .ref (ab 7), .ref (ab 9), .int (nI ub)])), ((ab 1), .inr (6, [.int 1, .int 5, .ref (ab 2), .int (nI (zb 0))])), ((ab 2), .inl ((cb 0), 5, .inl (fb 0))), ((ab 3), .inr (6, [.int 4, .int 5, .ref (ab 4), .int (nI (zb 1))])), ((ab 4), .inl ((cb 1), 20, .inl (fb 1))), ((ab 5), .inr (6, [.int 4, .int 8, .ref (ab 6), .int (nI (zb 2))])), ((ab 6), .inl ((cb 2), 32, .inl (fb 2))), ((ab 7), .inr (6, [.int 4, .int 6, .ref (ab 8), .int (nI (zb 3))])), ((ab 8), .inl ((cb 3), 24, .inl (fb 3))), ((ab 9), .inl ((cb 12), 8, .inr (.inr (.inr (.inr (tz_ear ab)))))), ((ab 10), .inr (6, [.int 4, .int 8, .ref (ab 11), .int (nI (zb 4))])), ((ab 11), .inl ((cb 4), 32, .inl (fb 4))), ((ab 12), .inr (6, [.int 4, .int 8, .ref (ab 13), .int (nI (zb 5))])), ((ab 13), .inl ((cb 5), 32, .inl (fb 5))), ((ab 14), .inr (6, [.int 4, .int 8, .ref (ab 15), .int (nI (zb 6))])), ((ab 15), .inl ((cb 6), 32, .inl (fb 6))), ((ab 16), .inr (6, [.int 4, .int 8, .ref (ab 17), .int (nI (zb 7))])), ((ab 17), .inl ((cb 7), 32, .inl (fb 7))), ((ab 18), .inr (6, [.int 4, .int 8, .ref (ab 19), .int (nI (zb 8))])), ((ab 19), .inl ((cb 8), 32, .inl (fb 8))), ((ab 20), .inr (6, [.int 4, .int 8, .ref (ab 21), .int (nI (zb 9))])), ((ab 21), .inl ((cb 9), 32, .inl (fb 9))), ((ab 22), .inr (6, [.int 4, .int 8, .ref (ab 23), .int (nI (zb 10))])), ((ab 23), .inl ((cb 10), 32, .inl (fb 10))), ((ab 24), .inr (6, [.int 4, .int 8, .ref (ab 25), .int (nI (zb 11))])), ((ab 25), .inl ((cb 11), 32, .inl (fb 11)))]) hD hS hA [0, 1, 45, 46, 47, 48, 49, 50, 51, 52, 53, 54, 55, 56, 57, 58, 59, 60, 61, 62, 63, 64, 65, 66, 67, 68, 69, 70] rfl
  refine va_calli (va_runV (As := [.int (xs (i + 1)), .int (xs (i + 2)), .int (xs (i + 3))]) (rest := []) ⟨hx, hb, hml, hown, hts⟩ (x_band l dC dI o aw ab ai ak sc rd fo tx ty ar at_ ao cr fr ub zb cb fb (xs (i + 1)) (xs (i + 2)) (xs (i + 3)) H.size ⟨hB_b.1, show ub ≤ 8 by omega⟩) (cwV 3 hts gL_law_X11_band rfl rfl rfl (by decide +kernel) ⟨Nat.le_of_ble_eq_true rfl, Nat.le_of_ble_eq_true rfl⟩) ⟨fun a U g mk q => by obtain ⟨q0, q1, qP, qK, qD⟩ := q; exact ⟨q0, q1, qP, va_K.moved (u := U) (U := U.calling g mk a) (Vm.Alike.refl U.vm) qK, qD⟩, va_recv hK hP (ci := 11) (q0 := 0) rfl rfl, fun U hU hW => ⟨rfl, by rw [hU], by rw [hU]; exact hPc, va_K.moved hW.alike hKc, hDc.weaken (fun _ _ _ _ => trivial)⟩⟩ rfl rfl hl.1 rfl (lv_room (Nat.le_of_ble_eq_true rfl)) dL_law_273 ⟨Nat.le_of_ble_eq_true rfl, Nat.le_of_ble_eq_true rfl⟩) hS (fun q _ h => hFc q h) hFc (fun r_1 u_ t H1 locs ht hvm hw_2 hB hz1 hk1 hS => ?_)
  obtain ⟨gr_3, zg_4, fg_5, ug_6, hf_7, hP1, hK1, hD1⟩ := hB
  have hz_zg_4_0 : zg_4 0 ≤ 5 := hf_7.1 0
  have hz_zg_4_1 : zg_4 1 ≤ 5 := hf_7.1 1
  have hz_zg_4_2 : zg_4 2 ≤ 8 := hf_7.1 2
  have hz_zg_4_3 : zg_4 3 ≤ 6 := hf_7.1 3
  have hz_zg_4_4 : zg_4 4 ≤ 8 := hf_7.1 4
  have hz_zg_4_5 : zg_4 5 ≤ 8 := hf_7.1 5
  have hz_zg_4_6 : zg_4 6 ≤ 8 := hf_7.1 6
  have hz_zg_4_7 : zg_4 7 ≤ 8 := hf_7.1 7
  have hz_zg_4_8 : zg_4 8 ≤ 8 := hf_7.1 8
  have hz_zg_4_9 : zg_4 9 ≤ 8 := hf_7.1 9
  have hz_zg_4_10 : zg_4 10 ≤ 8 := hf_7.1 10
  have hz_zg_4_11 : zg_4 11 ≤ 8 := hf_7.1 11
  have hu_zg_4 := hf_7.2
  rw [ht] at hP1
  have hK1 := va_K.moved hvm.symm hK1
  obtain ⟨hP, hD⟩ := tz_put (ws' := (tz_XW o aw ai ak sc rd fo tx ar at_ ao w0 w1 w2 w3 w4 w5 sw sh mo nw kp ik mr mw mq mz my mb mx mv ad ab ai0 ai1 cw cai ck csw csh ctx cr ct_ co_ cn_ ck_ ci_ cr_ cw_ cs_ cz_ cy_ cb2_ cx_ cv_ cd cb ci0 ci1 ty gr_3 fk fx ft_ fo_ fw fh la lb rt nl_ np_ nk_ ns_ nv_ ni_ nf_ ud zd fd ug_6 zg_4 fg_5 ui0 zi0 fi0 ui1 zi1 fi1 la_ lb_ lc_ ti_ cb_ ld_ le_ sm_ jb ta_ tl_ tk_ vl_ fn fk_ fi_ fr_ fw_ fs_ fz_ fb_ fy_ fx_ fv_)) hP hD [0, 1, 45, 46, 47, 48, 49, 50, 51, 52, 53, 54, 55, 56, 57, 58, 59, 60, 61, 62, 63, 64, 65, 66, 67, 68, 69, 70] rfl hk1 hP1 rfl rfl rfl
  generalize H1 = H at hP hS ⊢
  refine lv_pop hx hb dL_law_276 rfl ?_
  refine lv_aload_n hx hb dL_law_277 rfl (lv_at hl 1 rfl) ?_
  refine lv_aload_n hx hb dL_law_278 rfl (lv_at hl 3 rfl) ?_
  refine lv_iload_n hx hb dL_law_279 rfl (lv_at hl 0 rfl) ?_
  refine lv_iconst (v := 1) hx hb dL_law_280 (by decide) ?_
  refine lv_iadd hx hb dL_law_281 ?_
  refine tz_i (nI (i + 1)) (nI_add i 1) ?_
  refine va_sld hx hb hX hbl hbA hS (vp_in_nI (n := (i + 1)) (N := L) (by omega) (by omega)) dL_law_282 ?_
  refine tz_i (xs (i + 1)) (congrArg xs (nI_clamp (by omega))) ?_
  refine lv_aload_n hx hb dL_law_283 rfl (lv_at hl 3 rfl) ?_
  refine lv_iload_n hx hb dL_law_284 rfl (lv_at hl 0 rfl) ?_
  refine lv_iconst (v := 2) hx hb dL_law_285 (by decide) ?_
  refine lv_iadd hx hb dL_law_286 ?_
  refine tz_i (nI (i + 2)) (nI_add i 2) ?_
  refine va_sld hx hb hX hbl hbA hS (vp_in_nI (n := (i + 2)) (N := L) (by omega) (by omega)) dL_law_287 ?_
  refine tz_i (xs (i + 2)) (congrArg xs (nI_clamp (by omega))) ?_
  refine lv_aload_n hx hb dL_law_288 rfl (lv_at hl 3 rfl) ?_
  refine lv_iload_n hx hb dL_law_289 rfl (lv_at hl 0 rfl) ?_
  refine lv_iconst (v := 3) hx hb dL_law_290 (by decide) ?_
  refine lv_iadd hx hb dL_law_291 ?_
  refine tz_i (nI (i + 3)) (nI_add i 3) ?_
  refine va_sld hx hb hX hbl hbA hS (vp_in_nI (n := (i + 3)) (N := L) (by omega) (by omega)) dL_law_292 ?_
  refine tz_i (xs (i + 3)) (congrArg xs (nI_clamp (by omega))) ?_
  have hPc := hP.sub (ws' := [(mo, .inr (12, [.ref nw, .ref kp, .ref ik, .ref mr, .long la_, .long lb_, .ref mw, .long lc_, .int ti_, .int cb_, .long ld_, .long le_, .ref mq, .ref mz, .ref my, .int sm_, .ref mb, .int (nI jb), .int ta_, .int tl_, .int tk_, .int vl_, .ref mx, .ref mv])), (nw, .inl (cn_, 350, .inl fn)), (mr, .inl (cr_, 3, .inl fr_))]) [123, 124, 127] rfl
  have hDc := hD.sub (ws' := [(mo, .inr (12, [.ref nw, .ref kp, .ref ik, .ref mr, .long la_, .long lb_, .ref mw, .long lc_, .int ti_, .int cb_, .long ld_, .long le_, .ref mq, .ref mz, .ref my, .int sm_, .ref mb, .int (nI jb), .int ta_, .int tl_, .int tk_, .int vl_, .ref mx, .ref mv])), (nw, .inl (cn_, 350, .inl fn)), (mr, .inl (cr_, 3, .inl fr_))]) [123, 124, 127] (by decide) rfl
  have hKc := hK.sub (tys' := [(cn_, .int), (cr_, .int)]) [61, 64] rfl
  have hFc := va_free (wc := [(mo, .inr (12, [.ref nw, .ref kp, .ref ik, .ref mr, .long la_, .long lb_, .ref mw, .long lc_, .int ti_, .int cb_, .long ld_, .long le_, .ref mq, .ref mz, .ref my, .int sm_, .ref mb, .int (nI jb), .int ta_, .int tl_, .int tk_, .int vl_, .ref mx, .ref mv])), (nw, .inl (cn_, 350, .inl fn)), (mr, .inl (cr_, 3, .inl fr_))]) hD hS hA [123, 124, 127] rfl
  refine va_calli (va_runV (As := [.int (xs (i + 1)), .int (xs (i + 2)), .int (xs (i + 3))]) (rest := []) ⟨hx, hb, hml, hown, hts⟩ (m_band l dC dI mo nw kp ik mr la_ lb_ mw lc_ ti_ cb_ ld_ le_ mq mz my sm_ mb (nI jb) ta_ tl_ tk_ vl_ mx mv cn_ fn cr_ fr_ (xs (i + 1)) (xs (i + 2)) (xs (i + 3)) H.size hO_n) (cwV 3 hts gL_law_X12_band rfl rfl rfl (by decide +kernel) ⟨Nat.le_of_ble_eq_true rfl, Nat.le_of_ble_eq_true rfl⟩) ⟨fun a U g mk q => by obtain ⟨q0, q1, qP, qK, qD⟩ := q; exact ⟨q0, q1, qP, va_K.moved (u := U) (U := U.calling g mk a) (Vm.Alike.refl U.vm) qK, qD⟩, va_recv hK hP (ci := 12) (q0 := 123) rfl rfl, fun U hU hW => ⟨rfl, by rw [hU], by rw [hU]; exact hPc, va_K.moved hW.alike hKc, hDc.weaken (fun _ _ _ _ => trivial)⟩⟩ rfl rfl hl.1 rfl (lv_room (Nat.le_of_ble_eq_true rfl)) dL_law_293 ⟨Nat.le_of_ble_eq_true rfl, Nat.le_of_ble_eq_true rfl⟩) hS (fun q _ h => hFc q h) hFc (fun r_8 u_ t H1 locs ht hvm hw_9 hB hz1 hk1 hS => ?_)
  obtain ⟨gn_10, gr__11, hf_12, hP1, hK1, hD1⟩ := hB
  rw [ht] at hP1
  have hK1 := va_K.moved hvm.symm hK1
  obtain ⟨hP, hD⟩ := tz_put (ws' := (tz_XW o aw ai ak sc rd fo tx ar at_ ao w0 w1 w2 w3 w4 w5 sw sh mo nw kp ik mr mw mq mz my mb mx mv ad ab ai0 ai1 cw cai ck csw csh ctx cr ct_ co_ cn_ ck_ ci_ cr_ cw_ cs_ cz_ cy_ cb2_ cx_ cv_ cd cb ci0 ci1 ty gr_3 fk fx ft_ fo_ fw fh la lb rt nl_ np_ nk_ ns_ nv_ ni_ nf_ ud zd fd ug_6 zg_4 fg_5 ui0 zi0 fi0 ui1 zi1 fi1 la_ lb_ lc_ ti_ cb_ ld_ le_ sm_ jb ta_ tl_ tk_ vl_ gn_10 fk_ fi_ gr__11 fw_ fs_ fz_ fb_ fy_ fx_ fv_)) hP hD [123, 124, 127] rfl hk1 hP1 rfl rfl rfl
  generalize H1 = H at hP hS ⊢
  refine lv_pop hx hb dL_law_296 rfl ?_
  refine lv_goto (tgt := 1153) hx hb dL_law_297 (by decide) ?_
  exact K H _ ls ⟨ty, gr_3, fk, fx, ft_, fo_, fw, fh, la, lb, rt, nl_, np_, nk_, ns_, nv_, ni_, nf_, ud, zd, fd, ug_6, zg_4, fg_5, ui0, zi0, fi0, ui1, zi1, fi1, la_, lb_, lc_, ti_, cb_, ld_, le_, sm_, jb, ta_, tl_, tk_, vl_, gn_10, fk_, fi_, gr__11, fw_, fs_, fz_, fb_, fy_, fx_, fv_, hB_d, hf_7, hB_i0, hB_i1, hf_12, hO_k, hO_x, hO_b, hP, hD⟩ hS hl
set_option maxRecDepth 20000 in
theorem gL_law_X11_tell : GoodIn lw_tbl (wsV RL 33 RX11 yX11_tell wsX11_tell) := tz_good [(11, 11), (11, 12), (11, 13), (0, 2), (11, 14), (1, 10), (5, 20), (7, 3), (11, 15), (10, 4), (10, 5), (10, 6), (3, 4), (10, 7), (3, 15), (11, 16), (11, 17), (11, 18), (0, 2), (11, 19), (1, 6), (7, 4), (7, 5), (7, 6), (7, 7), (7, 8), (7, 9), (7, 10), (7, 11), (7, 12), (7, 13), (7, 14), (2, 6), (7, 15), (7, 16), (7, 17), (7, 18), (3, 20), (11, 20), (11, 21), (11, 22), (1, 9), (11, 23), (3, 10), (3, 9), (3, 7), (12, 0), (12, 1), (12, 2), (12, 3), (12, 4), (12, 5), (12, 6), (12, 7), (12, 8), (12, 9), (3, 18), (12, 10), (3, 22), (12, 11), (12, 12), (12, 13), (12, 14), (12, 15), (12, 16), (12, 17), (12, 18), (7, 23), (8, 0), (8, 1), (8, 2), (8, 3), (8, 4), (8, 5), (8, 6), (8, 7), (3, 21), (8, 8), (8, 9), (8, 10), (8, 11), (46, 0), (46, 1), (46, 2), (46, 3), (46, 4), (46, 5), (46, 6), (46, 7), (46, 8), (46, 9), (46, 10), (46, 11), (54, 0), (54, 1), (54, 2), (54, 3), (54, 4), (54, 5), (58, 0), (58, 1), (58, 2), (58, 3)] (by decide +kernel) (by decide +kernel)
set_option maxRecDepth 20000 in
theorem gL_law_X12_tell : GoodIn lw_tbl (wsV RL 37 RX12 yX12_tell wsX12_tell) := tz_good [(12, 19), (12, 20), (12, 21), (0, 5), (12, 22), (12, 23), (13, 0), (5, 4), (10, 20), (10, 21), (10, 22), (0, 5), (10, 23), (8, 17), (8, 18), (8, 19), (13, 1), (13, 2), (13, 3), (13, 4), (11, 0), (11, 1), (11, 2), (11, 3), (8, 20), (8, 21), (8, 22), (8, 23), (5, 7), (9, 0), (9, 1), (9, 2), (9, 3), (13, 5), (13, 6), (13, 7), (13, 8), (13, 9), (13, 10), (13, 11), (47, 0), (47, 1), (47, 2), (47, 3), (47, 4), (47, 5), (47, 6), (47, 7), (47, 8), (47, 9), (47, 10), (47, 11), (47, 12), (47, 13), (47, 14), (47, 15), (47, 16), (47, 17), (47, 18), (47, 19), (47, 20), (47, 21), (47, 22), (47, 23)] (by decide +kernel) (by decide +kernel)
theorem dL_law_300 : decode cL_law 300 = .ok (.aload_n 1, 1) := by decide +kernel
theorem dL_law_301 : decode cL_law 301 = .ok (.aload_n 0, 1) := by decide +kernel
theorem dL_law_302 : decode cL_law 302 = .ok (.iload_n 3, 1) := by decide +kernel
theorem dL_law_303 : decode cL_law 303 = .ok (.iconst 1, 1) := by decide +kernel
theorem dL_law_304 : decode cL_law 304 = .ok (.iadd, 1) := by decide +kernel
theorem dL_law_305 : decode cL_law 305 = .ok (.iaload, 1) := by decide +kernel
theorem dL_law_306 : decode cL_law 306 = .ok (.aload_n 0, 1) := by decide +kernel
theorem dL_law_307 : decode cL_law 307 = .ok (.iload_n 3, 1) := by decide +kernel
theorem dL_law_308 : decode cL_law 308 = .ok (.iconst 2, 1) := by decide +kernel
theorem dL_law_309 : decode cL_law 309 = .ok (.iadd, 1) := by decide +kernel
theorem dL_law_310 : decode cL_law 310 = .ok (.iaload, 1) := by decide +kernel
theorem dL_law_311 : decode cL_law 311 = .ok (.aload_n 0, 1) := by decide +kernel
theorem dL_law_312 : decode cL_law 312 = .ok (.iload_n 3, 1) := by decide +kernel
theorem dL_law_313 : decode cL_law 313 = .ok (.iconst 3, 1) := by decide +kernel
theorem dL_law_314 : decode cL_law 314 = .ok (.iadd, 1) := by decide +kernel
theorem dL_law_315 : decode cL_law 315 = .ok (.iaload, 1) := by decide +kernel
theorem dL_law_316 : decode cL_law 316 = .ok (.aload_n 0, 1) := by decide +kernel
theorem dL_law_317 : decode cL_law 317 = .ok (.iload_n 3, 1) := by decide +kernel
theorem dL_law_318 : decode cL_law 318 = .ok (.iconst 4, 1) := by decide +kernel
theorem dL_law_319 : decode cL_law 319 = .ok (.iadd, 1) := by decide +kernel
theorem dL_law_320 : decode cL_law 320 = .ok (.iaload, 1) := by decide +kernel
theorem dL_law_321 : decode cL_law 321 = .ok (.invokevirtual 33, 3) := by decide +kernel
theorem dL_law_324 : decode cL_law 324 = .ok (.pop, 1) := by decide +kernel
theorem dL_law_325 : decode cL_law 325 = .ok (.aload_n 2, 1) := by decide +kernel
theorem dL_law_326 : decode cL_law 326 = .ok (.aload_n 0, 1) := by decide +kernel
theorem dL_law_327 : decode cL_law 327 = .ok (.iload_n 3, 1) := by decide +kernel
theorem dL_law_328 : decode cL_law 328 = .ok (.iconst 1, 1) := by decide +kernel
theorem dL_law_329 : decode cL_law 329 = .ok (.iadd, 1) := by decide +kernel
theorem dL_law_330 : decode cL_law 330 = .ok (.iaload, 1) := by decide +kernel
theorem dL_law_331 : decode cL_law 331 = .ok (.aload_n 0, 1) := by decide +kernel
theorem dL_law_332 : decode cL_law 332 = .ok (.iload_n 3, 1) := by decide +kernel
theorem dL_law_333 : decode cL_law 333 = .ok (.iconst 2, 1) := by decide +kernel
theorem dL_law_334 : decode cL_law 334 = .ok (.iadd, 1) := by decide +kernel
theorem dL_law_335 : decode cL_law 335 = .ok (.iaload, 1) := by decide +kernel
theorem dL_law_336 : decode cL_law 336 = .ok (.aload_n 0, 1) := by decide +kernel
theorem dL_law_337 : decode cL_law 337 = .ok (.iload_n 3, 1) := by decide +kernel
theorem dL_law_338 : decode cL_law 338 = .ok (.iconst 3, 1) := by decide +kernel
theorem dL_law_339 : decode cL_law 339 = .ok (.iadd, 1) := by decide +kernel
theorem dL_law_340 : decode cL_law 340 = .ok (.iaload, 1) := by decide +kernel
theorem dL_law_341 : decode cL_law 341 = .ok (.aload_n 0, 1) := by decide +kernel
theorem dL_law_342 : decode cL_law 342 = .ok (.iload_n 3, 1) := by decide +kernel
theorem dL_law_343 : decode cL_law 343 = .ok (.iconst 4, 1) := by decide +kernel
theorem dL_law_344 : decode cL_law 344 = .ok (.iadd, 1) := by decide +kernel
theorem dL_law_345 : decode cL_law 345 = .ok (.iaload, 1) := by decide +kernel
theorem dL_law_346 : decode cL_law 346 = .ok (.invokevirtual 37, 3) := by decide +kernel
theorem dL_law_349 : decode cL_law 349 = .ok (.pop, 1) := by decide +kernel
theorem dL_law_350 : decode cL_law 350 = .ok (.goto 803, 3) := by decide +kernel
set_option maxHeartbeats 8000000 in
set_option maxRecDepth 100000 in
theorem lc_tell {p : Program} {l : Launch} {e : Env} {s : State} {m : MethodId} {below : List Frame} {meth : Method} {c : Code} {b L : Nat} {xs : Nat → Int32} (hL : L ≤ 3072) (C0 : lw_At p s m meth c b L xs) (hN : tz_N s) (A : Nat → Prop) (hA : ∀ q : Nat, s.heap.size ≤ q → A q) (hA2 : ∀ q : Nat, A q → s.heap.size ≤ q) (hbA : ¬ A b) (hV : tz_V A s s.heap) (dC : Nat → ClassId) (dI : Nat → Nat → Nat) (o : Nat) (aw : Nat) (ai : Nat) (ak : Nat) (sc : Nat) (rd : Nat) (fo : Nat) (tx : Nat) (ar : Nat) (at_ : Nat) (ao : Nat) (w0 : Nat) (w1 : Nat) (w2 : Nat) (w3 : Nat) (w4 : Nat) (w5 : Nat) (sw : Nat) (sh : Nat) (mo : Nat) (nw : Nat) (kp : Nat) (ik : Nat) (mr : Nat) (mw : Nat) (mq : Nat) (mz : Nat) (my : Nat) (mb : Nat) (mx : Nat) (mv : Nat) (ad : Nat → Nat) (ab : Nat → Nat) (ai0 : Nat → Nat) (ai1 : Nat → Nat) (cw : ClassId) (cai : ClassId) (ck : ClassId) (csw : ClassId) (csh : ClassId) (ctx : ClassId) (cr : ClassId) (ct_ : ClassId) (co_ : ClassId) (cn_ : ClassId) (ck_ : ClassId) (ci_ : ClassId) (cr_ : ClassId) (cw_ : ClassId) (cs_ : ClassId) (cz_ : ClassId) (cy_ : ClassId) (cb2_ : ClassId) (cx_ : ClassId) (cv_ : ClassId) (cd : Nat → ClassId) (cb : Nat → ClassId) (ci0 : Nat → ClassId) (ci1 : Nat → ClassId) (hK : va_K (dC, dI) vwCl (tz_T cw cai ck csw csh ctx cr ct_ co_ cn_ ck_ ci_ cr_ cw_ cs_ cz_ cy_ cb2_ cx_ cv_ cd cb ci0 ci1) s) (i : Nat) (hi : i + 6 ≤ L) (H : Heap) (locs : List Loc) (hI : tz_I dC dI o aw ai ak sc rd fo tx ar at_ ao w0 w1 w2 w3 w4 w5 sw sh mo nw kp ik mr mw mq mz my mb mx mv ad ab ai0 ai1 cw cai ck csw csh ctx cr ct_ co_ cn_ ck_ ci_ cr_ cw_ cs_ cz_ cy_ cb2_ cx_ cv_ cd cb ci0 ci1 A H) (hS : va_S A s.heap H locs) (ls : Array Slot) (hl : lv_has ls 4 [(3, .int (nI i)), (2, .ref mo), (1, .ref o), (0, .ref b)]) (K : ∀ (H : Heap) (locs : List Loc) (ls : Array Slot), tz_I dC dI o aw ai ak sc rd fo tx ar at_ ao w0 w1 w2 w3 w4 w5 sw sh mo nw kp ik mr mw mq mz my mb mx mv ad ab ai0 ai1 cw cai ck csw csh ctx cr ct_ co_ cn_ ck_ ci_ cr_ cw_ cs_ cz_ cy_ cb2_ cx_ cv_ cd cb ci0 ci1 A H → va_S A s.heap H locs → lv_has ls 4 [(3, .int (nI i)), (2, .ref mo), (1, .ref o), (0, .ref b)] → W p l e room_1 s m #[Value.ref b] below meth c H locs 136 3195 (lw_Z below #[Value.ref b] s) (F0 m 1153 ls [])) : W p l e room_1 s m #[Value.ref b] below meth c H locs 136 3195 (lw_Z below #[Value.ref b] s) (F0 m 300 ls []) := by
  obtain ⟨hx, hb, hr, hml, hown, hts, hX, hbl, hlocks, hgv⟩ := C0
  have hb : c.code = cL_law := hb
  have hown : s.vm.findClass RL = some m.cls := hown
  obtain ⟨ty, fr, fk, fx, ft_, fo_, fw, fh, la, lb, rt, nl_, np_, nk_, ns_, nv_, ni_, nf_, ud, zd, fd, ub, zb, fb, ui0, zi0, fi0, ui1, zi1, fi1, la_, lb_, lc_, ti_, cb_, ld_, le_, sm_, jb, ta_, tl_, tk_, vl_, fn, fk_, fi_, fr_, fw_, fs_, fz_, fb_, fy_, fx_, fv_, hB_d, hB_b, hB_i0, hB_i1, hO_n, hO_k, hO_x, hO_b, hP, hD⟩ := hI
  have hu_zd := hB_d.2
  have hu_zb := hB_b.2
  have hu_zi0 := hB_i0.2
  have hu_zi1 := hB_i1.2
  refine lv_aload_n hx hb dL_law_300 rfl (lv_at hl 2 rfl) ?_
  refine lv_aload_n hx hb dL_law_301 rfl (lv_at hl 3 rfl) ?_
  refine lv_iload_n hx hb dL_law_302 rfl (lv_at hl 0 rfl) ?_
  refine lv_iconst (v := 1) hx hb dL_law_303 (by decide) ?_
  refine lv_iadd hx hb dL_law_304 ?_
  refine tz_i (nI (i + 1)) (nI_add i 1) ?_
  refine va_sld hx hb hX hbl hbA hS (vp_in_nI (n := (i + 1)) (N := L) (by omega) (by omega)) dL_law_305 ?_
  refine tz_i (xs (i + 1)) (congrArg xs (nI_clamp (by omega))) ?_
  refine lv_aload_n hx hb dL_law_306 rfl (lv_at hl 3 rfl) ?_
  refine lv_iload_n hx hb dL_law_307 rfl (lv_at hl 0 rfl) ?_
  refine lv_iconst (v := 2) hx hb dL_law_308 (by decide) ?_
  refine lv_iadd hx hb dL_law_309 ?_
  refine tz_i (nI (i + 2)) (nI_add i 2) ?_
  refine va_sld hx hb hX hbl hbA hS (vp_in_nI (n := (i + 2)) (N := L) (by omega) (by omega)) dL_law_310 ?_
  refine tz_i (xs (i + 2)) (congrArg xs (nI_clamp (by omega))) ?_
  refine lv_aload_n hx hb dL_law_311 rfl (lv_at hl 3 rfl) ?_
  refine lv_iload_n hx hb dL_law_312 rfl (lv_at hl 0 rfl) ?_
  refine lv_iconst (v := 3) hx hb dL_law_313 (by decide) ?_
  refine lv_iadd hx hb dL_law_314 ?_
  refine tz_i (nI (i + 3)) (nI_add i 3) ?_
  refine va_sld hx hb hX hbl hbA hS (vp_in_nI (n := (i + 3)) (N := L) (by omega) (by omega)) dL_law_315 ?_
  refine tz_i (xs (i + 3)) (congrArg xs (nI_clamp (by omega))) ?_
  refine lv_aload_n hx hb dL_law_316 rfl (lv_at hl 3 rfl) ?_
  refine lv_iload_n hx hb dL_law_317 rfl (lv_at hl 0 rfl) ?_
  refine lv_iconst (v := 4) hx hb dL_law_318 (by decide) ?_
  refine lv_iadd hx hb dL_law_319 ?_
  refine tz_i (nI (i + 4)) (nI_add i 4) ?_
  refine va_sld hx hb hX hbl hbA hS (vp_in_nI (n := (i + 4)) (N := L) (by omega) (by omega)) dL_law_320 ?_
  refine tz_i (xs (i + 4)) (congrArg xs (nI_clamp (by omega))) ?_
  have hPc := hP.sub (ws' := [(o, .inr (11, [.ref aw, .ref (ab 0), .ref ai, .ref ak, .ref sc, .ref rd, .ref fo, .ref tx, .int ty, .ref ar, .ref at_, .ref ao])), (ar, .inl (cr, 3, .inl fr)), (aw, .inl (cw, 6, .inr (.inr (.inr (.inr (tz_w w0 w1 w2 w3 w4 w5)))))), (w0, .inr (4, [])), (w1, .inr (1, [])), (w2, .inr (10, [])), (w3, .inr (3, [])), (w4, .inr (9, [])), (w5, .inr (8, [])), ((ab 0), .inr (0, [.ref (ab 1), .ref (ab 3), .ref (ab 5), .ref (ab 7), .ref (ab 9), .int (nI ub)])), ((ab 1), .inr (6, [.int 1, .int 5, .ref (ab 2), .int (nI (zb 0))])), ((ab 2), .inl ((cb 0), 5, .inl (fb 0))), ((ab 3), .inr (6, [.int 4, .int 5, .ref (ab 4), .int (nI (zb 1))])), ((ab 4), .inl ((cb 1), 20, .inl (fb 1))), ((ab 5), .inr (6, [.int 4, .int 8, .ref (ab 6), .int (nI (zb 2))])), ((ab 6), .inl ((cb 2), 32, .inl (fb 2))), ((ab 7), .inr (6, [.int 4, .int 6, .ref (ab 8), .int (nI (zb 3))])), ((ab 8), .inl ((cb 3), 24, .inl (fb 3))), ((ab 9), .inl ((cb 12), 8, .inr (.inr (.inr (.inr (tz_ear ab)))))), ((ab 10), .inr (6, [.int 4, .int 8, .ref (ab 11), .int (nI (zb 4))])), ((ab 11), .inl ((cb 4), 32, .inl (fb 4))), ((ab 12), .inr (6, [.int 4, .int 8, .ref (ab 13), .int (nI (zb 5))])), ((ab 13), .inl ((cb 5), 32, .inl (fb 5))), ((ab 14), .inr (6, [.int 4, .int 8, .ref (ab 15), .int (nI (zb 6))])), ((ab 15), .inl ((cb 6), 32, .inl (fb 6))), ((ab 16), .inr (6, [.int 4, .int 8, .ref (ab 17), .int (nI (zb 7))])), ((ab 17), .inl ((cb 7), 32, .inl (fb 7))), ((ab 18), .inr (6, [.int 4, .int 8, .ref (ab 19), .int (nI (zb 8))])), ((ab 19), .inl ((cb 8), 32, .inl (fb 8))), ((ab 20), .inr (6, [.int 4, .int 8, .ref (ab 21), .int (nI (zb 9))])), ((ab 21), .inl ((cb 9), 32, .inl (fb 9))), ((ab 22), .inr (6, [.int 4, .int 8, .ref (ab 23), .int (nI (zb 10))])), ((ab 23), .inl ((cb 10), 32, .inl (fb 10))), ((ab 24), .inr (6, [.int 4, .int 8, .ref (ab 25), .int (nI (zb 11))])), ((ab 25), .inl ((cb 11), 32, .inl (fb 11)))]) [0, 1, 7, 8, 9, 10, 11, 12, 13, 45, 46, 47, 48, 49, 50, 51, 52, 53, 54, 55, 56, 57, 58, 59, 60, 61, 62, 63, 64, 65, 66, 67, 68, 69, 70] rfl
  have hDc := hD.sub (ws' := [(o, .inr (11, [.ref aw, .ref (ab 0), .ref ai, .ref ak, .ref sc, .ref rd, .ref fo, .ref tx, .int ty, .ref ar, .ref at_, .ref ao])), (ar, .inl (cr, 3, .inl fr)), (aw, .inl (cw, 6, .inr (.inr (.inr (.inr (tz_w w0 w1 w2 w3 w4 w5)))))), (w0, .inr (4, [])), (w1, .inr (1, [])), (w2, .inr (10, [])), (w3, .inr (3, [])), (w4, .inr (9, [])), (w5, .inr (8, [])), ((ab 0), .inr (0, [.ref (ab 1), .ref (ab 3), .ref (ab 5), .ref (ab 7), .ref (ab 9), .int (nI ub)])), ((ab 1), .inr (6, [.int 1, .int 5, .ref (ab 2), .int (nI (zb 0))])), ((ab 2), .inl ((cb 0), 5, .inl (fb 0))), ((ab 3), .inr (6, [.int 4, .int 5, .ref (ab 4), .int (nI (zb 1))])), ((ab 4), .inl ((cb 1), 20, .inl (fb 1))), ((ab 5), .inr (6, [.int 4, .int 8, .ref (ab 6), .int (nI (zb 2))])), ((ab 6), .inl ((cb 2), 32, .inl (fb 2))), ((ab 7), .inr (6, [.int 4, .int 6, .ref (ab 8), .int (nI (zb 3))])), ((ab 8), .inl ((cb 3), 24, .inl (fb 3))), ((ab 9), .inl ((cb 12), 8, .inr (.inr (.inr (.inr (tz_ear ab)))))), ((ab 10), .inr (6, [.int 4, .int 8, .ref (ab 11), .int (nI (zb 4))])), ((ab 11), .inl ((cb 4), 32, .inl (fb 4))), ((ab 12), .inr (6, [.int 4, .int 8, .ref (ab 13), .int (nI (zb 5))])), ((ab 13), .inl ((cb 5), 32, .inl (fb 5))), ((ab 14), .inr (6, [.int 4, .int 8, .ref (ab 15), .int (nI (zb 6))])), ((ab 15), .inl ((cb 6), 32, .inl (fb 6))), ((ab 16), .inr (6, [.int 4, .int 8, .ref (ab 17), .int (nI (zb 7))])), ((ab 17), .inl ((cb 7), 32, .inl (fb 7))), ((ab 18), .inr (6, [.int 4, .int 8, .ref (ab 19), .int (nI (zb 8))])), ((ab 19), .inl ((cb 8), 32, .inl (fb 8))), ((ab 20), .inr (6, [.int 4, .int 8, .ref (ab 21), .int (nI (zb 9))])), ((ab 21), .inl ((cb 9), 32, .inl (fb 9))), ((ab 22), .inr (6, [.int 4, .int 8, .ref (ab 23), .int (nI (zb 10))])), ((ab 23), .inl ((cb 10), 32, .inl (fb 10))), ((ab 24), .inr (6, [.int 4, .int 8, .ref (ab 25), .int (nI (zb 11))])), ((ab 25), .inl ((cb 11), 32, .inl (fb 11)))]) [0, 1, 7, 8, 9, 10, 11, 12, 13, 45, 46, 47, 48, 49, 50, 51, 52, 53, 54, 55, 56, 57, 58, 59, 60, 61, 62, 63, 64, 65, 66, 67, 68, 69, 70] (by decide) rfl
  have hKc := hK.sub (tys' := [(cr, .int), (cw, (.object "ThriceCounted$Ones")), ((cb 0), .int), ((cb 1), .int), ((cb 2), .int), ((cb 3), .int), ((cb 12), (.object "ThriceCounted$Rows")), ((cb 4), .int), ((cb 5), .int), ((cb 6), .int), ((cb 7), .int), ((cb 8), .int), ((cb 9), .int), ((cb 10), .int), ((cb 11), .int)]) [0, 6, 22, 23, 24, 25, 26, 27, 28, 29, 30, 31, 32, 33, 34] rfl
  have hFc := va_free (wc := [(o, .inr (11, [.ref aw, .ref (ab 0), .ref ai, .ref ak, .ref sc, .ref rd, .ref fo, .ref tx, .int ty, .ref ar, .ref at_, .ref ao])), (ar, .inl (cr, 3, .inl fr)), (aw, .inl (cw, 6, .inr (.inr (.inr (.inr (tz_w w0 w1 w2 w3 w4 w5)))))), (w0, .inr (4, [])), (w1, .inr (1, [])), (w2, .inr (10, [])), (w3, .inr (3, [])), (w4, .inr (9, [])), (w5, .inr (8, [])), ((ab 0), .inr (0, [.ref (ab 1), .ref (ab 3), .ref (ab 5), .ref (ab 7), .ref (ab 9), .int (nI ub)])), ((ab 1), .inr (6, [.int 1, .int 5, .ref (ab 2), .int (nI (zb 0))])), ((ab 2), .inl ((cb 0), 5, .inl (fb 0))), ((ab 3), .inr (6, [.int 4, .int 5, .ref (ab 4), .int (nI (zb 1))])), ((ab 4), .inl ((cb 1), 20, .inl (fb 1))), ((ab 5), .inr (6, [.int 4, .int 8, .ref (ab 6), .int (nI (zb 2))])), ((ab 6), .inl ((cb 2), 32, .inl (fb 2))), ((ab 7), .inr (6, [.int 4, .int 6, .ref (ab 8), .int (nI (zb 3))])), ((ab 8), .inl ((cb 3), 24, .inl (fb 3))), ((ab 9), .inl ((cb 12), 8, .inr (.inr (.inr (.inr (tz_ear ab)))))), ((ab 10), .inr (6, [.int 4, .int 8, .ref (ab 11), .int (nI (zb 4))])), ((ab 11), .inl ((cb 4), 32, .inl (fb 4))), ((ab 12), .inr (6, [.int 4, .int 8, .ref (ab 13), .int (nI (zb 5))])), ((ab 13), .inl ((cb 5), 32, .inl (fb 5))), ((ab 14), .inr (6, [.int 4, .int 8, .ref (ab 15), .int (nI (zb 6))])), ((ab 15), .inl ((cb 6), 32, .inl (fb 6))), ((ab 16), .inr (6, [.int 4, .int 8, .ref (ab 17), .int (nI (zb 7))])), ((ab 17), .inl ((cb 7), 32, .inl (fb 7))), ((ab 18), .inr (6, [.int 4, .int 8, .ref (ab 19), .int (nI (zb 8))])), ((ab 19), .inl ((cb 8), 32, .inl (fb 8))), ((ab 20), .inr (6, [.int 4, .int 8, .ref (ab 21), .int (nI (zb 9))])), ((ab 21), .inl ((cb 9), 32, .inl (fb 9))), ((ab 22), .inr (6, [.int 4, .int 8, .ref (ab 23), .int (nI (zb 10))])), ((ab 23), .inl ((cb 10), 32, .inl (fb 10))), ((ab 24), .inr (6, [.int 4, .int 8, .ref (ab 25), .int (nI (zb 11))])), ((ab 25), .inl ((cb 11), 32, .inl (fb 11)))]) hD hS hA [0, 1, 7, 8, 9, 10, 11, 12, 13, 45, 46, 47, 48, 49, 50, 51, 52, 53, 54, 55, 56, 57, 58, 59, 60, 61, 62, 63, 64, 65, 66, 67, 68, 69, 70] rfl
  refine va_calli (va_runV (As := [.int (xs (i + 1)), .int (xs (i + 2)), .int (xs (i + 3)), .int (xs (i + 4))]) (rest := []) ⟨hx, hb, hml, hown, hts⟩ (x_tell l dC dI o aw ab ai ak sc rd fo tx ty ar at_ ao cr fr cw w0 w1 w2 w3 w4 w5 ub zb cb fb (xs (i + 1)) (xs (i + 2)) (xs (i + 3)) (xs (i + 4)) H.size ⟨hB_b.1, show ub ≤ 8 by omega⟩) (cwV 4 hts gL_law_X11_tell rfl rfl rfl (by decide +kernel) ⟨Nat.le_of_ble_eq_true rfl, Nat.le_of_ble_eq_true rfl⟩) ⟨fun a U g mk q => by obtain ⟨q0, q1, qP, qK, qD⟩ := q; exact ⟨q0, q1, qP, va_K.moved (u := U) (U := U.calling g mk a) (Vm.Alike.refl U.vm) qK, qD⟩, va_recv hK hP (ci := 11) (q0 := 0) rfl rfl, fun U hU hW => ⟨rfl, by rw [hU], by rw [hU]; exact hPc, va_K.moved hW.alike hKc, hDc.weaken (fun _ _ _ _ => trivial)⟩⟩ rfl rfl hl.1 rfl (lv_room (Nat.le_of_ble_eq_true rfl)) dL_law_321 ⟨Nat.le_of_ble_eq_true rfl, Nat.le_of_ble_eq_true rfl⟩) hS (fun q _ h => hFc q h) hFc (fun r_1 u_ t H1 locs ht hvm hw_2 hB hz1 hk1 hS => ?_)
  obtain ⟨gr_3, zg_4, fg_5, ug_6, hf_7, hP1, hK1, hD1⟩ := hB
  have hz_zg_4_0 : zg_4 0 ≤ 5 := hf_7.1 0
  have hz_zg_4_1 : zg_4 1 ≤ 5 := hf_7.1 1
  have hz_zg_4_2 : zg_4 2 ≤ 8 := hf_7.1 2
  have hz_zg_4_3 : zg_4 3 ≤ 6 := hf_7.1 3
  have hz_zg_4_4 : zg_4 4 ≤ 8 := hf_7.1 4
  have hz_zg_4_5 : zg_4 5 ≤ 8 := hf_7.1 5
  have hz_zg_4_6 : zg_4 6 ≤ 8 := hf_7.1 6
  have hz_zg_4_7 : zg_4 7 ≤ 8 := hf_7.1 7
  have hz_zg_4_8 : zg_4 8 ≤ 8 := hf_7.1 8
  have hz_zg_4_9 : zg_4 9 ≤ 8 := hf_7.1 9
  have hz_zg_4_10 : zg_4 10 ≤ 8 := hf_7.1 10
  have hz_zg_4_11 : zg_4 11 ≤ 8 := hf_7.1 11
  have hu_zg_4 := hf_7.2
  rw [ht] at hP1
  have hK1 := va_K.moved hvm.symm hK1
  obtain ⟨hP, hD⟩ := tz_put (ws' := (tz_XW o aw ai ak sc rd fo tx ar at_ ao w0 w1 w2 w3 w4 w5 sw sh mo nw kp ik mr mw mq mz my mb mx mv ad ab ai0 ai1 cw cai ck csw csh ctx cr ct_ co_ cn_ ck_ ci_ cr_ cw_ cs_ cz_ cy_ cb2_ cx_ cv_ cd cb ci0 ci1 ty gr_3 fk fx ft_ fo_ fw fh la lb rt nl_ np_ nk_ ns_ nv_ ni_ nf_ ud zd fd ug_6 zg_4 fg_5 ui0 zi0 fi0 ui1 zi1 fi1 la_ lb_ lc_ ti_ cb_ ld_ le_ sm_ jb ta_ tl_ tk_ vl_ fn fk_ fi_ fr_ fw_ fs_ fz_ fb_ fy_ fx_ fv_)) hP hD [0, 1, 7, 8, 9, 10, 11, 12, 13, 45, 46, 47, 48, 49, 50, 51, 52, 53, 54, 55, 56, 57, 58, 59, 60, 61, 62, 63, 64, 65, 66, 67, 68, 69, 70] rfl hk1 hP1 rfl rfl rfl
  generalize H1 = H at hP hS ⊢
  refine lv_pop hx hb dL_law_324 rfl ?_
  refine lv_aload_n hx hb dL_law_325 rfl (lv_at hl 1 rfl) ?_
  refine lv_aload_n hx hb dL_law_326 rfl (lv_at hl 3 rfl) ?_
  refine lv_iload_n hx hb dL_law_327 rfl (lv_at hl 0 rfl) ?_
  refine lv_iconst (v := 1) hx hb dL_law_328 (by decide) ?_
  refine lv_iadd hx hb dL_law_329 ?_
  refine tz_i (nI (i + 1)) (nI_add i 1) ?_
  refine va_sld hx hb hX hbl hbA hS (vp_in_nI (n := (i + 1)) (N := L) (by omega) (by omega)) dL_law_330 ?_
  refine tz_i (xs (i + 1)) (congrArg xs (nI_clamp (by omega))) ?_
  refine lv_aload_n hx hb dL_law_331 rfl (lv_at hl 3 rfl) ?_
  refine lv_iload_n hx hb dL_law_332 rfl (lv_at hl 0 rfl) ?_
  refine lv_iconst (v := 2) hx hb dL_law_333 (by decide) ?_
  refine lv_iadd hx hb dL_law_334 ?_
  refine tz_i (nI (i + 2)) (nI_add i 2) ?_
  refine va_sld hx hb hX hbl hbA hS (vp_in_nI (n := (i + 2)) (N := L) (by omega) (by omega)) dL_law_335 ?_
  refine tz_i (xs (i + 2)) (congrArg xs (nI_clamp (by omega))) ?_
  refine lv_aload_n hx hb dL_law_336 rfl (lv_at hl 3 rfl) ?_
  refine lv_iload_n hx hb dL_law_337 rfl (lv_at hl 0 rfl) ?_
  refine lv_iconst (v := 3) hx hb dL_law_338 (by decide) ?_
  refine lv_iadd hx hb dL_law_339 ?_
  refine tz_i (nI (i + 3)) (nI_add i 3) ?_
  refine va_sld hx hb hX hbl hbA hS (vp_in_nI (n := (i + 3)) (N := L) (by omega) (by omega)) dL_law_340 ?_
  refine tz_i (xs (i + 3)) (congrArg xs (nI_clamp (by omega))) ?_
  refine lv_aload_n hx hb dL_law_341 rfl (lv_at hl 3 rfl) ?_
  refine lv_iload_n hx hb dL_law_342 rfl (lv_at hl 0 rfl) ?_
  refine lv_iconst (v := 4) hx hb dL_law_343 (by decide) ?_
  refine lv_iadd hx hb dL_law_344 ?_
  refine tz_i (nI (i + 4)) (nI_add i 4) ?_
  refine va_sld hx hb hX hbl hbA hS (vp_in_nI (n := (i + 4)) (N := L) (by omega) (by omega)) dL_law_345 ?_
  refine tz_i (xs (i + 4)) (congrArg xs (nI_clamp (by omega))) ?_
  have hPc := hP.sub (ws' := [(mo, .inr (12, [.ref nw, .ref kp, .ref ik, .ref mr, .long la_, .long lb_, .ref mw, .long lc_, .int ti_, .int cb_, .long ld_, .long le_, .ref mq, .ref mz, .ref my, .int sm_, .ref mb, .int (nI jb), .int ta_, .int tl_, .int tk_, .int vl_, .ref mx, .ref mv])), (nw, .inl (cn_, 350, .inl fn)), (mr, .inl (cr_, 3, .inl fr_))]) [123, 124, 127] rfl
  have hDc := hD.sub (ws' := [(mo, .inr (12, [.ref nw, .ref kp, .ref ik, .ref mr, .long la_, .long lb_, .ref mw, .long lc_, .int ti_, .int cb_, .long ld_, .long le_, .ref mq, .ref mz, .ref my, .int sm_, .ref mb, .int (nI jb), .int ta_, .int tl_, .int tk_, .int vl_, .ref mx, .ref mv])), (nw, .inl (cn_, 350, .inl fn)), (mr, .inl (cr_, 3, .inl fr_))]) [123, 124, 127] (by decide) rfl
  have hKc := hK.sub (tys' := [(cn_, .int), (cr_, .int)]) [61, 64] rfl
  have hFc := va_free (wc := [(mo, .inr (12, [.ref nw, .ref kp, .ref ik, .ref mr, .long la_, .long lb_, .ref mw, .long lc_, .int ti_, .int cb_, .long ld_, .long le_, .ref mq, .ref mz, .ref my, .int sm_, .ref mb, .int (nI jb), .int ta_, .int tl_, .int tk_, .int vl_, .ref mx, .ref mv])), (nw, .inl (cn_, 350, .inl fn)), (mr, .inl (cr_, 3, .inl fr_))]) hD hS hA [123, 124, 127] rfl
  refine va_calli (va_runV (As := [.int (xs (i + 1)), .int (xs (i + 2)), .int (xs (i + 3)), .int (xs (i + 4))]) (rest := []) ⟨hx, hb, hml, hown, hts⟩ (m_tell l dC dI mo nw kp ik mr la_ lb_ mw lc_ ti_ cb_ ld_ le_ mq mz my sm_ mb (nI jb) ta_ tl_ tk_ vl_ mx mv cn_ fn cr_ fr_ (xs (i + 1)) (xs (i + 2)) (xs (i + 3)) (xs (i + 4)) H.size hO_n) (cwV 4 hts gL_law_X12_tell rfl rfl rfl (by decide +kernel) ⟨Nat.le_of_ble_eq_true rfl, Nat.le_of_ble_eq_true rfl⟩) ⟨fun a U g mk q => by obtain ⟨q0, q1, qP, qK, qD⟩ := q; exact ⟨q0, q1, qP, va_K.moved (u := U) (U := U.calling g mk a) (Vm.Alike.refl U.vm) qK, qD⟩, va_recv hK hP (ci := 12) (q0 := 123) rfl rfl, fun U hU hW => ⟨rfl, by rw [hU], by rw [hU]; exact hPc, va_K.moved hW.alike hKc, hDc.weaken (fun _ _ _ _ => trivial)⟩⟩ rfl rfl hl.1 rfl (lv_room (Nat.le_of_ble_eq_true rfl)) dL_law_346 ⟨Nat.le_of_ble_eq_true rfl, Nat.le_of_ble_eq_true rfl⟩) hS (fun q _ h => hFc q h) hFc (fun r_8 u_ t H1 locs ht hvm hw_9 hB hz1 hk1 hS => ?_)
  obtain ⟨gn_10, gr__11, hf_12, hP1, hK1, hD1⟩ := hB
  rw [ht] at hP1
  have hK1 := va_K.moved hvm.symm hK1
  obtain ⟨hP, hD⟩ := tz_put (ws' := (tz_XW o aw ai ak sc rd fo tx ar at_ ao w0 w1 w2 w3 w4 w5 sw sh mo nw kp ik mr mw mq mz my mb mx mv ad ab ai0 ai1 cw cai ck csw csh ctx cr ct_ co_ cn_ ck_ ci_ cr_ cw_ cs_ cz_ cy_ cb2_ cx_ cv_ cd cb ci0 ci1 ty gr_3 fk fx ft_ fo_ fw fh la lb rt nl_ np_ nk_ ns_ nv_ ni_ nf_ ud zd fd ug_6 zg_4 fg_5 ui0 zi0 fi0 ui1 zi1 fi1 la_ lb_ lc_ ti_ cb_ ld_ le_ sm_ jb ta_ tl_ tk_ vl_ gn_10 fk_ fi_ gr__11 fw_ fs_ fz_ fb_ fy_ fx_ fv_)) hP hD [123, 124, 127] rfl hk1 hP1 rfl rfl rfl
  generalize H1 = H at hP hS ⊢
  refine lv_pop hx hb dL_law_349 rfl ?_
  refine lv_goto (tgt := 1153) hx hb dL_law_350 (by decide) ?_
  exact K H _ ls ⟨ty, gr_3, fk, fx, ft_, fo_, fw, fh, la, lb, rt, nl_, np_, nk_, ns_, nv_, ni_, nf_, ud, zd, fd, ug_6, zg_4, fg_5, ui0, zi0, fi0, ui1, zi1, fi1, la_, lb_, lc_, ti_, cb_, ld_, le_, sm_, jb, ta_, tl_, tk_, vl_, gn_10, fk_, fi_, gr__11, fw_, fs_, fz_, fb_, fy_, fx_, fv_, hB_d, hf_7, hB_i0, hB_i1, hf_12, hO_k, hO_x, hO_b, hP, hD⟩ hS hl
set_option maxRecDepth 20000 in
theorem gL_law_X11_back : GoodIn lw_tbl (wsV RL 38 RX11 yX11_back wsX11_back) := tz_good [(13, 12), (13, 13), (13, 14), (0, 2), (13, 15), (1, 10), (11, 15), (10, 4), (10, 5), (10, 6), (3, 4), (10, 7), (3, 15), (7, 7), (7, 8), (7, 9), (0, 2), (7, 10), (7, 11), (7, 12), (7, 13), (7, 14), (2, 6), (11, 20), (11, 21), (11, 22), (1, 9), (11, 23), (3, 10), (3, 9), (3, 7), (12, 0), (12, 1), (12, 2), (12, 3), (12, 4), (12, 5), (12, 6), (12, 7), (3, 20), (12, 8), (12, 9), (3, 18), (12, 10), (3, 22), (12, 11), (12, 12), (12, 13), (12, 14), (13, 16), (13, 17), (13, 18), (13, 19), (3, 21), (13, 20), (13, 21), (10, 9), (10, 10), (10, 11), (8, 8), (8, 9), (8, 10), (8, 11), (13, 22), (8, 5), (8, 6), (8, 7), (5, 21), (5, 22), (5, 23), (6, 0), (46, 0), (46, 1), (46, 2), (46, 3), (46, 4), (46, 5), (46, 6), (46, 7), (46, 8), (46, 9), (46, 10), (46, 11), (54, 0), (54, 1), (54, 2), (54, 3), (54, 4), (54, 5), (58, 0), (58, 1), (58, 2), (58, 3)] (by decide +kernel) (by decide +kernel)
set_option maxRecDepth 20000 in
theorem gL_law_X12_back : GoodIn lw_tbl (wsV RL 41 RX12 yX12_back wsX12_back) := tz_good [(13, 23), (14, 0), (14, 1), (0, 5), (14, 2), (5, 4), (14, 3), (14, 4), (14, 5), (0, 5), (14, 6), (8, 17), (8, 18), (8, 19), (8, 20), (8, 21), (8, 22), (8, 23), (5, 7), (13, 5), (13, 6), (13, 7), (13, 8), (47, 0), (47, 1), (47, 2), (47, 3), (47, 4), (47, 5), (47, 6), (47, 7), (47, 8), (47, 9), (47, 10), (47, 11), (47, 12), (47, 13), (47, 14), (47, 15), (47, 16), (47, 17), (47, 18), (47, 19), (47, 20), (47, 21), (47, 22), (47, 23)] (by decide +kernel) (by decide +kernel)
theorem dL_law_353 : decode cL_law 353 = .ok (.aload_n 1, 1) := by decide +kernel
theorem dL_law_354 : decode cL_law 354 = .ok (.aload_n 0, 1) := by decide +kernel
theorem dL_law_355 : decode cL_law 355 = .ok (.iload_n 3, 1) := by decide +kernel
theorem dL_law_356 : decode cL_law 356 = .ok (.iconst 1, 1) := by decide +kernel
theorem dL_law_357 : decode cL_law 357 = .ok (.iadd, 1) := by decide +kernel
theorem dL_law_358 : decode cL_law 358 = .ok (.iaload, 1) := by decide +kernel
theorem dL_law_359 : decode cL_law 359 = .ok (.invokevirtual 38, 3) := by decide +kernel
theorem dL_law_362 : decode cL_law 362 = .ok (.pop, 1) := by decide +kernel
theorem dL_law_363 : decode cL_law 363 = .ok (.aload_n 2, 1) := by decide +kernel
theorem dL_law_364 : decode cL_law 364 = .ok (.aload_n 0, 1) := by decide +kernel
theorem dL_law_365 : decode cL_law 365 = .ok (.iload_n 3, 1) := by decide +kernel
theorem dL_law_366 : decode cL_law 366 = .ok (.iconst 1, 1) := by decide +kernel
theorem dL_law_367 : decode cL_law 367 = .ok (.iadd, 1) := by decide +kernel
theorem dL_law_368 : decode cL_law 368 = .ok (.iaload, 1) := by decide +kernel
theorem dL_law_369 : decode cL_law 369 = .ok (.invokevirtual 41, 3) := by decide +kernel
theorem dL_law_372 : decode cL_law 372 = .ok (.pop, 1) := by decide +kernel
theorem dL_law_373 : decode cL_law 373 = .ok (.goto 780, 3) := by decide +kernel
set_option maxHeartbeats 8000000 in
set_option maxRecDepth 100000 in
theorem lc_back {p : Program} {l : Launch} {e : Env} {s : State} {m : MethodId} {below : List Frame} {meth : Method} {c : Code} {b L : Nat} {xs : Nat → Int32} (hL : L ≤ 3072) (C0 : lw_At p s m meth c b L xs) (hN : tz_N s) (A : Nat → Prop) (hA : ∀ q : Nat, s.heap.size ≤ q → A q) (hA2 : ∀ q : Nat, A q → s.heap.size ≤ q) (hbA : ¬ A b) (hV : tz_V A s s.heap) (dC : Nat → ClassId) (dI : Nat → Nat → Nat) (o : Nat) (aw : Nat) (ai : Nat) (ak : Nat) (sc : Nat) (rd : Nat) (fo : Nat) (tx : Nat) (ar : Nat) (at_ : Nat) (ao : Nat) (w0 : Nat) (w1 : Nat) (w2 : Nat) (w3 : Nat) (w4 : Nat) (w5 : Nat) (sw : Nat) (sh : Nat) (mo : Nat) (nw : Nat) (kp : Nat) (ik : Nat) (mr : Nat) (mw : Nat) (mq : Nat) (mz : Nat) (my : Nat) (mb : Nat) (mx : Nat) (mv : Nat) (ad : Nat → Nat) (ab : Nat → Nat) (ai0 : Nat → Nat) (ai1 : Nat → Nat) (cw : ClassId) (cai : ClassId) (ck : ClassId) (csw : ClassId) (csh : ClassId) (ctx : ClassId) (cr : ClassId) (ct_ : ClassId) (co_ : ClassId) (cn_ : ClassId) (ck_ : ClassId) (ci_ : ClassId) (cr_ : ClassId) (cw_ : ClassId) (cs_ : ClassId) (cz_ : ClassId) (cy_ : ClassId) (cb2_ : ClassId) (cx_ : ClassId) (cv_ : ClassId) (cd : Nat → ClassId) (cb : Nat → ClassId) (ci0 : Nat → ClassId) (ci1 : Nat → ClassId) (hK : va_K (dC, dI) vwCl (tz_T cw cai ck csw csh ctx cr ct_ co_ cn_ ck_ ci_ cr_ cw_ cs_ cz_ cy_ cb2_ cx_ cv_ cd cb ci0 ci1) s) (i : Nat) (hi : i + 6 ≤ L) (H : Heap) (locs : List Loc) (hI : tz_I dC dI o aw ai ak sc rd fo tx ar at_ ao w0 w1 w2 w3 w4 w5 sw sh mo nw kp ik mr mw mq mz my mb mx mv ad ab ai0 ai1 cw cai ck csw csh ctx cr ct_ co_ cn_ ck_ ci_ cr_ cw_ cs_ cz_ cy_ cb2_ cx_ cv_ cd cb ci0 ci1 A H) (hS : va_S A s.heap H locs) (ls : Array Slot) (hl : lv_has ls 4 [(3, .int (nI i)), (2, .ref mo), (1, .ref o), (0, .ref b)]) (K : ∀ (H : Heap) (locs : List Loc) (ls : Array Slot), tz_I dC dI o aw ai ak sc rd fo tx ar at_ ao w0 w1 w2 w3 w4 w5 sw sh mo nw kp ik mr mw mq mz my mb mx mv ad ab ai0 ai1 cw cai ck csw csh ctx cr ct_ co_ cn_ ck_ ci_ cr_ cw_ cs_ cz_ cy_ cb2_ cx_ cv_ cd cb ci0 ci1 A H → va_S A s.heap H locs → lv_has ls 4 [(3, .int (nI i)), (2, .ref mo), (1, .ref o), (0, .ref b)] → W p l e room_1 s m #[Value.ref b] below meth c H locs 136 3195 (lw_Z below #[Value.ref b] s) (F0 m 1153 ls [])) : W p l e room_1 s m #[Value.ref b] below meth c H locs 136 3195 (lw_Z below #[Value.ref b] s) (F0 m 353 ls []) := by
  obtain ⟨hx, hb, hr, hml, hown, hts, hX, hbl, hlocks, hgv⟩ := C0
  have hb : c.code = cL_law := hb
  have hown : s.vm.findClass RL = some m.cls := hown
  obtain ⟨ty, fr, fk, fx, ft_, fo_, fw, fh, la, lb, rt, nl_, np_, nk_, ns_, nv_, ni_, nf_, ud, zd, fd, ub, zb, fb, ui0, zi0, fi0, ui1, zi1, fi1, la_, lb_, lc_, ti_, cb_, ld_, le_, sm_, jb, ta_, tl_, tk_, vl_, fn, fk_, fi_, fr_, fw_, fs_, fz_, fb_, fy_, fx_, fv_, hB_d, hB_b, hB_i0, hB_i1, hO_n, hO_k, hO_x, hO_b, hP, hD⟩ := hI
  have hu_zd := hB_d.2
  have hu_zb := hB_b.2
  have hu_zi0 := hB_i0.2
  have hu_zi1 := hB_i1.2
  refine lv_aload_n hx hb dL_law_353 rfl (lv_at hl 2 rfl) ?_
  refine lv_aload_n hx hb dL_law_354 rfl (lv_at hl 3 rfl) ?_
  refine lv_iload_n hx hb dL_law_355 rfl (lv_at hl 0 rfl) ?_
  refine lv_iconst (v := 1) hx hb dL_law_356 (by decide) ?_
  refine lv_iadd hx hb dL_law_357 ?_
  refine tz_i (nI (i + 1)) (nI_add i 1) ?_
  refine va_sld hx hb hX hbl hbA hS (vp_in_nI (n := (i + 1)) (N := L) (by omega) (by omega)) dL_law_358 ?_
  refine tz_i (xs (i + 1)) (congrArg xs (nI_clamp (by omega))) ?_
  have hPc := hP.sub (ws' := [(o, .inr (11, [.ref aw, .ref (ab 0), .ref ai, .ref ak, .ref sc, .ref rd, .ref fo, .ref tx, .int ty, .ref ar, .ref at_, .ref ao])), (ar, .inl (cr, 3, .inl fr)), ((ab 0), .inr (0, [.ref (ab 1), .ref (ab 3), .ref (ab 5), .ref (ab 7), .ref (ab 9), .int (nI ub)])), ((ab 1), .inr (6, [.int 1, .int 5, .ref (ab 2), .int (nI (zb 0))])), ((ab 2), .inl ((cb 0), 5, .inl (fb 0))), ((ab 3), .inr (6, [.int 4, .int 5, .ref (ab 4), .int (nI (zb 1))])), ((ab 4), .inl ((cb 1), 20, .inl (fb 1))), ((ab 5), .inr (6, [.int 4, .int 8, .ref (ab 6), .int (nI (zb 2))])), ((ab 6), .inl ((cb 2), 32, .inl (fb 2))), ((ab 7), .inr (6, [.int 4, .int 6, .ref (ab 8), .int (nI (zb 3))])), ((ab 8), .inl ((cb 3), 24, .inl (fb 3))), ((ab 9), .inl ((cb 12), 8, .inr (.inr (.inr (.inr (tz_ear ab)))))), ((ab 10), .inr (6, [.int 4, .int 8, .ref (ab 11), .int (nI (zb 4))])), ((ab 11), .inl ((cb 4), 32, .inl (fb 4))), ((ab 12), .inr (6, [.int 4, .int 8, .ref (ab 13), .int (nI (zb 5))])), ((ab 13), .inl ((cb 5), 32, .inl (fb 5))), ((ab 14), .inr (6, [.int 4, .int 8, .ref (ab 15), .int (nI (zb 6))])), ((ab 15), .inl ((cb 6), 32, .inl (fb 6))), ((ab 16), .inr (6, [.int 4, .int 8, .ref (ab 17), .int (nI (zb 7))])), ((ab 17), .inl ((cb 7), 32, .inl (fb 7))), ((ab 18), .inr (6, [.int 4, .int 8, .ref (ab 19), .int (nI (zb 8))])), ((ab 19), .inl ((cb 8), 32, .inl (fb 8))), ((ab 20), .inr (6, [.int 4, .int 8, .ref (ab 21), .int (nI (zb 9))])), ((ab 21), .inl ((cb 9), 32, .inl (fb 9))), ((ab 22), .inr (6, [.int 4, .int 8, .ref (ab 23), .int (nI (zb 10))])), ((ab 23), .inl ((cb 10), 32, .inl (fb 10))), ((ab 24), .inr (6, [.int 4, .int 8, .ref (ab 25), .int (nI (zb 11))])), ((ab 25), .inl ((cb 11), 32, .inl (fb 11)))]) [0, 1, 45, 46, 47, 48, 49, 50, 51, 52, 53, 54, 55, 56, 57, 58, 59, 60, 61, 62, 63, 64, 65, 66, 67, 68, 69, 70] rfl
  have hDc := hD.sub (ws' := [(o, .inr (11, [.ref aw, .ref (ab 0), .ref ai, .ref ak, .ref sc, .ref rd, .ref fo, .ref tx, .int ty, .ref ar, .ref at_, .ref ao])), (ar, .inl (cr, 3, .inl fr)), ((ab 0), .inr (0, [.ref (ab 1), .ref (ab 3), .ref (ab 5), .ref (ab 7), .ref (ab 9), .int (nI ub)])), ((ab 1), .inr (6, [.int 1, .int 5, .ref (ab 2), .int (nI (zb 0))])), ((ab 2), .inl ((cb 0), 5, .inl (fb 0))), ((ab 3), .inr (6, [.int 4, .int 5, .ref (ab 4), .int (nI (zb 1))])), ((ab 4), .inl ((cb 1), 20, .inl (fb 1))), ((ab 5), .inr (6, [.int 4, .int 8, .ref (ab 6), .int (nI (zb 2))])), ((ab 6), .inl ((cb 2), 32, .inl (fb 2))), ((ab 7), .inr (6, [.int 4, .int 6, .ref (ab 8), .int (nI (zb 3))])), ((ab 8), .inl ((cb 3), 24, .inl (fb 3))), ((ab 9), .inl ((cb 12), 8, .inr (.inr (.inr (.inr (tz_ear ab)))))), ((ab 10), .inr (6, [.int 4, .int 8, .ref (ab 11), .int (nI (zb 4))])), ((ab 11), .inl ((cb 4), 32, .inl (fb 4))), ((ab 12), .inr (6, [.int 4, .int 8, .ref (ab 13), .int (nI (zb 5))])), ((ab 13), .inl ((cb 5), 32, .inl (fb 5))), ((ab 14), .inr (6, [.int 4, .int 8, .ref (ab 15), .int (nI (zb 6))])), ((ab 15), .inl ((cb 6), 32, .inl (fb 6))), ((ab 16), .inr (6, [.int 4, .int 8, .ref (ab 17), .int (nI (zb 7))])), ((ab 17), .inl ((cb 7), 32, .inl (fb 7))), ((ab 18), .inr (6, [.int 4, .int 8, .ref (ab 19), .int (nI (zb 8))])), ((ab 19), .inl ((cb 8), 32, .inl (fb 8))), ((ab 20), .inr (6, [.int 4, .int 8, .ref (ab 21), .int (nI (zb 9))])), ((ab 21), .inl ((cb 9), 32, .inl (fb 9))), ((ab 22), .inr (6, [.int 4, .int 8, .ref (ab 23), .int (nI (zb 10))])), ((ab 23), .inl ((cb 10), 32, .inl (fb 10))), ((ab 24), .inr (6, [.int 4, .int 8, .ref (ab 25), .int (nI (zb 11))])), ((ab 25), .inl ((cb 11), 32, .inl (fb 11)))]) [0, 1, 45, 46, 47, 48, 49, 50, 51, 52, 53, 54, 55, 56, 57, 58, 59, 60, 61, 62, 63, 64, 65, 66, 67, 68, 69, 70] (by decide) rfl
  have hKc := hK.sub (tys' := [(cr, .int), ((cb 0), .int), ((cb 1), .int), ((cb 2), .int), ((cb 3), .int), ((cb 12), (.object "ThriceCounted$Rows")), ((cb 4), .int), ((cb 5), .int), ((cb 6), .int), ((cb 7), .int), ((cb 8), .int), ((cb 9), .int), ((cb 10), .int), ((cb 11), .int)]) [0, 22, 23, 24, 25, 26, 27, 28, 29, 30, 31, 32, 33, 34] rfl
  have hFc := va_free (wc := [(o, .inr (11, [.ref aw, .ref (ab 0), .ref ai, .ref ak, .ref sc, .ref rd, .ref fo, .ref tx, .int ty, .ref ar, .ref at_, .ref ao])), (ar, .inl (cr, 3, .inl fr)), ((ab 0), .inr (0, [.ref (ab 1), .ref (ab 3), .ref (ab 5), .ref (ab 7), .ref (ab 9), .int (nI ub)])), ((ab 1), .inr (6, [.int 1, .int 5, .ref (ab 2), .int (nI (zb 0))])), ((ab 2), .inl ((cb 0), 5, .inl (fb 0))), ((ab 3), .inr (6, [.int 4, .int 5, .ref (ab 4), .int (nI (zb 1))])), ((ab 4), .inl ((cb 1), 20, .inl (fb 1))), ((ab 5), .inr (6, [.int 4, .int 8, .ref (ab 6), .int (nI (zb 2))])), ((ab 6), .inl ((cb 2), 32, .inl (fb 2))), ((ab 7), .inr (6, [.int 4, .int 6, .ref (ab 8), .int (nI (zb 3))])), ((ab 8), .inl ((cb 3), 24, .inl (fb 3))), ((ab 9), .inl ((cb 12), 8, .inr (.inr (.inr (.inr (tz_ear ab)))))), ((ab 10), .inr (6, [.int 4, .int 8, .ref (ab 11), .int (nI (zb 4))])), ((ab 11), .inl ((cb 4), 32, .inl (fb 4))), ((ab 12), .inr (6, [.int 4, .int 8, .ref (ab 13), .int (nI (zb 5))])), ((ab 13), .inl ((cb 5), 32, .inl (fb 5))), ((ab 14), .inr (6, [.int 4, .int 8, .ref (ab 15), .int (nI (zb 6))])), ((ab 15), .inl ((cb 6), 32, .inl (fb 6))), ((ab 16), .inr (6, [.int 4, .int 8, .ref (ab 17), .int (nI (zb 7))])), ((ab 17), .inl ((cb 7), 32, .inl (fb 7))), ((ab 18), .inr (6, [.int 4, .int 8, .ref (ab 19), .int (nI (zb 8))])), ((ab 19), .inl ((cb 8), 32, .inl (fb 8))), ((ab 20), .inr (6, [.int 4, .int 8, .ref (ab 21), .int (nI (zb 9))])), ((ab 21), .inl ((cb 9), 32, .inl (fb 9))), ((ab 22), .inr (6, [.int 4, .int 8, .ref (ab 23), .int (nI (zb 10))])), ((ab 23), .inl ((cb 10), 32, .inl (fb 10))), ((ab 24), .inr (6, [.int 4, .int 8, .ref (ab 25), .int (nI (zb 11))])), ((ab 25), .inl ((cb 11), 32, .inl (fb 11)))]) hD hS hA [0, 1, 45, 46, 47, 48, 49, 50, 51, 52, 53, 54, 55, 56, 57, 58, 59, 60, 61, 62, 63, 64, 65, 66, 67, 68, 69, 70] rfl
  refine va_calli (va_runV (As := [.int (xs (i + 1))]) (rest := []) ⟨hx, hb, hml, hown, hts⟩ (x_back l dC dI o aw ab ai ak sc rd fo tx ty ar at_ ao cr fr ub zb cb fb (xs (i + 1)) H.size ⟨hB_b.1, show ub ≤ 8 by omega⟩) (cwV 1 hts gL_law_X11_back rfl rfl rfl (by decide +kernel) ⟨Nat.le_of_ble_eq_true rfl, Nat.le_of_ble_eq_true rfl⟩) ⟨fun a U g mk q => by obtain ⟨q0, q1, qP, qK, qD⟩ := q; exact ⟨q0, q1, qP, va_K.moved (u := U) (U := U.calling g mk a) (Vm.Alike.refl U.vm) qK, qD⟩, va_recv hK hP (ci := 11) (q0 := 0) rfl rfl, fun U hU hW => ⟨rfl, by rw [hU], by rw [hU]; exact hPc, va_K.moved hW.alike hKc, hDc.weaken (fun _ _ _ _ => trivial)⟩⟩ rfl rfl hl.1 rfl (lv_room (Nat.le_of_ble_eq_true rfl)) dL_law_359 ⟨Nat.le_of_ble_eq_true rfl, Nat.le_of_ble_eq_true rfl⟩) hS (fun q _ h => hFc q h) hFc (fun r_1 u_ t H1 locs ht hvm hw_2 hB hz1 hk1 hS => ?_)
  obtain ⟨gr_3, zg_4, fg_5, ug_6, hf_7, hP1, hK1, hD1⟩ := hB
  have hz_zg_4_0 : zg_4 0 ≤ 5 := hf_7.1 0
  have hz_zg_4_1 : zg_4 1 ≤ 5 := hf_7.1 1
  have hz_zg_4_2 : zg_4 2 ≤ 8 := hf_7.1 2
  have hz_zg_4_3 : zg_4 3 ≤ 6 := hf_7.1 3
  have hz_zg_4_4 : zg_4 4 ≤ 8 := hf_7.1 4
  have hz_zg_4_5 : zg_4 5 ≤ 8 := hf_7.1 5
  have hz_zg_4_6 : zg_4 6 ≤ 8 := hf_7.1 6
  have hz_zg_4_7 : zg_4 7 ≤ 8 := hf_7.1 7
  have hz_zg_4_8 : zg_4 8 ≤ 8 := hf_7.1 8
  have hz_zg_4_9 : zg_4 9 ≤ 8 := hf_7.1 9
  have hz_zg_4_10 : zg_4 10 ≤ 8 := hf_7.1 10
  have hz_zg_4_11 : zg_4 11 ≤ 8 := hf_7.1 11
  have hu_zg_4 := hf_7.2
  rw [ht] at hP1
  have hK1 := va_K.moved hvm.symm hK1
  obtain ⟨hP, hD⟩ := tz_put (ws' := (tz_XW o aw ai ak sc rd fo tx ar at_ ao w0 w1 w2 w3 w4 w5 sw sh mo nw kp ik mr mw mq mz my mb mx mv ad ab ai0 ai1 cw cai ck csw csh ctx cr ct_ co_ cn_ ck_ ci_ cr_ cw_ cs_ cz_ cy_ cb2_ cx_ cv_ cd cb ci0 ci1 ty gr_3 fk fx ft_ fo_ fw fh la lb rt nl_ np_ nk_ ns_ nv_ ni_ nf_ ud zd fd ug_6 zg_4 fg_5 ui0 zi0 fi0 ui1 zi1 fi1 la_ lb_ lc_ ti_ cb_ ld_ le_ sm_ jb ta_ tl_ tk_ vl_ fn fk_ fi_ fr_ fw_ fs_ fz_ fb_ fy_ fx_ fv_)) hP hD [0, 1, 45, 46, 47, 48, 49, 50, 51, 52, 53, 54, 55, 56, 57, 58, 59, 60, 61, 62, 63, 64, 65, 66, 67, 68, 69, 70] rfl hk1 hP1 rfl rfl rfl
  generalize H1 = H at hP hS ⊢
  refine lv_pop hx hb dL_law_362 rfl ?_
  refine lv_aload_n hx hb dL_law_363 rfl (lv_at hl 1 rfl) ?_
  refine lv_aload_n hx hb dL_law_364 rfl (lv_at hl 3 rfl) ?_
  refine lv_iload_n hx hb dL_law_365 rfl (lv_at hl 0 rfl) ?_
  refine lv_iconst (v := 1) hx hb dL_law_366 (by decide) ?_
  refine lv_iadd hx hb dL_law_367 ?_
  refine tz_i (nI (i + 1)) (nI_add i 1) ?_
  refine va_sld hx hb hX hbl hbA hS (vp_in_nI (n := (i + 1)) (N := L) (by omega) (by omega)) dL_law_368 ?_
  refine tz_i (xs (i + 1)) (congrArg xs (nI_clamp (by omega))) ?_
  have hPc := hP.sub (ws' := [(mo, .inr (12, [.ref nw, .ref kp, .ref ik, .ref mr, .long la_, .long lb_, .ref mw, .long lc_, .int ti_, .int cb_, .long ld_, .long le_, .ref mq, .ref mz, .ref my, .int sm_, .ref mb, .int (nI jb), .int ta_, .int tl_, .int tk_, .int vl_, .ref mx, .ref mv])), (nw, .inl (cn_, 350, .inl fn)), (mr, .inl (cr_, 3, .inl fr_))]) [123, 124, 127] rfl
  have hDc := hD.sub (ws' := [(mo, .inr (12, [.ref nw, .ref kp, .ref ik, .ref mr, .long la_, .long lb_, .ref mw, .long lc_, .int ti_, .int cb_, .long ld_, .long le_, .ref mq, .ref mz, .ref my, .int sm_, .ref mb, .int (nI jb), .int ta_, .int tl_, .int tk_, .int vl_, .ref mx, .ref mv])), (nw, .inl (cn_, 350, .inl fn)), (mr, .inl (cr_, 3, .inl fr_))]) [123, 124, 127] (by decide) rfl
  have hKc := hK.sub (tys' := [(cn_, .int), (cr_, .int)]) [61, 64] rfl
  have hFc := va_free (wc := [(mo, .inr (12, [.ref nw, .ref kp, .ref ik, .ref mr, .long la_, .long lb_, .ref mw, .long lc_, .int ti_, .int cb_, .long ld_, .long le_, .ref mq, .ref mz, .ref my, .int sm_, .ref mb, .int (nI jb), .int ta_, .int tl_, .int tk_, .int vl_, .ref mx, .ref mv])), (nw, .inl (cn_, 350, .inl fn)), (mr, .inl (cr_, 3, .inl fr_))]) hD hS hA [123, 124, 127] rfl
  refine va_calli (va_runV (As := [.int (xs (i + 1))]) (rest := []) ⟨hx, hb, hml, hown, hts⟩ (m_back l dC dI mo nw kp ik mr la_ lb_ mw lc_ ti_ cb_ ld_ le_ mq mz my sm_ mb (nI jb) ta_ tl_ tk_ vl_ mx mv cn_ fn cr_ fr_ (xs (i + 1)) H.size hO_n) (cwV 1 hts gL_law_X12_back rfl rfl rfl (by decide +kernel) ⟨Nat.le_of_ble_eq_true rfl, Nat.le_of_ble_eq_true rfl⟩) ⟨fun a U g mk q => by obtain ⟨q0, q1, qP, qK, qD⟩ := q; exact ⟨q0, q1, qP, va_K.moved (u := U) (U := U.calling g mk a) (Vm.Alike.refl U.vm) qK, qD⟩, va_recv hK hP (ci := 12) (q0 := 123) rfl rfl, fun U hU hW => ⟨rfl, by rw [hU], by rw [hU]; exact hPc, va_K.moved hW.alike hKc, hDc.weaken (fun _ _ _ _ => trivial)⟩⟩ rfl rfl hl.1 rfl (lv_room (Nat.le_of_ble_eq_true rfl)) dL_law_369 ⟨Nat.le_of_ble_eq_true rfl, Nat.le_of_ble_eq_true rfl⟩) hS (fun q _ h => hFc q h) hFc (fun r_8 u_ t H1 locs ht hvm hw_9 hB hz1 hk1 hS => ?_)
  obtain ⟨gn_10, gr__11, hf_12, hP1, hK1, hD1⟩ := hB
  rw [ht] at hP1
  have hK1 := va_K.moved hvm.symm hK1
  obtain ⟨hP, hD⟩ := tz_put (ws' := (tz_XW o aw ai ak sc rd fo tx ar at_ ao w0 w1 w2 w3 w4 w5 sw sh mo nw kp ik mr mw mq mz my mb mx mv ad ab ai0 ai1 cw cai ck csw csh ctx cr ct_ co_ cn_ ck_ ci_ cr_ cw_ cs_ cz_ cy_ cb2_ cx_ cv_ cd cb ci0 ci1 ty gr_3 fk fx ft_ fo_ fw fh la lb rt nl_ np_ nk_ ns_ nv_ ni_ nf_ ud zd fd ug_6 zg_4 fg_5 ui0 zi0 fi0 ui1 zi1 fi1 la_ lb_ lc_ ti_ cb_ ld_ le_ sm_ jb ta_ tl_ tk_ vl_ gn_10 fk_ fi_ gr__11 fw_ fs_ fz_ fb_ fy_ fx_ fv_)) hP hD [123, 124, 127] rfl hk1 hP1 rfl rfl rfl
  generalize H1 = H at hP hS ⊢
  refine lv_pop hx hb dL_law_372 rfl ?_
  refine lv_goto (tgt := 1153) hx hb dL_law_373 (by decide) ?_
  exact K H _ ls ⟨ty, gr_3, fk, fx, ft_, fo_, fw, fh, la, lb, rt, nl_, np_, nk_, ns_, nv_, ni_, nf_, ud, zd, fd, ug_6, zg_4, fg_5, ui0, zi0, fi0, ui1, zi1, fi1, la_, lb_, lc_, ti_, cb_, ld_, le_, sm_, jb, ta_, tl_, tk_, vl_, gn_10, fk_, fi_, gr__11, fw_, fs_, fz_, fb_, fy_, fx_, fv_, hB_d, hf_7, hB_i0, hB_i1, hf_12, hO_k, hO_x, hO_b, hP, hD⟩ hS hl
set_option maxRecDepth 20000 in
theorem gL_law_X11_undo : GoodIn lw_tbl (wsV RL 42 RX11 yX11_undo wsX11_undo) := tz_good [(14, 7), (14, 8), (14, 9), (0, 2), (14, 10), (1, 10), (11, 15), (14, 11), (14, 12), (14, 13), (1, 9), (14, 14), (3, 10), (3, 9), (3, 7), (12, 4), (12, 5), (12, 6), (3, 4), (12, 7), (3, 20), (3, 15), (12, 8), (12, 9), (3, 18), (12, 10), (3, 22), (12, 11), (12, 12), (12, 13), (12, 14), (7, 7), (7, 8), (7, 9), (0, 2), (7, 10), (7, 11), (7, 12), (7, 13), (7, 14), (2, 6), (5, 21), (5, 22), (5, 23), (6, 0), (46, 0), (46, 1), (46, 2), (46, 3), (46, 4), (46, 5), (46, 6), (46, 7), (46, 8), (46, 9), (46, 10), (46, 11), (54, 0), (54, 1), (54, 2), (54, 3), (54, 4), (54, 5), (58, 0), (58, 1), (58, 2), (58, 3)] (by decide +kernel) (by decide +kernel)
set_option maxRecDepth 20000 in
theorem gL_law_X12_undo : GoodIn lw_tbl (wsV RL 45 RX12 yX12_undo wsX12_undo) := tz_good [(14, 15), (14, 16), (14, 17), (0, 5), (14, 18), (5, 4), (14, 19), (14, 20), (14, 21), (0, 5), (14, 22), (5, 7), (47, 0), (47, 1), (47, 2), (47, 3), (47, 4), (47, 5), (47, 6), (47, 7), (47, 8), (47, 9), (47, 10), (47, 11), (47, 12), (47, 13), (47, 14), (47, 15), (47, 16), (47, 17), (47, 18), (47, 19), (47, 20), (47, 21), (47, 22), (47, 23)] (by decide +kernel) (by decide +kernel)
theorem dL_law_376 : decode cL_law 376 = .ok (.aload_n 1, 1) := by decide +kernel
theorem dL_law_377 : decode cL_law 377 = .ok (.invokevirtual 42, 3) := by decide +kernel
theorem dL_law_380 : decode cL_law 380 = .ok (.pop, 1) := by decide +kernel
theorem dL_law_381 : decode cL_law 381 = .ok (.aload_n 2, 1) := by decide +kernel
theorem dL_law_382 : decode cL_law 382 = .ok (.invokevirtual 45, 3) := by decide +kernel
theorem dL_law_385 : decode cL_law 385 = .ok (.pop, 1) := by decide +kernel
theorem dL_law_386 : decode cL_law 386 = .ok (.goto 767, 3) := by decide +kernel
set_option maxHeartbeats 8000000 in
set_option maxRecDepth 100000 in
theorem lc_undo {p : Program} {l : Launch} {e : Env} {s : State} {m : MethodId} {below : List Frame} {meth : Method} {c : Code} {b L : Nat} {xs : Nat → Int32} (hL : L ≤ 3072) (C0 : lw_At p s m meth c b L xs) (hN : tz_N s) (A : Nat → Prop) (hA : ∀ q : Nat, s.heap.size ≤ q → A q) (hA2 : ∀ q : Nat, A q → s.heap.size ≤ q) (hbA : ¬ A b) (hV : tz_V A s s.heap) (dC : Nat → ClassId) (dI : Nat → Nat → Nat) (o : Nat) (aw : Nat) (ai : Nat) (ak : Nat) (sc : Nat) (rd : Nat) (fo : Nat) (tx : Nat) (ar : Nat) (at_ : Nat) (ao : Nat) (w0 : Nat) (w1 : Nat) (w2 : Nat) (w3 : Nat) (w4 : Nat) (w5 : Nat) (sw : Nat) (sh : Nat) (mo : Nat) (nw : Nat) (kp : Nat) (ik : Nat) (mr : Nat) (mw : Nat) (mq : Nat) (mz : Nat) (my : Nat) (mb : Nat) (mx : Nat) (mv : Nat) (ad : Nat → Nat) (ab : Nat → Nat) (ai0 : Nat → Nat) (ai1 : Nat → Nat) (cw : ClassId) (cai : ClassId) (ck : ClassId) (csw : ClassId) (csh : ClassId) (ctx : ClassId) (cr : ClassId) (ct_ : ClassId) (co_ : ClassId) (cn_ : ClassId) (ck_ : ClassId) (ci_ : ClassId) (cr_ : ClassId) (cw_ : ClassId) (cs_ : ClassId) (cz_ : ClassId) (cy_ : ClassId) (cb2_ : ClassId) (cx_ : ClassId) (cv_ : ClassId) (cd : Nat → ClassId) (cb : Nat → ClassId) (ci0 : Nat → ClassId) (ci1 : Nat → ClassId) (hK : va_K (dC, dI) vwCl (tz_T cw cai ck csw csh ctx cr ct_ co_ cn_ ck_ ci_ cr_ cw_ cs_ cz_ cy_ cb2_ cx_ cv_ cd cb ci0 ci1) s) (i : Nat) (hi : i + 6 ≤ L) (H : Heap) (locs : List Loc) (hI : tz_I dC dI o aw ai ak sc rd fo tx ar at_ ao w0 w1 w2 w3 w4 w5 sw sh mo nw kp ik mr mw mq mz my mb mx mv ad ab ai0 ai1 cw cai ck csw csh ctx cr ct_ co_ cn_ ck_ ci_ cr_ cw_ cs_ cz_ cy_ cb2_ cx_ cv_ cd cb ci0 ci1 A H) (hS : va_S A s.heap H locs) (ls : Array Slot) (hl : lv_has ls 4 [(3, .int (nI i)), (2, .ref mo), (1, .ref o), (0, .ref b)]) (K : ∀ (H : Heap) (locs : List Loc) (ls : Array Slot), tz_I dC dI o aw ai ak sc rd fo tx ar at_ ao w0 w1 w2 w3 w4 w5 sw sh mo nw kp ik mr mw mq mz my mb mx mv ad ab ai0 ai1 cw cai ck csw csh ctx cr ct_ co_ cn_ ck_ ci_ cr_ cw_ cs_ cz_ cy_ cb2_ cx_ cv_ cd cb ci0 ci1 A H → va_S A s.heap H locs → lv_has ls 4 [(3, .int (nI i)), (2, .ref mo), (1, .ref o), (0, .ref b)] → W p l e room_1 s m #[Value.ref b] below meth c H locs 136 3195 (lw_Z below #[Value.ref b] s) (F0 m 1153 ls [])) : W p l e room_1 s m #[Value.ref b] below meth c H locs 136 3195 (lw_Z below #[Value.ref b] s) (F0 m 376 ls []) := by
  obtain ⟨hx, hb, hr, hml, hown, hts, hX, hbl, hlocks, hgv⟩ := C0
  have hb : c.code = cL_law := hb
  have hown : s.vm.findClass RL = some m.cls := hown
  obtain ⟨ty, fr, fk, fx, ft_, fo_, fw, fh, la, lb, rt, nl_, np_, nk_, ns_, nv_, ni_, nf_, ud, zd, fd, ub, zb, fb, ui0, zi0, fi0, ui1, zi1, fi1, la_, lb_, lc_, ti_, cb_, ld_, le_, sm_, jb, ta_, tl_, tk_, vl_, fn, fk_, fi_, fr_, fw_, fs_, fz_, fb_, fy_, fx_, fv_, hB_d, hB_b, hB_i0, hB_i1, hO_n, hO_k, hO_x, hO_b, hP, hD⟩ := hI
  have hu_zd := hB_d.2
  have hu_zb := hB_b.2
  have hu_zi0 := hB_i0.2
  have hu_zi1 := hB_i1.2
  refine lv_aload_n hx hb dL_law_376 rfl (lv_at hl 2 rfl) ?_
  have hPc := hP.sub (ws' := [(o, .inr (11, [.ref aw, .ref (ab 0), .ref ai, .ref ak, .ref sc, .ref rd, .ref fo, .ref tx, .int ty, .ref ar, .ref at_, .ref ao])), (ar, .inl (cr, 3, .inl fr)), ((ab 0), .inr (0, [.ref (ab 1), .ref (ab 3), .ref (ab 5), .ref (ab 7), .ref (ab 9), .int (nI ub)])), ((ab 1), .inr (6, [.int 1, .int 5, .ref (ab 2), .int (nI (zb 0))])), ((ab 2), .inl ((cb 0), 5, .inl (fb 0))), ((ab 3), .inr (6, [.int 4, .int 5, .ref (ab 4), .int (nI (zb 1))])), ((ab 4), .inl ((cb 1), 20, .inl (fb 1))), ((ab 5), .inr (6, [.int 4, .int 8, .ref (ab 6), .int (nI (zb 2))])), ((ab 6), .inl ((cb 2), 32, .inl (fb 2))), ((ab 7), .inr (6, [.int 4, .int 6, .ref (ab 8), .int (nI (zb 3))])), ((ab 8), .inl ((cb 3), 24, .inl (fb 3))), ((ab 9), .inl ((cb 12), 8, .inr (.inr (.inr (.inr (tz_ear ab)))))), ((ab 10), .inr (6, [.int 4, .int 8, .ref (ab 11), .int (nI (zb 4))])), ((ab 11), .inl ((cb 4), 32, .inl (fb 4))), ((ab 12), .inr (6, [.int 4, .int 8, .ref (ab 13), .int (nI (zb 5))])), ((ab 13), .inl ((cb 5), 32, .inl (fb 5))), ((ab 14), .inr (6, [.int 4, .int 8, .ref (ab 15), .int (nI (zb 6))])), ((ab 15), .inl ((cb 6), 32, .inl (fb 6))), ((ab 16), .inr (6, [.int 4, .int 8, .ref (ab 17), .int (nI (zb 7))])), ((ab 17), .inl ((cb 7), 32, .inl (fb 7))), ((ab 18), .inr (6, [.int 4, .int 8, .ref (ab 19), .int (nI (zb 8))])), ((ab 19), .inl ((cb 8), 32, .inl (fb 8))), ((ab 20), .inr (6, [.int 4, .int 8, .ref (ab 21), .int (nI (zb 9))])), ((ab 21), .inl ((cb 9), 32, .inl (fb 9))), ((ab 22), .inr (6, [.int 4, .int 8, .ref (ab 23), .int (nI (zb 10))])), ((ab 23), .inl ((cb 10), 32, .inl (fb 10))), ((ab 24), .inr (6, [.int 4, .int 8, .ref (ab 25), .int (nI (zb 11))])), ((ab 25), .inl ((cb 11), 32, .inl (fb 11)))]) [0, 1, 45, 46, 47, 48, 49, 50, 51, 52, 53, 54, 55, 56, 57, 58, 59, 60, 61, 62, 63, 64, 65, 66, 67, 68, 69, 70] rfl
  have hDc := hD.sub (ws' := [(o, .inr (11, [.ref aw, .ref (ab 0), .ref ai, .ref ak, .ref sc, .ref rd, .ref fo, .ref tx, .int ty, .ref ar, .ref at_, .ref ao])), (ar, .inl (cr, 3, .inl fr)), ((ab 0), .inr (0, [.ref (ab 1), .ref (ab 3), .ref (ab 5), .ref (ab 7), .ref (ab 9), .int (nI ub)])), ((ab 1), .inr (6, [.int 1, .int 5, .ref (ab 2), .int (nI (zb 0))])), ((ab 2), .inl ((cb 0), 5, .inl (fb 0))), ((ab 3), .inr (6, [.int 4, .int 5, .ref (ab 4), .int (nI (zb 1))])), ((ab 4), .inl ((cb 1), 20, .inl (fb 1))), ((ab 5), .inr (6, [.int 4, .int 8, .ref (ab 6), .int (nI (zb 2))])), ((ab 6), .inl ((cb 2), 32, .inl (fb 2))), ((ab 7), .inr (6, [.int 4, .int 6, .ref (ab 8), .int (nI (zb 3))])), ((ab 8), .inl ((cb 3), 24, .inl (fb 3))), ((ab 9), .inl ((cb 12), 8, .inr (.inr (.inr (.inr (tz_ear ab)))))), ((ab 10), .inr (6, [.int 4, .int 8, .ref (ab 11), .int (nI (zb 4))])), ((ab 11), .inl ((cb 4), 32, .inl (fb 4))), ((ab 12), .inr (6, [.int 4, .int 8, .ref (ab 13), .int (nI (zb 5))])), ((ab 13), .inl ((cb 5), 32, .inl (fb 5))), ((ab 14), .inr (6, [.int 4, .int 8, .ref (ab 15), .int (nI (zb 6))])), ((ab 15), .inl ((cb 6), 32, .inl (fb 6))), ((ab 16), .inr (6, [.int 4, .int 8, .ref (ab 17), .int (nI (zb 7))])), ((ab 17), .inl ((cb 7), 32, .inl (fb 7))), ((ab 18), .inr (6, [.int 4, .int 8, .ref (ab 19), .int (nI (zb 8))])), ((ab 19), .inl ((cb 8), 32, .inl (fb 8))), ((ab 20), .inr (6, [.int 4, .int 8, .ref (ab 21), .int (nI (zb 9))])), ((ab 21), .inl ((cb 9), 32, .inl (fb 9))), ((ab 22), .inr (6, [.int 4, .int 8, .ref (ab 23), .int (nI (zb 10))])), ((ab 23), .inl ((cb 10), 32, .inl (fb 10))), ((ab 24), .inr (6, [.int 4, .int 8, .ref (ab 25), .int (nI (zb 11))])), ((ab 25), .inl ((cb 11), 32, .inl (fb 11)))]) [0, 1, 45, 46, 47, 48, 49, 50, 51, 52, 53, 54, 55, 56, 57, 58, 59, 60, 61, 62, 63, 64, 65, 66, 67, 68, 69, 70] (by decide) rfl
  have hKc := hK.sub (tys' := [(cr, .int), ((cb 0), .int), ((cb 1), .int), ((cb 2), .int), ((cb 3), .int), ((cb 12), (.object "ThriceCounted$Rows")), ((cb 4), .int), ((cb 5), .int), ((cb 6), .int), ((cb 7), .int), ((cb 8), .int), ((cb 9), .int), ((cb 10), .int), ((cb 11), .int)]) [0, 22, 23, 24, 25, 26, 27, 28, 29, 30, 31, 32, 33, 34] rfl
  have hFc := va_free (wc := [(o, .inr (11, [.ref aw, .ref (ab 0), .ref ai, .ref ak, .ref sc, .ref rd, .ref fo, .ref tx, .int ty, .ref ar, .ref at_, .ref ao])), (ar, .inl (cr, 3, .inl fr)), ((ab 0), .inr (0, [.ref (ab 1), .ref (ab 3), .ref (ab 5), .ref (ab 7), .ref (ab 9), .int (nI ub)])), ((ab 1), .inr (6, [.int 1, .int 5, .ref (ab 2), .int (nI (zb 0))])), ((ab 2), .inl ((cb 0), 5, .inl (fb 0))), ((ab 3), .inr (6, [.int 4, .int 5, .ref (ab 4), .int (nI (zb 1))])), ((ab 4), .inl ((cb 1), 20, .inl (fb 1))), ((ab 5), .inr (6, [.int 4, .int 8, .ref (ab 6), .int (nI (zb 2))])), ((ab 6), .inl ((cb 2), 32, .inl (fb 2))), ((ab 7), .inr (6, [.int 4, .int 6, .ref (ab 8), .int (nI (zb 3))])), ((ab 8), .inl ((cb 3), 24, .inl (fb 3))), ((ab 9), .inl ((cb 12), 8, .inr (.inr (.inr (.inr (tz_ear ab)))))), ((ab 10), .inr (6, [.int 4, .int 8, .ref (ab 11), .int (nI (zb 4))])), ((ab 11), .inl ((cb 4), 32, .inl (fb 4))), ((ab 12), .inr (6, [.int 4, .int 8, .ref (ab 13), .int (nI (zb 5))])), ((ab 13), .inl ((cb 5), 32, .inl (fb 5))), ((ab 14), .inr (6, [.int 4, .int 8, .ref (ab 15), .int (nI (zb 6))])), ((ab 15), .inl ((cb 6), 32, .inl (fb 6))), ((ab 16), .inr (6, [.int 4, .int 8, .ref (ab 17), .int (nI (zb 7))])), ((ab 17), .inl ((cb 7), 32, .inl (fb 7))), ((ab 18), .inr (6, [.int 4, .int 8, .ref (ab 19), .int (nI (zb 8))])), ((ab 19), .inl ((cb 8), 32, .inl (fb 8))), ((ab 20), .inr (6, [.int 4, .int 8, .ref (ab 21), .int (nI (zb 9))])), ((ab 21), .inl ((cb 9), 32, .inl (fb 9))), ((ab 22), .inr (6, [.int 4, .int 8, .ref (ab 23), .int (nI (zb 10))])), ((ab 23), .inl ((cb 10), 32, .inl (fb 10))), ((ab 24), .inr (6, [.int 4, .int 8, .ref (ab 25), .int (nI (zb 11))])), ((ab 25), .inl ((cb 11), 32, .inl (fb 11)))]) hD hS hA [0, 1, 45, 46, 47, 48, 49, 50, 51, 52, 53, 54, 55, 56, 57, 58, 59, 60, 61, 62, 63, 64, 65, 66, 67, 68, 69, 70] rfl
  refine va_calli (va_runV (As := []) (rest := []) ⟨hx, hb, hml, hown, hts⟩ (x_undo l dC dI o aw ab ai ak sc rd fo tx ty ar at_ ao cr fr ub zb cb fb H.size ⟨hB_b.1, show ub ≤ 8 by omega⟩) (cwV 0 hts gL_law_X11_undo rfl rfl rfl (by decide +kernel) ⟨Nat.le_of_ble_eq_true rfl, Nat.le_of_ble_eq_true rfl⟩) ⟨fun a U g mk q => by obtain ⟨q0, q1, qP, qK, qD⟩ := q; exact ⟨q0, q1, qP, va_K.moved (u := U) (U := U.calling g mk a) (Vm.Alike.refl U.vm) qK, qD⟩, va_recv hK hP (ci := 11) (q0 := 0) rfl rfl, fun U hU hW => ⟨rfl, by rw [hU], by rw [hU]; exact hPc, va_K.moved hW.alike hKc, hDc.weaken (fun _ _ _ _ => trivial)⟩⟩ rfl rfl hl.1 rfl (lv_room (Nat.le_of_ble_eq_true rfl)) dL_law_377 ⟨Nat.le_of_ble_eq_true rfl, Nat.le_of_ble_eq_true rfl⟩) hS (fun q _ h => hFc q h) hFc (fun r_1 u_ t H1 locs ht hvm hw_2 hB hz1 hk1 hS => ?_)
  obtain ⟨gr_3, zg_4, fg_5, ug_6, hf_7, hP1, hK1, hD1⟩ := hB
  have hz_zg_4_0 : zg_4 0 ≤ 5 := hf_7.1 0
  have hz_zg_4_1 : zg_4 1 ≤ 5 := hf_7.1 1
  have hz_zg_4_2 : zg_4 2 ≤ 8 := hf_7.1 2
  have hz_zg_4_3 : zg_4 3 ≤ 6 := hf_7.1 3
  have hz_zg_4_4 : zg_4 4 ≤ 8 := hf_7.1 4
  have hz_zg_4_5 : zg_4 5 ≤ 8 := hf_7.1 5
  have hz_zg_4_6 : zg_4 6 ≤ 8 := hf_7.1 6
  have hz_zg_4_7 : zg_4 7 ≤ 8 := hf_7.1 7
  have hz_zg_4_8 : zg_4 8 ≤ 8 := hf_7.1 8
  have hz_zg_4_9 : zg_4 9 ≤ 8 := hf_7.1 9
  have hz_zg_4_10 : zg_4 10 ≤ 8 := hf_7.1 10
  have hz_zg_4_11 : zg_4 11 ≤ 8 := hf_7.1 11
  have hu_zg_4 := hf_7.2
  rw [ht] at hP1
  have hK1 := va_K.moved hvm.symm hK1
  obtain ⟨hP, hD⟩ := tz_put (ws' := (tz_XW o aw ai ak sc rd fo tx ar at_ ao w0 w1 w2 w3 w4 w5 sw sh mo nw kp ik mr mw mq mz my mb mx mv ad ab ai0 ai1 cw cai ck csw csh ctx cr ct_ co_ cn_ ck_ ci_ cr_ cw_ cs_ cz_ cy_ cb2_ cx_ cv_ cd cb ci0 ci1 ty gr_3 fk fx ft_ fo_ fw fh la lb rt nl_ np_ nk_ ns_ nv_ ni_ nf_ ud zd fd ug_6 zg_4 fg_5 ui0 zi0 fi0 ui1 zi1 fi1 la_ lb_ lc_ ti_ cb_ ld_ le_ sm_ jb ta_ tl_ tk_ vl_ fn fk_ fi_ fr_ fw_ fs_ fz_ fb_ fy_ fx_ fv_)) hP hD [0, 1, 45, 46, 47, 48, 49, 50, 51, 52, 53, 54, 55, 56, 57, 58, 59, 60, 61, 62, 63, 64, 65, 66, 67, 68, 69, 70] rfl hk1 hP1 rfl rfl rfl
  generalize H1 = H at hP hS ⊢
  refine lv_pop hx hb dL_law_380 rfl ?_
  refine lv_aload_n hx hb dL_law_381 rfl (lv_at hl 1 rfl) ?_
  have hPc := hP.sub (ws' := [(mo, .inr (12, [.ref nw, .ref kp, .ref ik, .ref mr, .long la_, .long lb_, .ref mw, .long lc_, .int ti_, .int cb_, .long ld_, .long le_, .ref mq, .ref mz, .ref my, .int sm_, .ref mb, .int (nI jb), .int ta_, .int tl_, .int tk_, .int vl_, .ref mx, .ref mv])), (nw, .inl (cn_, 350, .inl fn)), (mr, .inl (cr_, 3, .inl fr_))]) [123, 124, 127] rfl
  have hDc := hD.sub (ws' := [(mo, .inr (12, [.ref nw, .ref kp, .ref ik, .ref mr, .long la_, .long lb_, .ref mw, .long lc_, .int ti_, .int cb_, .long ld_, .long le_, .ref mq, .ref mz, .ref my, .int sm_, .ref mb, .int (nI jb), .int ta_, .int tl_, .int tk_, .int vl_, .ref mx, .ref mv])), (nw, .inl (cn_, 350, .inl fn)), (mr, .inl (cr_, 3, .inl fr_))]) [123, 124, 127] (by decide) rfl
  have hKc := hK.sub (tys' := [(cn_, .int), (cr_, .int)]) [61, 64] rfl
  have hFc := va_free (wc := [(mo, .inr (12, [.ref nw, .ref kp, .ref ik, .ref mr, .long la_, .long lb_, .ref mw, .long lc_, .int ti_, .int cb_, .long ld_, .long le_, .ref mq, .ref mz, .ref my, .int sm_, .ref mb, .int (nI jb), .int ta_, .int tl_, .int tk_, .int vl_, .ref mx, .ref mv])), (nw, .inl (cn_, 350, .inl fn)), (mr, .inl (cr_, 3, .inl fr_))]) hD hS hA [123, 124, 127] rfl
  refine va_calli (va_runV (As := []) (rest := []) ⟨hx, hb, hml, hown, hts⟩ (m_undo l dC dI mo nw kp ik mr la_ lb_ mw lc_ ti_ cb_ ld_ le_ mq mz my sm_ mb (nI jb) ta_ tl_ tk_ vl_ mx mv cn_ fn cr_ fr_ H.size hO_n) (cwV 0 hts gL_law_X12_undo rfl rfl rfl (by decide +kernel) ⟨Nat.le_of_ble_eq_true rfl, Nat.le_of_ble_eq_true rfl⟩) ⟨fun a U g mk q => by obtain ⟨q0, q1, qP, qK, qD⟩ := q; exact ⟨q0, q1, qP, va_K.moved (u := U) (U := U.calling g mk a) (Vm.Alike.refl U.vm) qK, qD⟩, va_recv hK hP (ci := 12) (q0 := 123) rfl rfl, fun U hU hW => ⟨rfl, by rw [hU], by rw [hU]; exact hPc, va_K.moved hW.alike hKc, hDc.weaken (fun _ _ _ _ => trivial)⟩⟩ rfl rfl hl.1 rfl (lv_room (Nat.le_of_ble_eq_true rfl)) dL_law_382 ⟨Nat.le_of_ble_eq_true rfl, Nat.le_of_ble_eq_true rfl⟩) hS (fun q _ h => hFc q h) hFc (fun r_8 u_ t H1 locs ht hvm hw_9 hB hz1 hk1 hS => ?_)
  obtain ⟨gn_10, gr__11, hf_12, hP1, hK1, hD1⟩ := hB
  rw [ht] at hP1
  have hK1 := va_K.moved hvm.symm hK1
  obtain ⟨hP, hD⟩ := tz_put (ws' := (tz_XW o aw ai ak sc rd fo tx ar at_ ao w0 w1 w2 w3 w4 w5 sw sh mo nw kp ik mr mw mq mz my mb mx mv ad ab ai0 ai1 cw cai ck csw csh ctx cr ct_ co_ cn_ ck_ ci_ cr_ cw_ cs_ cz_ cy_ cb2_ cx_ cv_ cd cb ci0 ci1 ty gr_3 fk fx ft_ fo_ fw fh la lb rt nl_ np_ nk_ ns_ nv_ ni_ nf_ ud zd fd ug_6 zg_4 fg_5 ui0 zi0 fi0 ui1 zi1 fi1 la_ lb_ lc_ ti_ cb_ ld_ le_ sm_ jb ta_ tl_ tk_ vl_ gn_10 fk_ fi_ gr__11 fw_ fs_ fz_ fb_ fy_ fx_ fv_)) hP hD [123, 124, 127] rfl hk1 hP1 rfl rfl rfl
  generalize H1 = H at hP hS ⊢
  refine lv_pop hx hb dL_law_385 rfl ?_
  refine lv_goto (tgt := 1153) hx hb dL_law_386 (by decide) ?_
  exact K H _ ls ⟨ty, gr_3, fk, fx, ft_, fo_, fw, fh, la, lb, rt, nl_, np_, nk_, ns_, nv_, ni_, nf_, ud, zd, fd, ug_6, zg_4, fg_5, ui0, zi0, fi0, ui1, zi1, fi1, la_, lb_, lc_, ti_, cb_, ld_, le_, sm_, jb, ta_, tl_, tk_, vl_, gn_10, fk_, fi_, gr__11, fw_, fs_, fz_, fb_, fy_, fx_, fv_, hB_d, hf_7, hB_i0, hB_i1, hf_12, hO_k, hO_x, hO_b, hP, hD⟩ hS hl
set_option maxRecDepth 20000 in
theorem gL_law_X11_type : GoodIn lw_tbl (wsV RL 46 RX11 yX11_type wsX11_type) := tz_good [(14, 23), (15, 0), (15, 1), (0, 2), (15, 2), (2, 4), (2, 3), (7, 4), (7, 5), (0, 2), (7, 6), (7, 7), (7, 8), (7, 9), (7, 10), (7, 11), (7, 12), (7, 13), (7, 14), (2, 6), (46, 0), (46, 1), (46, 2), (46, 3), (46, 4), (46, 5), (46, 6), (46, 7), (46, 8), (46, 9), (46, 10), (46, 11)] (by decide +kernel) (by decide +kernel)
set_option maxRecDepth 20000 in
theorem gL_law_X12_type : GoodIn lw_tbl (wsV RL 49 RX12 yX12_type wsX12_type) := tz_good [(15, 3), (15, 4), (15, 5), (0, 5), (15, 6), (15, 7), (15, 8), (5, 13), (8, 17), (8, 18), (0, 5), (8, 19), (8, 20), (8, 21), (8, 22), (8, 23), (5, 7), (9, 0), (9, 1), (9, 2), (9, 3), (47, 0), (47, 1), (47, 2), (47, 3), (47, 4), (47, 5), (47, 6), (47, 7), (47, 8), (47, 9), (47, 10), (47, 11), (47, 12), (47, 13), (47, 14), (47, 15), (47, 16), (47, 17), (47, 18), (47, 19), (47, 20), (47, 21), (47, 22), (47, 23)] (by decide +kernel) (by decide +kernel)
theorem dL_law_389 : decode cL_law 389 = .ok (.aload_n 1, 1) := by decide +kernel
theorem dL_law_390 : decode cL_law 390 = .ok (.aload_n 0, 1) := by decide +kernel
theorem dL_law_391 : decode cL_law 391 = .ok (.iload_n 3, 1) := by decide +kernel
theorem dL_law_392 : decode cL_law 392 = .ok (.iconst 1, 1) := by decide +kernel
theorem dL_law_393 : decode cL_law 393 = .ok (.iadd, 1) := by decide +kernel
theorem dL_law_394 : decode cL_law 394 = .ok (.iaload, 1) := by decide +kernel
theorem dL_law_395 : decode cL_law 395 = .ok (.invokevirtual 46, 3) := by decide +kernel
theorem dL_law_398 : decode cL_law 398 = .ok (.pop, 1) := by decide +kernel
theorem dL_law_399 : decode cL_law 399 = .ok (.aload_n 2, 1) := by decide +kernel
theorem dL_law_400 : decode cL_law 400 = .ok (.aload_n 0, 1) := by decide +kernel
theorem dL_law_401 : decode cL_law 401 = .ok (.iload_n 3, 1) := by decide +kernel
theorem dL_law_402 : decode cL_law 402 = .ok (.iconst 1, 1) := by decide +kernel
theorem dL_law_403 : decode cL_law 403 = .ok (.iadd, 1) := by decide +kernel
theorem dL_law_404 : decode cL_law 404 = .ok (.iaload, 1) := by decide +kernel
theorem dL_law_405 : decode cL_law 405 = .ok (.invokevirtual 49, 3) := by decide +kernel
theorem dL_law_408 : decode cL_law 408 = .ok (.pop, 1) := by decide +kernel
theorem dL_law_409 : decode cL_law 409 = .ok (.goto 744, 3) := by decide +kernel
set_option maxHeartbeats 8000000 in
set_option maxRecDepth 100000 in
theorem lc_type {p : Program} {l : Launch} {e : Env} {s : State} {m : MethodId} {below : List Frame} {meth : Method} {c : Code} {b L : Nat} {xs : Nat → Int32} (hL : L ≤ 3072) (C0 : lw_At p s m meth c b L xs) (hN : tz_N s) (A : Nat → Prop) (hA : ∀ q : Nat, s.heap.size ≤ q → A q) (hA2 : ∀ q : Nat, A q → s.heap.size ≤ q) (hbA : ¬ A b) (hV : tz_V A s s.heap) (dC : Nat → ClassId) (dI : Nat → Nat → Nat) (o : Nat) (aw : Nat) (ai : Nat) (ak : Nat) (sc : Nat) (rd : Nat) (fo : Nat) (tx : Nat) (ar : Nat) (at_ : Nat) (ao : Nat) (w0 : Nat) (w1 : Nat) (w2 : Nat) (w3 : Nat) (w4 : Nat) (w5 : Nat) (sw : Nat) (sh : Nat) (mo : Nat) (nw : Nat) (kp : Nat) (ik : Nat) (mr : Nat) (mw : Nat) (mq : Nat) (mz : Nat) (my : Nat) (mb : Nat) (mx : Nat) (mv : Nat) (ad : Nat → Nat) (ab : Nat → Nat) (ai0 : Nat → Nat) (ai1 : Nat → Nat) (cw : ClassId) (cai : ClassId) (ck : ClassId) (csw : ClassId) (csh : ClassId) (ctx : ClassId) (cr : ClassId) (ct_ : ClassId) (co_ : ClassId) (cn_ : ClassId) (ck_ : ClassId) (ci_ : ClassId) (cr_ : ClassId) (cw_ : ClassId) (cs_ : ClassId) (cz_ : ClassId) (cy_ : ClassId) (cb2_ : ClassId) (cx_ : ClassId) (cv_ : ClassId) (cd : Nat → ClassId) (cb : Nat → ClassId) (ci0 : Nat → ClassId) (ci1 : Nat → ClassId) (hK : va_K (dC, dI) vwCl (tz_T cw cai ck csw csh ctx cr ct_ co_ cn_ ck_ ci_ cr_ cw_ cs_ cz_ cy_ cb2_ cx_ cv_ cd cb ci0 ci1) s) (i : Nat) (hi : i + 6 ≤ L) (H : Heap) (locs : List Loc) (hI : tz_I dC dI o aw ai ak sc rd fo tx ar at_ ao w0 w1 w2 w3 w4 w5 sw sh mo nw kp ik mr mw mq mz my mb mx mv ad ab ai0 ai1 cw cai ck csw csh ctx cr ct_ co_ cn_ ck_ ci_ cr_ cw_ cs_ cz_ cy_ cb2_ cx_ cv_ cd cb ci0 ci1 A H) (hS : va_S A s.heap H locs) (ls : Array Slot) (hl : lv_has ls 4 [(3, .int (nI i)), (2, .ref mo), (1, .ref o), (0, .ref b)]) (K : ∀ (H : Heap) (locs : List Loc) (ls : Array Slot), tz_I dC dI o aw ai ak sc rd fo tx ar at_ ao w0 w1 w2 w3 w4 w5 sw sh mo nw kp ik mr mw mq mz my mb mx mv ad ab ai0 ai1 cw cai ck csw csh ctx cr ct_ co_ cn_ ck_ ci_ cr_ cw_ cs_ cz_ cy_ cb2_ cx_ cv_ cd cb ci0 ci1 A H → va_S A s.heap H locs → lv_has ls 4 [(3, .int (nI i)), (2, .ref mo), (1, .ref o), (0, .ref b)] → W p l e room_1 s m #[Value.ref b] below meth c H locs 136 3195 (lw_Z below #[Value.ref b] s) (F0 m 1153 ls [])) : W p l e room_1 s m #[Value.ref b] below meth c H locs 136 3195 (lw_Z below #[Value.ref b] s) (F0 m 389 ls []) := by
  obtain ⟨hx, hb, hr, hml, hown, hts, hX, hbl, hlocks, hgv⟩ := C0
  have hb : c.code = cL_law := hb
  have hown : s.vm.findClass RL = some m.cls := hown
  obtain ⟨ty, fr, fk, fx, ft_, fo_, fw, fh, la, lb, rt, nl_, np_, nk_, ns_, nv_, ni_, nf_, ud, zd, fd, ub, zb, fb, ui0, zi0, fi0, ui1, zi1, fi1, la_, lb_, lc_, ti_, cb_, ld_, le_, sm_, jb, ta_, tl_, tk_, vl_, fn, fk_, fi_, fr_, fw_, fs_, fz_, fb_, fy_, fx_, fv_, hB_d, hB_b, hB_i0, hB_i1, hO_n, hO_k, hO_x, hO_b, hP, hD⟩ := hI
  have hu_zd := hB_d.2
  have hu_zb := hB_b.2
  have hu_zi0 := hB_i0.2
  have hu_zi1 := hB_i1.2
  refine lv_aload_n hx hb dL_law_389 rfl (lv_at hl 2 rfl) ?_
  refine lv_aload_n hx hb dL_law_390 rfl (lv_at hl 3 rfl) ?_
  refine lv_iload_n hx hb dL_law_391 rfl (lv_at hl 0 rfl) ?_
  refine lv_iconst (v := 1) hx hb dL_law_392 (by decide) ?_
  refine lv_iadd hx hb dL_law_393 ?_
  refine tz_i (nI (i + 1)) (nI_add i 1) ?_
  refine va_sld hx hb hX hbl hbA hS (vp_in_nI (n := (i + 1)) (N := L) (by omega) (by omega)) dL_law_394 ?_
  refine tz_i (xs (i + 1)) (congrArg xs (nI_clamp (by omega))) ?_
  have hPc := hP.sub (ws' := [(o, .inr (11, [.ref aw, .ref (ab 0), .ref ai, .ref ak, .ref sc, .ref rd, .ref fo, .ref tx, .int ty, .ref ar, .ref at_, .ref ao])), (ar, .inl (cr, 3, .inl fr)), (tx, .inl (ctx, 150, .inl fx))]) [0, 1, 3] rfl
  have hDc := hD.sub (ws' := [(o, .inr (11, [.ref aw, .ref (ab 0), .ref ai, .ref ak, .ref sc, .ref rd, .ref fo, .ref tx, .int ty, .ref ar, .ref at_, .ref ao])), (ar, .inl (cr, 3, .inl fr)), (tx, .inl (ctx, 150, .inl fx))]) [0, 1, 3] (by decide) rfl
  have hKc := hK.sub (tys' := [(cr, .int), (ctx, .byte)]) [0, 2] rfl
  have hFc := va_free (wc := [(o, .inr (11, [.ref aw, .ref (ab 0), .ref ai, .ref ak, .ref sc, .ref rd, .ref fo, .ref tx, .int ty, .ref ar, .ref at_, .ref ao])), (ar, .inl (cr, 3, .inl fr)), (tx, .inl (ctx, 150, .inl fx))]) hD hS hA [0, 1, 3] rfl
  refine va_calli (va_runV (As := [.int (xs (i + 1))]) (rest := []) ⟨hx, hb, hml, hown, hts⟩ (x_type l dC dI o aw ab ai ak sc rd fo tx ty ar at_ ao cr fr ctx fx (xs (i + 1)) H.size) (cwV 1 hts gL_law_X11_type rfl rfl rfl (by decide +kernel) ⟨Nat.le_of_ble_eq_true rfl, Nat.le_of_ble_eq_true rfl⟩) ⟨fun a U g mk q => by obtain ⟨q0, q1, qP, qK, qD⟩ := q; exact ⟨q0, q1, qP, va_K.moved (u := U) (U := U.calling g mk a) (Vm.Alike.refl U.vm) qK, qD⟩, va_recv hK hP (ci := 11) (q0 := 0) rfl rfl, fun U hU hW => ⟨rfl, by rw [hU], by rw [hU]; exact hPc, va_K.moved hW.alike hKc, hDc.weaken (fun _ _ _ _ => trivial)⟩⟩ rfl rfl hl.1 rfl (lv_room (Nat.le_of_ble_eq_true rfl)) dL_law_395 ⟨Nat.le_of_ble_eq_true rfl, Nat.le_of_ble_eq_true rfl⟩) hS (fun q _ h => hFc q h) hFc (fun r_1 u_ t H1 locs ht hvm hw_2 hB hz1 hk1 hS => ?_)
  obtain ⟨tg_3, gr_4, gx_5, hP1, hK1, hD1⟩ := hB
  rw [ht] at hP1
  have hK1 := va_K.moved hvm.symm hK1
  obtain ⟨hP, hD⟩ := tz_put (ws' := (tz_XW o aw ai ak sc rd fo tx ar at_ ao w0 w1 w2 w3 w4 w5 sw sh mo nw kp ik mr mw mq mz my mb mx mv ad ab ai0 ai1 cw cai ck csw csh ctx cr ct_ co_ cn_ ck_ ci_ cr_ cw_ cs_ cz_ cy_ cb2_ cx_ cv_ cd cb ci0 ci1 tg_3 gr_4 fk gx_5 ft_ fo_ fw fh la lb rt nl_ np_ nk_ ns_ nv_ ni_ nf_ ud zd fd ub zb fb ui0 zi0 fi0 ui1 zi1 fi1 la_ lb_ lc_ ti_ cb_ ld_ le_ sm_ jb ta_ tl_ tk_ vl_ fn fk_ fi_ fr_ fw_ fs_ fz_ fb_ fy_ fx_ fv_)) hP hD [0, 1, 3] rfl hk1 hP1 rfl rfl rfl
  generalize H1 = H at hP hS ⊢
  refine lv_pop hx hb dL_law_398 rfl ?_
  refine lv_aload_n hx hb dL_law_399 rfl (lv_at hl 1 rfl) ?_
  refine lv_aload_n hx hb dL_law_400 rfl (lv_at hl 3 rfl) ?_
  refine lv_iload_n hx hb dL_law_401 rfl (lv_at hl 0 rfl) ?_
  refine lv_iconst (v := 1) hx hb dL_law_402 (by decide) ?_
  refine lv_iadd hx hb dL_law_403 ?_
  refine tz_i (nI (i + 1)) (nI_add i 1) ?_
  refine va_sld hx hb hX hbl hbA hS (vp_in_nI (n := (i + 1)) (N := L) (by omega) (by omega)) dL_law_404 ?_
  refine tz_i (xs (i + 1)) (congrArg xs (nI_clamp (by omega))) ?_
  have hPc := hP.sub (ws' := [(mo, .inr (12, [.ref nw, .ref kp, .ref ik, .ref mr, .long la_, .long lb_, .ref mw, .long lc_, .int ti_, .int cb_, .long ld_, .long le_, .ref mq, .ref mz, .ref my, .int sm_, .ref mb, .int (nI jb), .int ta_, .int tl_, .int tk_, .int vl_, .ref mx, .ref mv])), (mr, .inl (cr_, 3, .inl fr_)), (mb, .inl (cb2_, 150, .inl fy_))]) [123, 127, 132] rfl
  have hDc := hD.sub (ws' := [(mo, .inr (12, [.ref nw, .ref kp, .ref ik, .ref mr, .long la_, .long lb_, .ref mw, .long lc_, .int ti_, .int cb_, .long ld_, .long le_, .ref mq, .ref mz, .ref my, .int sm_, .ref mb, .int (nI jb), .int ta_, .int tl_, .int tk_, .int vl_, .ref mx, .ref mv])), (mr, .inl (cr_, 3, .inl fr_)), (mb, .inl (cb2_, 150, .inl fy_))]) [123, 127, 132] (by decide) rfl
  have hKc := hK.sub (tys' := [(cr_, .int), (cb2_, .int)]) [64, 69] rfl
  have hFc := va_free (wc := [(mo, .inr (12, [.ref nw, .ref kp, .ref ik, .ref mr, .long la_, .long lb_, .ref mw, .long lc_, .int ti_, .int cb_, .long ld_, .long le_, .ref mq, .ref mz, .ref my, .int sm_, .ref mb, .int (nI jb), .int ta_, .int tl_, .int tk_, .int vl_, .ref mx, .ref mv])), (mr, .inl (cr_, 3, .inl fr_)), (mb, .inl (cb2_, 150, .inl fy_))]) hD hS hA [123, 127, 132] rfl
  refine va_calli (va_runV (As := [.int (xs (i + 1))]) (rest := []) ⟨hx, hb, hml, hown, hts⟩ (m_type l dC dI mo nw kp ik mr la_ lb_ mw lc_ ti_ cb_ ld_ le_ mq mz my sm_ mb jb ta_ tl_ tk_ vl_ mx mv cr_ fr_ cb2_ fy_ (xs (i + 1)) H.size hO_b) (cwV 1 hts gL_law_X12_type rfl rfl rfl (by decide +kernel) ⟨Nat.le_of_ble_eq_true rfl, Nat.le_of_ble_eq_true rfl⟩) ⟨fun a U g mk q => by obtain ⟨q0, q1, qP, qK, qD⟩ := q; exact ⟨q0, q1, qP, va_K.moved (u := U) (U := U.calling g mk a) (Vm.Alike.refl U.vm) qK, qD⟩, va_recv hK hP (ci := 12) (q0 := 123) rfl rfl, fun U hU hW => ⟨rfl, by rw [hU], by rw [hU]; exact hPc, va_K.moved hW.alike hKc, hDc.weaken (fun _ _ _ _ => trivial)⟩⟩ rfl rfl hl.1 rfl (lv_room (Nat.le_of_ble_eq_true rfl)) dL_law_405 ⟨Nat.le_of_ble_eq_true rfl, Nat.le_of_ble_eq_true rfl⟩) hS (fun q _ h => hFc q h) hFc (fun r_6 u_ t H1 locs ht hvm hw_7 hB hz1 hk1 hS => ?_)
  obtain ⟨gr__8, gy__9, gb_10, hf_11, hP1, hK1, hD1⟩ := hB
  rw [ht] at hP1
  have hK1 := va_K.moved hvm.symm hK1
  obtain ⟨hP, hD⟩ := tz_put (ws' := (tz_XW o aw ai ak sc rd fo tx ar at_ ao w0 w1 w2 w3 w4 w5 sw sh mo nw kp ik mr mw mq mz my mb mx mv ad ab ai0 ai1 cw cai ck csw csh ctx cr ct_ co_ cn_ ck_ ci_ cr_ cw_ cs_ cz_ cy_ cb2_ cx_ cv_ cd cb ci0 ci1 tg_3 gr_4 fk gx_5 ft_ fo_ fw fh la lb rt nl_ np_ nk_ ns_ nv_ ni_ nf_ ud zd fd ub zb fb ui0 zi0 fi0 ui1 zi1 fi1 la_ lb_ lc_ ti_ cb_ ld_ le_ sm_ gb_10 ta_ tl_ tk_ vl_ fn fk_ fi_ gr__8 fw_ fs_ fz_ fb_ gy__9 fx_ fv_)) hP hD [123, 127, 132] rfl hk1 hP1 rfl rfl rfl
  generalize H1 = H at hP hS ⊢
  refine lv_pop hx hb dL_law_408 rfl ?_
  refine lv_goto (tgt := 1153) hx hb dL_law_409 (by decide) ?_
  exact K H _ ls ⟨tg_3, gr_4, fk, gx_5, ft_, fo_, fw, fh, la, lb, rt, nl_, np_, nk_, ns_, nv_, ni_, nf_, ud, zd, fd, ub, zb, fb, ui0, zi0, fi0, ui1, zi1, fi1, la_, lb_, lc_, ti_, cb_, ld_, le_, sm_, gb_10, ta_, tl_, tk_, vl_, fn, fk_, fi_, gr__8, fw_, fs_, fz_, fb_, gy__9, fx_, fv_, hB_d, hB_b, hB_i0, hB_i1, hO_n, hO_k, hO_x, hf_11, hP, hD⟩ hS hl
set_option maxRecDepth 20000 in
theorem gL_law_X11_clear : GoodIn lw_tbl (wsV RL 50 RX11 yX11_clear wsX11_clear) := tz_good [(15, 9), (15, 10), (15, 11), (0, 2), (15, 12), (2, 4), (46, 0), (46, 1), (46, 2), (46, 3), (46, 4), (46, 5), (46, 6), (46, 7), (46, 8), (46, 9), (46, 10), (46, 11)] (by decide +kernel) (by decide +kernel)
set_option maxRecDepth 20000 in
theorem gL_law_X12_clear : GoodIn lw_tbl (wsV RL 53 RX12 yX12_clear wsX12_clear) := tz_good [(15, 13), (15, 14), (15, 15), (0, 5), (15, 16), (15, 8), (47, 0), (47, 1), (47, 2), (47, 3), (47, 4), (47, 5), (47, 6), (47, 7), (47, 8), (47, 9), (47, 10), (47, 11), (47, 12), (47, 13), (47, 14), (47, 15), (47, 16), (47, 17), (47, 18), (47, 19), (47, 20), (47, 21), (47, 22), (47, 23)] (by decide +kernel) (by decide +kernel)
theorem dL_law_412 : decode cL_law 412 = .ok (.aload_n 1, 1) := by decide +kernel
theorem dL_law_413 : decode cL_law 413 = .ok (.invokevirtual 50, 3) := by decide +kernel
theorem dL_law_416 : decode cL_law 416 = .ok (.pop, 1) := by decide +kernel
theorem dL_law_417 : decode cL_law 417 = .ok (.aload_n 2, 1) := by decide +kernel
theorem dL_law_418 : decode cL_law 418 = .ok (.invokevirtual 53, 3) := by decide +kernel
theorem dL_law_421 : decode cL_law 421 = .ok (.pop, 1) := by decide +kernel
theorem dL_law_422 : decode cL_law 422 = .ok (.goto 731, 3) := by decide +kernel
set_option maxHeartbeats 8000000 in
set_option maxRecDepth 100000 in
theorem lc_clear {p : Program} {l : Launch} {e : Env} {s : State} {m : MethodId} {below : List Frame} {meth : Method} {c : Code} {b L : Nat} {xs : Nat → Int32} (hL : L ≤ 3072) (C0 : lw_At p s m meth c b L xs) (hN : tz_N s) (A : Nat → Prop) (hA : ∀ q : Nat, s.heap.size ≤ q → A q) (hA2 : ∀ q : Nat, A q → s.heap.size ≤ q) (hbA : ¬ A b) (hV : tz_V A s s.heap) (dC : Nat → ClassId) (dI : Nat → Nat → Nat) (o : Nat) (aw : Nat) (ai : Nat) (ak : Nat) (sc : Nat) (rd : Nat) (fo : Nat) (tx : Nat) (ar : Nat) (at_ : Nat) (ao : Nat) (w0 : Nat) (w1 : Nat) (w2 : Nat) (w3 : Nat) (w4 : Nat) (w5 : Nat) (sw : Nat) (sh : Nat) (mo : Nat) (nw : Nat) (kp : Nat) (ik : Nat) (mr : Nat) (mw : Nat) (mq : Nat) (mz : Nat) (my : Nat) (mb : Nat) (mx : Nat) (mv : Nat) (ad : Nat → Nat) (ab : Nat → Nat) (ai0 : Nat → Nat) (ai1 : Nat → Nat) (cw : ClassId) (cai : ClassId) (ck : ClassId) (csw : ClassId) (csh : ClassId) (ctx : ClassId) (cr : ClassId) (ct_ : ClassId) (co_ : ClassId) (cn_ : ClassId) (ck_ : ClassId) (ci_ : ClassId) (cr_ : ClassId) (cw_ : ClassId) (cs_ : ClassId) (cz_ : ClassId) (cy_ : ClassId) (cb2_ : ClassId) (cx_ : ClassId) (cv_ : ClassId) (cd : Nat → ClassId) (cb : Nat → ClassId) (ci0 : Nat → ClassId) (ci1 : Nat → ClassId) (hK : va_K (dC, dI) vwCl (tz_T cw cai ck csw csh ctx cr ct_ co_ cn_ ck_ ci_ cr_ cw_ cs_ cz_ cy_ cb2_ cx_ cv_ cd cb ci0 ci1) s) (i : Nat) (hi : i + 6 ≤ L) (H : Heap) (locs : List Loc) (hI : tz_I dC dI o aw ai ak sc rd fo tx ar at_ ao w0 w1 w2 w3 w4 w5 sw sh mo nw kp ik mr mw mq mz my mb mx mv ad ab ai0 ai1 cw cai ck csw csh ctx cr ct_ co_ cn_ ck_ ci_ cr_ cw_ cs_ cz_ cy_ cb2_ cx_ cv_ cd cb ci0 ci1 A H) (hS : va_S A s.heap H locs) (ls : Array Slot) (hl : lv_has ls 4 [(3, .int (nI i)), (2, .ref mo), (1, .ref o), (0, .ref b)]) (K : ∀ (H : Heap) (locs : List Loc) (ls : Array Slot), tz_I dC dI o aw ai ak sc rd fo tx ar at_ ao w0 w1 w2 w3 w4 w5 sw sh mo nw kp ik mr mw mq mz my mb mx mv ad ab ai0 ai1 cw cai ck csw csh ctx cr ct_ co_ cn_ ck_ ci_ cr_ cw_ cs_ cz_ cy_ cb2_ cx_ cv_ cd cb ci0 ci1 A H → va_S A s.heap H locs → lv_has ls 4 [(3, .int (nI i)), (2, .ref mo), (1, .ref o), (0, .ref b)] → W p l e room_1 s m #[Value.ref b] below meth c H locs 136 3195 (lw_Z below #[Value.ref b] s) (F0 m 1153 ls [])) : W p l e room_1 s m #[Value.ref b] below meth c H locs 136 3195 (lw_Z below #[Value.ref b] s) (F0 m 412 ls []) := by
  obtain ⟨hx, hb, hr, hml, hown, hts, hX, hbl, hlocks, hgv⟩ := C0
  have hb : c.code = cL_law := hb
  have hown : s.vm.findClass RL = some m.cls := hown
  obtain ⟨ty, fr, fk, fx, ft_, fo_, fw, fh, la, lb, rt, nl_, np_, nk_, ns_, nv_, ni_, nf_, ud, zd, fd, ub, zb, fb, ui0, zi0, fi0, ui1, zi1, fi1, la_, lb_, lc_, ti_, cb_, ld_, le_, sm_, jb, ta_, tl_, tk_, vl_, fn, fk_, fi_, fr_, fw_, fs_, fz_, fb_, fy_, fx_, fv_, hB_d, hB_b, hB_i0, hB_i1, hO_n, hO_k, hO_x, hO_b, hP, hD⟩ := hI
  have hu_zd := hB_d.2
  have hu_zb := hB_b.2
  have hu_zi0 := hB_i0.2
  have hu_zi1 := hB_i1.2
  refine lv_aload_n hx hb dL_law_412 rfl (lv_at hl 2 rfl) ?_
  have hPc := hP.sub (ws' := [(o, .inr (11, [.ref aw, .ref (ab 0), .ref ai, .ref ak, .ref sc, .ref rd, .ref fo, .ref tx, .int ty, .ref ar, .ref at_, .ref ao]))]) [0] rfl
  have hDc := hD.sub (ws' := [(o, .inr (11, [.ref aw, .ref (ab 0), .ref ai, .ref ak, .ref sc, .ref rd, .ref fo, .ref tx, .int ty, .ref ar, .ref at_, .ref ao]))]) [0] (by decide) rfl
  have hKc := hK.sub (tys' := []) [] rfl
  have hFc := va_free (wc := [(o, .inr (11, [.ref aw, .ref (ab 0), .ref ai, .ref ak, .ref sc, .ref rd, .ref fo, .ref tx, .int ty, .ref ar, .ref at_, .ref ao]))]) hD hS hA [0] rfl
  refine va_calli (va_runV (As := []) (rest := []) ⟨hx, hb, hml, hown, hts⟩ (x_clear l dC dI o aw ab ai ak sc rd fo tx ty ar at_ ao H.size) (cwV 0 hts gL_law_X11_clear rfl rfl rfl (by decide +kernel) ⟨Nat.le_of_ble_eq_true rfl, Nat.le_of_ble_eq_true rfl⟩) ⟨fun a U g mk q => by obtain ⟨q0, q1, qP, qK, qD⟩ := q; exact ⟨q0, q1, qP, va_K.moved (u := U) (U := U.calling g mk a) (Vm.Alike.refl U.vm) qK, qD⟩, va_recv hK hP (ci := 11) (q0 := 0) rfl rfl, fun U hU hW => ⟨rfl, by rw [hU], by rw [hU]; exact hPc, va_K.moved hW.alike hKc, hDc.weaken (fun _ _ _ _ => trivial)⟩⟩ rfl rfl hl.1 rfl (lv_room (Nat.le_of_ble_eq_true rfl)) dL_law_413 ⟨Nat.le_of_ble_eq_true rfl, Nat.le_of_ble_eq_true rfl⟩) hS (fun q _ h => hFc q h) hFc (fun r_1 u_ t H1 locs ht hvm hw_2 hB hz1 hk1 hS => ?_)
  obtain ⟨tg_3, hP1, hK1, hD1⟩ := hB
  rw [ht] at hP1
  have hK1 := va_K.moved hvm.symm hK1
  obtain ⟨hP, hD⟩ := tz_put (ws' := (tz_XW o aw ai ak sc rd fo tx ar at_ ao w0 w1 w2 w3 w4 w5 sw sh mo nw kp ik mr mw mq mz my mb mx mv ad ab ai0 ai1 cw cai ck csw csh ctx cr ct_ co_ cn_ ck_ ci_ cr_ cw_ cs_ cz_ cy_ cb2_ cx_ cv_ cd cb ci0 ci1 tg_3 fr fk fx ft_ fo_ fw fh la lb rt nl_ np_ nk_ ns_ nv_ ni_ nf_ ud zd fd ub zb fb ui0 zi0 fi0 ui1 zi1 fi1 la_ lb_ lc_ ti_ cb_ ld_ le_ sm_ jb ta_ tl_ tk_ vl_ fn fk_ fi_ fr_ fw_ fs_ fz_ fb_ fy_ fx_ fv_)) hP hD [0] rfl hk1 hP1 rfl rfl rfl
  generalize H1 = H at hP hS ⊢
  refine lv_pop hx hb dL_law_416 rfl ?_
  refine lv_aload_n hx hb dL_law_417 rfl (lv_at hl 1 rfl) ?_
  have hPc := hP.sub (ws' := [(mo, .inr (12, [.ref nw, .ref kp, .ref ik, .ref mr, .long la_, .long lb_, .ref mw, .long lc_, .int ti_, .int cb_, .long ld_, .long le_, .ref mq, .ref mz, .ref my, .int sm_, .ref mb, .int (nI jb), .int ta_, .int tl_, .int tk_, .int vl_, .ref mx, .ref mv]))]) [123] rfl
  have hDc := hD.sub (ws' := [(mo, .inr (12, [.ref nw, .ref kp, .ref ik, .ref mr, .long la_, .long lb_, .ref mw, .long lc_, .int ti_, .int cb_, .long ld_, .long le_, .ref mq, .ref mz, .ref my, .int sm_, .ref mb, .int (nI jb), .int ta_, .int tl_, .int tk_, .int vl_, .ref mx, .ref mv]))]) [123] (by decide) rfl
  have hKc := hK.sub (tys' := []) [] rfl
  have hFc := va_free (wc := [(mo, .inr (12, [.ref nw, .ref kp, .ref ik, .ref mr, .long la_, .long lb_, .ref mw, .long lc_, .int ti_, .int cb_, .long ld_, .long le_, .ref mq, .ref mz, .ref my, .int sm_, .ref mb, .int (nI jb), .int ta_, .int tl_, .int tk_, .int vl_, .ref mx, .ref mv]))]) hD hS hA [123] rfl
  refine va_calli (va_runV (As := []) (rest := []) ⟨hx, hb, hml, hown, hts⟩ (m_clear l dC dI mo nw kp ik mr la_ lb_ mw lc_ ti_ cb_ ld_ le_ mq mz my sm_ mb jb ta_ tl_ tk_ vl_ mx mv H.size hO_b) (cwV 0 hts gL_law_X12_clear rfl rfl rfl (by decide +kernel) ⟨Nat.le_of_ble_eq_true rfl, Nat.le_of_ble_eq_true rfl⟩) ⟨fun a U g mk q => by obtain ⟨q0, q1, qP, qK, qD⟩ := q; exact ⟨q0, q1, qP, va_K.moved (u := U) (U := U.calling g mk a) (Vm.Alike.refl U.vm) qK, qD⟩, va_recv hK hP (ci := 12) (q0 := 123) rfl rfl, fun U hU hW => ⟨rfl, by rw [hU], by rw [hU]; exact hPc, va_K.moved hW.alike hKc, hDc.weaken (fun _ _ _ _ => trivial)⟩⟩ rfl rfl hl.1 rfl (lv_room (Nat.le_of_ble_eq_true rfl)) dL_law_418 ⟨Nat.le_of_ble_eq_true rfl, Nat.le_of_ble_eq_true rfl⟩) hS (fun q _ h => hFc q h) hFc (fun r_4 u_ t H1 locs ht hvm hw_5 hB hz1 hk1 hS => ?_)
  obtain ⟨gb_6, hf_7, hP1, hK1, hD1⟩ := hB
  rw [ht] at hP1
  have hK1 := va_K.moved hvm.symm hK1
  obtain ⟨hP, hD⟩ := tz_put (ws' := (tz_XW o aw ai ak sc rd fo tx ar at_ ao w0 w1 w2 w3 w4 w5 sw sh mo nw kp ik mr mw mq mz my mb mx mv ad ab ai0 ai1 cw cai ck csw csh ctx cr ct_ co_ cn_ ck_ ci_ cr_ cw_ cs_ cz_ cy_ cb2_ cx_ cv_ cd cb ci0 ci1 tg_3 fr fk fx ft_ fo_ fw fh la lb rt nl_ np_ nk_ ns_ nv_ ni_ nf_ ud zd fd ub zb fb ui0 zi0 fi0 ui1 zi1 fi1 la_ lb_ lc_ ti_ cb_ ld_ le_ sm_ gb_6 ta_ tl_ tk_ vl_ fn fk_ fi_ fr_ fw_ fs_ fz_ fb_ fy_ fx_ fv_)) hP hD [123] rfl hk1 hP1 rfl rfl rfl
  generalize H1 = H at hP hS ⊢
  refine lv_pop hx hb dL_law_421 rfl ?_
  refine lv_goto (tgt := 1153) hx hb dL_law_422 (by decide) ?_
  exact K H _ ls ⟨tg_3, fr, fk, fx, ft_, fo_, fw, fh, la, lb, rt, nl_, np_, nk_, ns_, nv_, ni_, nf_, ud, zd, fd, ub, zb, fb, ui0, zi0, fi0, ui1, zi1, fi1, la_, lb_, lc_, ti_, cb_, ld_, le_, sm_, gb_6, ta_, tl_, tk_, vl_, fn, fk_, fi_, fr_, fw_, fs_, fz_, fb_, fy_, fx_, fv_, hB_d, hB_b, hB_i0, hB_i1, hO_n, hO_k, hO_x, hf_7, hP, hD⟩ hS hl
