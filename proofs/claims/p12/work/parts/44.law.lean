set_option maxRecDepth 20000 in
theorem gL_law_X11_read : GoodIn lw_tbl (wsV RL 54 RX11 yX11_read wsX11_read) := tz_good [(15, 17), (15, 18), (15, 19), (0, 2), (15, 20), (1, 21), (2, 3), (2, 4), (1, 10), (15, 21), (15, 22), (15, 23), (16, 0), (1, 20), (16, 1), (4, 10), (16, 2), (12, 9), (3, 18), (12, 10), (16, 3), (3, 17), (3, 19), (4, 11), (4, 12), (4, 16), (4, 17), (4, 9), (4, 13), (16, 4), (6, 2), (6, 3), (1, 9), (6, 4), (3, 5), (3, 6), (3, 7), (3, 8), (3, 10), (6, 5), (6, 6), (6, 7), (3, 4), (6, 8), (3, 15), (16, 5), (16, 6), (16, 7), (16, 8), (4, 14), (16, 9), (16, 10), (16, 11), (16, 12), (16, 13), (16, 14), (16, 15), (16, 16), (16, 17), (16, 18), (16, 19), (16, 20), (16, 21), (16, 22), (16, 23), (17, 0), (17, 1), (17, 2), (4, 15), (17, 3), (17, 4), (17, 5), (17, 6), (17, 7), (17, 8), (17, 9), (17, 10), (17, 11), (17, 12), (17, 13), (17, 14), (17, 15), (17, 16), (17, 17), (17, 18), (17, 19), (17, 20), (17, 21), (17, 22), (17, 23), (18, 0), (18, 1), (18, 2), (18, 3), (18, 4), (18, 5), (18, 6), (18, 7), (18, 8), (18, 9), (18, 10), (18, 11), (18, 12), (18, 13), (18, 14), (18, 15), (18, 16), (18, 17), (18, 18), (18, 19), (18, 20), (18, 21), (18, 22), (18, 23), (19, 0), (19, 1), (19, 2), (19, 3), (19, 4), (19, 5), (19, 6), (19, 7), (19, 8), (19, 9), (19, 10), (19, 11), (19, 12), (19, 13), (19, 14), (19, 15), (19, 16), (19, 17), (19, 18), (19, 19), (7, 16), (7, 17), (7, 18), (3, 20), (19, 20), (19, 21), (19, 22), (19, 23), (20, 0), (20, 1), (20, 2), (20, 3), (20, 4), (7, 20), (7, 21), (7, 22), (7, 23), (8, 0), (8, 1), (8, 2), (8, 3), (8, 4), (8, 5), (8, 6), (8, 7), (3, 22), (3, 21), (8, 8), (8, 9), (8, 10), (8, 11), (20, 5), (20, 6), (20, 7), (20, 8), (20, 9), (9, 12), (9, 13), (9, 14), (20, 10), (20, 11), (20, 12), (20, 13), (20, 14), (5, 22), (5, 23), (6, 0), (20, 15), (10, 13), (10, 14), (10, 15), (20, 16), (20, 17), (20, 18), (20, 19), (20, 20), (12, 16), (12, 17), (12, 18), (20, 21), (20, 22), (20, 23), (21, 0), (21, 1), (21, 2), (21, 3), (21, 4), (3, 9), (21, 5), (12, 4), (12, 5), (12, 6), (12, 7), (12, 8), (12, 11), (12, 12), (12, 13), (12, 14), (21, 6), (21, 7), (21, 8), (21, 9), (46, 0), (46, 1), (46, 2), (46, 3), (46, 4), (46, 5), (46, 6), (46, 7), (46, 8), (46, 9), (46, 10), (46, 11), (56, 0), (56, 1), (56, 2), (56, 3), (56, 4), (56, 5), (56, 6), (56, 7), (56, 8), (54, 0), (54, 1), (54, 2), (54, 3), (54, 4), (54, 5), (58, 0), (58, 1), (58, 2), (58, 3)] (by decide +kernel) (by decide +kernel)
set_option maxRecDepth 20000 in
theorem gL_law_X12_read : GoodIn lw_tbl (wsV RL 57 RX12 yX12_read wsX12_read) := tz_good [(21, 10), (21, 11), (21, 12), (0, 5), (21, 13), (21, 14), (21, 15), (5, 4), (5, 14), (21, 16), (21, 17), (21, 18), (0, 5), (21, 19), (15, 8), (5, 13), (21, 20), (21, 21), (21, 22), (21, 23), (22, 0), (22, 1), (22, 2), (8, 17), (8, 18), (8, 19), (22, 3), (22, 4), (22, 5), (22, 6), (22, 7), (22, 8), (22, 9), (22, 10), (22, 11), (22, 12), (22, 13), (22, 14), (22, 15), (22, 16), (22, 17), (22, 18), (22, 19), (6, 20), (6, 21), (6, 22), (22, 20), (22, 21), (22, 22), (22, 23), (23, 0), (23, 1), (23, 2), (23, 3), (5, 15), (23, 4), (23, 5), (23, 6), (23, 7), (9, 4), (9, 5), (9, 6), (23, 8), (23, 9), (23, 10), (23, 11), (9, 21), (9, 22), (9, 23), (23, 12), (23, 13), (23, 14), (23, 15), (11, 8), (11, 9), (11, 10), (23, 16), (23, 17), (23, 18), (23, 19), (13, 9), (13, 10), (13, 11), (47, 0), (47, 1), (47, 2), (47, 3), (47, 4), (47, 5), (47, 6), (47, 7), (47, 8), (47, 9), (47, 10), (47, 11), (47, 12), (47, 13), (47, 14), (47, 15), (47, 16), (47, 17), (47, 18), (47, 19), (47, 20), (47, 21), (47, 22), (47, 23)] (by decide +kernel) (by decide +kernel)
theorem dL_law_425 : decode cL_law 425 = .ok (.aload_n 1, 1) := by decide +kernel
theorem dL_law_426 : decode cL_law 426 = .ok (.invokevirtual 54, 3) := by decide +kernel
theorem dL_law_429 : decode cL_law 429 = .ok (.pop, 1) := by decide +kernel
theorem dL_law_430 : decode cL_law 430 = .ok (.aload_n 2, 1) := by decide +kernel
theorem dL_law_431 : decode cL_law 431 = .ok (.invokevirtual 57, 3) := by decide +kernel
theorem dL_law_434 : decode cL_law 434 = .ok (.pop, 1) := by decide +kernel
theorem dL_law_435 : decode cL_law 435 = .ok (.goto 718, 3) := by decide +kernel
set_option maxHeartbeats 8000000 in
set_option maxRecDepth 100000 in
theorem lc_read {p : Program} {l : Launch} {e : Env} {s : State} {m : MethodId} {below : List Frame} {meth : Method} {c : Code} {b L : Nat} {xs : Nat → Int32} (hL : L ≤ 3072) (C0 : lw_At p s m meth c b L xs) (hN : tz_N s) (A : Nat → Prop) (hA : ∀ q : Nat, s.heap.size ≤ q → A q) (hA2 : ∀ q : Nat, A q → s.heap.size ≤ q) (hbA : ¬ A b) (hV : tz_V A s s.heap) (dC : Nat → ClassId) (dI : Nat → Nat → Nat) (o : Nat) (aw : Nat) (ai : Nat) (ak : Nat) (sc : Nat) (rd : Nat) (fo : Nat) (tx : Nat) (ar : Nat) (at_ : Nat) (ao : Nat) (w0 : Nat) (w1 : Nat) (w2 : Nat) (w3 : Nat) (w4 : Nat) (w5 : Nat) (sw : Nat) (sh : Nat) (mo : Nat) (nw : Nat) (kp : Nat) (ik : Nat) (mr : Nat) (mw : Nat) (mq : Nat) (mz : Nat) (my : Nat) (mb : Nat) (mx : Nat) (mv : Nat) (ad : Nat → Nat) (ab : Nat → Nat) (ai0 : Nat → Nat) (ai1 : Nat → Nat) (cw : ClassId) (cai : ClassId) (ck : ClassId) (csw : ClassId) (csh : ClassId) (ctx : ClassId) (cr : ClassId) (ct_ : ClassId) (co_ : ClassId) (cn_ : ClassId) (ck_ : ClassId) (ci_ : ClassId) (cr_ : ClassId) (cw_ : ClassId) (cs_ : ClassId) (cz_ : ClassId) (cy_ : ClassId) (cb2_ : ClassId) (cx_ : ClassId) (cv_ : ClassId) (cd : Nat → ClassId) (cb : Nat → ClassId) (ci0 : Nat → ClassId) (ci1 : Nat → ClassId) (hK : va_K (dC, dI) vwCl (tz_T cw cai ck csw csh ctx cr ct_ co_ cn_ ck_ ci_ cr_ cw_ cs_ cz_ cy_ cb2_ cx_ cv_ cd cb ci0 ci1) s) (i : Nat) (hi : i + 6 ≤ L) (H : Heap) (locs : List Loc) (hI : tz_I dC dI o aw ai ak sc rd fo tx ar at_ ao w0 w1 w2 w3 w4 w5 sw sh mo nw kp ik mr mw mq mz my mb mx mv ad ab ai0 ai1 cw cai ck csw csh ctx cr ct_ co_ cn_ ck_ ci_ cr_ cw_ cs_ cz_ cy_ cb2_ cx_ cv_ cd cb ci0 ci1 A H) (hS : va_S A s.heap H locs) (ls : Array Slot) (hl : lv_has ls 4 [(3, .int (nI i)), (2, .ref mo), (1, .ref o), (0, .ref b)]) (K : ∀ (H : Heap) (locs : List Loc) (ls : Array Slot), tz_I dC dI o aw ai ak sc rd fo tx ar at_ ao w0 w1 w2 w3 w4 w5 sw sh mo nw kp ik mr mw mq mz my mb mx mv ad ab ai0 ai1 cw cai ck csw csh ctx cr ct_ co_ cn_ ck_ ci_ cr_ cw_ cs_ cz_ cy_ cb2_ cx_ cv_ cd cb ci0 ci1 A H → va_S A s.heap H locs → lv_has ls 4 [(3, .int (nI i)), (2, .ref mo), (1, .ref o), (0, .ref b)] → W p l e room_1 s m #[Value.ref b] below meth c H locs 136 3195 (lw_Z below #[Value.ref b] s) (F0 m 1153 ls [])) : W p l e room_1 s m #[Value.ref b] below meth c H locs 136 3195 (lw_Z below #[Value.ref b] s) (F0 m 425 ls []) := by
  obtain ⟨hx, hb, hr, hml, hown, hts, hX, hbl, hlocks, hgv⟩ := C0
  have hb : c.code = cL_law := hb
  have hown : s.vm.findClass RL = some m.cls := hown
  obtain ⟨ty, fr, fk, fx, ft_, fo_, fw, fh, la, lb, rt, nl_, np_, nk_, ns_, nv_, ni_, nf_, ud, zd, fd, ub, zb, fb, ui0, zi0, fi0, ui1, zi1, fi1, la_, lb_, lc_, ti_, cb_, ld_, le_, sm_, jb, ta_, tl_, tk_, vl_, fn, fk_, fi_, fr_, fw_, fs_, fz_, fb_, fy_, fx_, fv_, hB_d, hB_b, hB_i0, hB_i1, hO_n, hO_k, hO_x, hO_b, hP, hD⟩ := hI
  have hu_zd := hB_d.2
  have hu_zb := hB_b.2
  have hu_zi0 := hB_i0.2
  have hu_zi1 := hB_i1.2
  refine lv_aload_n hx hb dL_law_425 rfl (lv_at hl 2 rfl) ?_
  have hPc := hP.sub (ws' := [(o, .inr (11, [.ref aw, .ref (ab 0), .ref ai, .ref ak, .ref sc, .ref rd, .ref fo, .ref tx, .int ty, .ref ar, .ref at_, .ref ao])), (rd, .inr (5, [.ref (ad 0), rt, .int nl_, .int np_, .int nk_, .int ns_, .int nv_, .int ni_, .int nf_])), (tx, .inl (ctx, 150, .inl fx)), ((ad 0), .inr (0, [.ref (ad 1), .ref (ad 3), .ref (ad 5), .ref (ad 7), .ref (ad 9), .int (nI ud)])), ((ad 1), .inr (6, [.int 1, .int 5, .ref (ad 2), .int (nI (zd 0))])), ((ad 2), .inl ((cd 0), 5, .inl (fd 0))), ((ad 3), .inr (6, [.int 4, .int 5, .ref (ad 4), .int (nI (zd 1))])), ((ad 4), .inl ((cd 1), 20, .inl (fd 1))), ((ad 5), .inr (6, [.int 4, .int 8, .ref (ad 6), .int (nI (zd 2))])), ((ad 6), .inl ((cd 2), 32, .inl (fd 2))), ((ad 7), .inr (6, [.int 4, .int 6, .ref (ad 8), .int (nI (zd 3))])), ((ad 8), .inl ((cd 3), 24, .inl (fd 3))), ((ad 9), .inl ((cd 12), 8, .inr (.inr (.inr (.inr (tz_ear ad)))))), ((ad 10), .inr (6, [.int 4, .int 8, .ref (ad 11), .int (nI (zd 4))])), ((ad 11), .inl ((cd 4), 32, .inl (fd 4))), ((ad 12), .inr (6, [.int 4, .int 8, .ref (ad 13), .int (nI (zd 5))])), ((ad 13), .inl ((cd 5), 32, .inl (fd 5))), ((ad 14), .inr (6, [.int 4, .int 8, .ref (ad 15), .int (nI (zd 6))])), ((ad 15), .inl ((cd 6), 32, .inl (fd 6))), ((ad 16), .inr (6, [.int 4, .int 8, .ref (ad 17), .int (nI (zd 7))])), ((ad 17), .inl ((cd 7), 32, .inl (fd 7))), ((ad 18), .inr (6, [.int 4, .int 8, .ref (ad 19), .int (nI (zd 8))])), ((ad 19), .inl ((cd 8), 32, .inl (fd 8))), ((ad 20), .inr (6, [.int 4, .int 8, .ref (ad 21), .int (nI (zd 9))])), ((ad 21), .inl ((cd 9), 32, .inl (fd 9))), ((ad 22), .inr (6, [.int 4, .int 8, .ref (ad 23), .int (nI (zd 10))])), ((ad 23), .inl ((cd 10), 32, .inl (fd 10))), ((ad 24), .inr (6, [.int 4, .int 8, .ref (ad 25), .int (nI (zd 11))])), ((ad 25), .inl ((cd 11), 32, .inl (fd 11))), ((ab 0), .inr (0, [.ref (ab 1), .ref (ab 3), .ref (ab 5), .ref (ab 7), .ref (ab 9), .int (nI ub)])), ((ab 1), .inr (6, [.int 1, .int 5, .ref (ab 2), .int (nI (zb 0))])), ((ab 2), .inl ((cb 0), 5, .inl (fb 0))), ((ab 3), .inr (6, [.int 4, .int 5, .ref (ab 4), .int (nI (zb 1))])), ((ab 4), .inl ((cb 1), 20, .inl (fb 1))), ((ab 5), .inr (6, [.int 4, .int 8, .ref (ab 6), .int (nI (zb 2))])), ((ab 6), .inl ((cb 2), 32, .inl (fb 2))), ((ab 7), .inr (6, [.int 4, .int 6, .ref (ab 8), .int (nI (zb 3))])), ((ab 8), .inl ((cb 3), 24, .inl (fb 3))), ((ab 9), .inl ((cb 12), 8, .inr (.inr (.inr (.inr (tz_ear ab)))))), ((ab 10), .inr (6, [.int 4, .int 8, .ref (ab 11), .int (nI (zb 4))])), ((ab 11), .inl ((cb 4), 32, .inl (fb 4))), ((ab 12), .inr (6, [.int 4, .int 8, .ref (ab 13), .int (nI (zb 5))])), ((ab 13), .inl ((cb 5), 32, .inl (fb 5))), ((ab 14), .inr (6, [.int 4, .int 8, .ref (ab 15), .int (nI (zb 6))])), ((ab 15), .inl ((cb 6), 32, .inl (fb 6))), ((ab 16), .inr (6, [.int 4, .int 8, .ref (ab 17), .int (nI (zb 7))])), ((ab 17), .inl ((cb 7), 32, .inl (fb 7))), ((ab 18), .inr (6, [.int 4, .int 8, .ref (ab 19), .int (nI (zb 8))])), ((ab 19), .inl ((cb 8), 32, .inl (fb 8))), ((ab 20), .inr (6, [.int 4, .int 8, .ref (ab 21), .int (nI (zb 9))])), ((ab 21), .inl ((cb 9), 32, .inl (fb 9))), ((ab 22), .inr (6, [.int 4, .int 8, .ref (ab 23), .int (nI (zb 10))])), ((ab 23), .inl ((cb 10), 32, .inl (fb 10))), ((ab 24), .inr (6, [.int 4, .int 8, .ref (ab 25), .int (nI (zb 11))])), ((ab 25), .inl ((cb 11), 32, .inl (fb 11)))]) [0, 18, 3, 19, 20, 21, 22, 23, 24, 25, 26, 27, 28, 29, 30, 31, 32, 33, 34, 35, 36, 37, 38, 39, 40, 41, 42, 43, 44, 45, 46, 47, 48, 49, 50, 51, 52, 53, 54, 55, 56, 57, 58, 59, 60, 61, 62, 63, 64, 65, 66, 67, 68, 69, 70] rfl
  have hDc := hD.sub (ws' := [(o, .inr (11, [.ref aw, .ref (ab 0), .ref ai, .ref ak, .ref sc, .ref rd, .ref fo, .ref tx, .int ty, .ref ar, .ref at_, .ref ao])), (rd, .inr (5, [.ref (ad 0), rt, .int nl_, .int np_, .int nk_, .int ns_, .int nv_, .int ni_, .int nf_])), (tx, .inl (ctx, 150, .inl fx)), ((ad 0), .inr (0, [.ref (ad 1), .ref (ad 3), .ref (ad 5), .ref (ad 7), .ref (ad 9), .int (nI ud)])), ((ad 1), .inr (6, [.int 1, .int 5, .ref (ad 2), .int (nI (zd 0))])), ((ad 2), .inl ((cd 0), 5, .inl (fd 0))), ((ad 3), .inr (6, [.int 4, .int 5, .ref (ad 4), .int (nI (zd 1))])), ((ad 4), .inl ((cd 1), 20, .inl (fd 1))), ((ad 5), .inr (6, [.int 4, .int 8, .ref (ad 6), .int (nI (zd 2))])), ((ad 6), .inl ((cd 2), 32, .inl (fd 2))), ((ad 7), .inr (6, [.int 4, .int 6, .ref (ad 8), .int (nI (zd 3))])), ((ad 8), .inl ((cd 3), 24, .inl (fd 3))), ((ad 9), .inl ((cd 12), 8, .inr (.inr (.inr (.inr (tz_ear ad)))))), ((ad 10), .inr (6, [.int 4, .int 8, .ref (ad 11), .int (nI (zd 4))])), ((ad 11), .inl ((cd 4), 32, .inl (fd 4))), ((ad 12), .inr (6, [.int 4, .int 8, .ref (ad 13), .int (nI (zd 5))])), ((ad 13), .inl ((cd 5), 32, .inl (fd 5))), ((ad 14), .inr (6, [.int 4, .int 8, .ref (ad 15), .int (nI (zd 6))])), ((ad 15), .inl ((cd 6), 32, .inl (fd 6))), ((ad 16), .inr (6, [.int 4, .int 8, .ref (ad 17), .int (nI (zd 7))])), ((ad 17), .inl ((cd 7), 32, .inl (fd 7))), ((ad 18), .inr (6, [.int 4, .int 8, .ref (ad 19), .int (nI (zd 8))])), ((ad 19), .inl ((cd 8), 32, .inl (fd 8))), ((ad 20), .inr (6, [.int 4, .int 8, .ref (ad 21), .int (nI (zd 9))])), ((ad 21), .inl ((cd 9), 32, .inl (fd 9))), ((ad 22), .inr (6, [.int 4, .int 8, .ref (ad 23), .int (nI (zd 10))])), ((ad 23), .inl ((cd 10), 32, .inl (fd 10))), ((ad 24), .inr (6, [.int 4, .int 8, .ref (ad 25), .int (nI (zd 11))])), ((ad 25), .inl ((cd 11), 32, .inl (fd 11))), ((ab 0), .inr (0, [.ref (ab 1), .ref (ab 3), .ref (ab 5), .ref (ab 7), .ref (ab 9), .int (nI ub)])), ((ab 1), .inr (6, [.int 1, .int 5, .ref (ab 2), .int (nI (zb 0))])), ((ab 2), .inl ((cb 0), 5, .inl (fb 0))), ((ab 3), .inr (6, [.int 4, .int 5, .ref (ab 4), .int (nI (zb 1))])), ((ab 4), .inl ((cb 1), 20, .inl (fb 1))), ((ab 5), .inr (6, [.int 4, .int 8, .ref (ab 6), .int (nI (zb 2))])), ((ab 6), .inl ((cb 2), 32, .inl (fb 2))), ((ab 7), .inr (6, [.int 4, .int 6, .ref (ab 8), .int (nI (zb 3))])), ((ab 8), .inl ((cb 3), 24, .inl (fb 3))), ((ab 9), .inl ((cb 12), 8, .inr (.inr (.inr (.inr (tz_ear ab)))))), ((ab 10), .inr (6, [.int 4, .int 8, .ref (ab 11), .int (nI (zb 4))])), ((ab 11), .inl ((cb 4), 32, .inl (fb 4))), ((ab 12), .inr (6, [.int 4, .int 8, .ref (ab 13), .int (nI (zb 5))])), ((ab 13), .inl ((cb 5), 32, .inl (fb 5))), ((ab 14), .inr (6, [.int 4, .int 8, .ref (ab 15), .int (nI (zb 6))])), ((ab 15), .inl ((cb 6), 32, .inl (fb 6))), ((ab 16), .inr (6, [.int 4, .int 8, .ref (ab 17), .int (nI (zb 7))])), ((ab 17), .inl ((cb 7), 32, .inl (fb 7))), ((ab 18), .inr (6, [.int 4, .int 8, .ref (ab 19), .int (nI (zb 8))])), ((ab 19), .inl ((cb 8), 32, .inl (fb 8))), ((ab 20), .inr (6, [.int 4, .int 8, .ref (ab 21), .int (nI (zb 9))])), ((ab 21), .inl ((cb 9), 32, .inl (fb 9))), ((ab 22), .inr (6, [.int 4, .int 8, .ref (ab 23), .int (nI (zb 10))])), ((ab 23), .inl ((cb 10), 32, .inl (fb 10))), ((ab 24), .inr (6, [.int 4, .int 8, .ref (ab 25), .int (nI (zb 11))])), ((ab 25), .inl ((cb 11), 32, .inl (fb 11)))]) [0, 18, 3, 19, 20, 21, 22, 23, 24, 25, 26, 27, 28, 29, 30, 31, 32, 33, 34, 35, 36, 37, 38, 39, 40, 41, 42, 43, 44, 45, 46, 47, 48, 49, 50, 51, 52, 53, 54, 55, 56, 57, 58, 59, 60, 61, 62, 63, 64, 65, 66, 67, 68, 69, 70] (by decide) rfl
  have hKc := hK.sub (tys' := [(ctx, .byte), ((cd 0), .int), ((cd 1), .int), ((cd 2), .int), ((cd 3), .int), ((cd 12), (.object "ThriceCounted$Rows")), ((cd 4), .int), ((cd 5), .int), ((cd 6), .int), ((cd 7), .int), ((cd 8), .int), ((cd 9), .int), ((cd 10), .int), ((cd 11), .int), ((cb 0), .int), ((cb 1), .int), ((cb 2), .int), ((cb 3), .int), ((cb 12), (.object "ThriceCounted$Rows")), ((cb 4), .int), ((cb 5), .int), ((cb 6), .int), ((cb 7), .int), ((cb 8), .int), ((cb 9), .int), ((cb 10), .int), ((cb 11), .int)]) [2, 9, 10, 11, 12, 13, 14, 15, 16, 17, 18, 19, 20, 21, 22, 23, 24, 25, 26, 27, 28, 29, 30, 31, 32, 33, 34] rfl
  have hFc := va_free (wc := [(o, .inr (11, [.ref aw, .ref (ab 0), .ref ai, .ref ak, .ref sc, .ref rd, .ref fo, .ref tx, .int ty, .ref ar, .ref at_, .ref ao])), (rd, .inr (5, [.ref (ad 0), rt, .int nl_, .int np_, .int nk_, .int ns_, .int nv_, .int ni_, .int nf_])), (tx, .inl (ctx, 150, .inl fx)), ((ad 0), .inr (0, [.ref (ad 1), .ref (ad 3), .ref (ad 5), .ref (ad 7), .ref (ad 9), .int (nI ud)])), ((ad 1), .inr (6, [.int 1, .int 5, .ref (ad 2), .int (nI (zd 0))])), ((ad 2), .inl ((cd 0), 5, .inl (fd 0))), ((ad 3), .inr (6, [.int 4, .int 5, .ref (ad 4), .int (nI (zd 1))])), ((ad 4), .inl ((cd 1), 20, .inl (fd 1))), ((ad 5), .inr (6, [.int 4, .int 8, .ref (ad 6), .int (nI (zd 2))])), ((ad 6), .inl ((cd 2), 32, .inl (fd 2))), ((ad 7), .inr (6, [.int 4, .int 6, .ref (ad 8), .int (nI (zd 3))])), ((ad 8), .inl ((cd 3), 24, .inl (fd 3))), ((ad 9), .inl ((cd 12), 8, .inr (.inr (.inr (.inr (tz_ear ad)))))), ((ad 10), .inr (6, [.int 4, .int 8, .ref (ad 11), .int (nI (zd 4))])), ((ad 11), .inl ((cd 4), 32, .inl (fd 4))), ((ad 12), .inr (6, [.int 4, .int 8, .ref (ad 13), .int (nI (zd 5))])), ((ad 13), .inl ((cd 5), 32, .inl (fd 5))), ((ad 14), .inr (6, [.int 4, .int 8, .ref (ad 15), .int (nI (zd 6))])), ((ad 15), .inl ((cd 6), 32, .inl (fd 6))), ((ad 16), .inr (6, [.int 4, .int 8, .ref (ad 17), .int (nI (zd 7))])), ((ad 17), .inl ((cd 7), 32, .inl (fd 7))), ((ad 18), .inr (6, [.int 4, .int 8, .ref (ad 19), .int (nI (zd 8))])), ((ad 19), .inl ((cd 8), 32, .inl (fd 8))), ((ad 20), .inr (6, [.int 4, .int 8, .ref (ad 21), .int (nI (zd 9))])), ((ad 21), .inl ((cd 9), 32, .inl (fd 9))), ((ad 22), .inr (6, [.int 4, .int 8, .ref (ad 23), .int (nI (zd 10))])), ((ad 23), .inl ((cd 10), 32, .inl (fd 10))), ((ad 24), .inr (6, [.int 4, .int 8, .ref (ad 25), .int (nI (zd 11))])), ((ad 25), .inl ((cd 11), 32, .inl (fd 11))), ((ab 0), .inr (0, [.ref (ab 1), .ref (ab 3), .ref (ab 5), .ref (ab 7), .ref (ab 9), .int (nI ub)])), ((ab 1), .inr (6, [.int 1, .int 5, .ref (ab 2), .int (nI (zb 0))])), ((ab 2), .inl ((cb 0), 5, .inl (fb 0))), ((ab 3), .inr (6, [.int 4, .int 5, .ref (ab 4), .int (nI (zb 1))])), ((ab 4), .inl ((cb 1), 20, .inl (fb 1))), ((ab 5), .inr (6, [.int 4, .int 8, .ref (ab 6), .int (nI (zb 2))])), ((ab 6), .inl ((cb 2), 32, .inl (fb 2))), ((ab 7), .inr (6, [.int 4, .int 6, .ref (ab 8), .int (nI (zb 3))])), ((ab 8), .inl ((cb 3), 24, .inl (fb 3))), ((ab 9), .inl ((cb 12), 8, .inr (.inr (.inr (.inr (tz_ear ab)))))), ((ab 10), .inr (6, [.int 4, .int 8, .ref (ab 11), .int (nI (zb 4))])), ((ab 11), .inl ((cb 4), 32, .inl (fb 4))), ((ab 12), .inr (6, [.int 4, .int 8, .ref (ab 13), .int (nI (zb 5))])), ((ab 13), .inl ((cb 5), 32, .inl (fb 5))), ((ab 14), .inr (6, [.int 4, .int 8, .ref (ab 15), .int (nI (zb 6))])), ((ab 15), .inl ((cb 6), 32, .inl (fb 6))), ((ab 16), .inr (6, [.int 4, .int 8, .ref (ab 17), .int (nI (zb 7))])), ((ab 17), .inl ((cb 7), 32, .inl (fb 7))), ((ab 18), .inr (6, [.int 4, .int 8, .ref (ab 19), .int (nI (zb 8))])), ((ab 19), .inl ((cb 8), 32, .inl (fb 8))), ((ab 20), .inr (6, [.int 4, .int 8, .ref (ab 21), .int (nI (zb 9))])), ((ab 21), .inl ((cb 9), 32, .inl (fb 9))), ((ab 22), .inr (6, [.int 4, .int 8, .ref (ab 23), .int (nI (zb 10))])), ((ab 23), .inl ((cb 10), 32, .inl (fb 10))), ((ab 24), .inr (6, [.int 4, .int 8, .ref (ab 25), .int (nI (zb 11))])), ((ab 25), .inl ((cb 11), 32, .inl (fb 11)))]) hD hS hA [0, 18, 3, 19, 20, 21, 22, 23, 24, 25, 26, 27, 28, 29, 30, 31, 32, 33, 34, 35, 36, 37, 38, 39, 40, 41, 42, 43, 44, 45, 46, 47, 48, 49, 50, 51, 52, 53, 54, 55, 56, 57, 58, 59, 60, 61, 62, 63, 64, 65, 66, 67, 68, 69, 70] rfl
  refine va_calli (va_runV (As := []) (rest := []) ⟨hx, hb, hml, hown, hts⟩ (x_read l dC dI o aw ab ai ak sc rd fo tx ty ar at_ ao ad rt nl_ np_ nk_ ns_ nv_ ni_ nf_ ctx fx ud zd cd fd ub zb cb fb H.size ⟨hB_d.1, show ud ≤ 8 by omega⟩ ⟨hB_b.1, show ub ≤ 8 by omega⟩) (cwV 0 hts gL_law_X11_read rfl rfl rfl (by decide +kernel) ⟨Nat.le_of_ble_eq_true rfl, Nat.le_of_ble_eq_true rfl⟩) ⟨fun a U g mk q => by obtain ⟨q0, q1, qP, qK, qD, qV⟩ := q; exact ⟨q0, q1, qP, va_K.moved (u := U) (U := U.calling g mk a) (Vm.Alike.refl U.vm) qK, qD, tz_V.same (u := U) (U := U.calling g mk a) rfl qV⟩, va_recv hK hP (ci := 11) (q0 := 0) rfl rfl, fun U hU hW => ⟨rfl, by rw [hU], by rw [hU]; exact hPc, va_K.moved hW.alike hKc, hDc.weaken (fun _ _ _ _ => trivial), by rw [hU]; exact tz_V.warm hW ((hV.kept hS.2.1).narrow hFc)⟩⟩ rfl rfl hl.1 rfl (lv_room (Nat.le_of_ble_eq_true rfl)) dL_law_426 ⟨Nat.le_of_ble_eq_true rfl, Nat.le_of_ble_eq_true rfl⟩) hS (fun q _ h => hFc q h) hFc (fun r_1 u_ t H1 locs ht hvm hw_2 hB hz1 hk1 hS => ?_)
  obtain ⟨gp__3, gk__4, gs__5, gv__6, gi__7, gf__8, gl__9, zgd_10, fgd_11, ugd_12, zg_13, fg_14, ug_15, hf_16, hf_17, hP1, hK1, hD1⟩ := hB
  have hz_zgd_10_0 : zgd_10 0 ≤ 5 := hf_16.1 0
  have hz_zgd_10_1 : zgd_10 1 ≤ 5 := hf_16.1 1
  have hz_zgd_10_2 : zgd_10 2 ≤ 8 := hf_16.1 2
  have hz_zgd_10_3 : zgd_10 3 ≤ 6 := hf_16.1 3
  have hz_zgd_10_4 : zgd_10 4 ≤ 8 := hf_16.1 4
  have hz_zgd_10_5 : zgd_10 5 ≤ 8 := hf_16.1 5
  have hz_zgd_10_6 : zgd_10 6 ≤ 8 := hf_16.1 6
  have hz_zgd_10_7 : zgd_10 7 ≤ 8 := hf_16.1 7
  have hz_zgd_10_8 : zgd_10 8 ≤ 8 := hf_16.1 8
  have hz_zgd_10_9 : zgd_10 9 ≤ 8 := hf_16.1 9
  have hz_zgd_10_10 : zgd_10 10 ≤ 8 := hf_16.1 10
  have hz_zgd_10_11 : zgd_10 11 ≤ 8 := hf_16.1 11
  have hu_zgd_10 := hf_16.2
  have hz_zg_13_0 : zg_13 0 ≤ 5 := hf_17.1 0
  have hz_zg_13_1 : zg_13 1 ≤ 5 := hf_17.1 1
  have hz_zg_13_2 : zg_13 2 ≤ 8 := hf_17.1 2
  have hz_zg_13_3 : zg_13 3 ≤ 6 := hf_17.1 3
  have hz_zg_13_4 : zg_13 4 ≤ 8 := hf_17.1 4
  have hz_zg_13_5 : zg_13 5 ≤ 8 := hf_17.1 5
  have hz_zg_13_6 : zg_13 6 ≤ 8 := hf_17.1 6
  have hz_zg_13_7 : zg_13 7 ≤ 8 := hf_17.1 7
  have hz_zg_13_8 : zg_13 8 ≤ 8 := hf_17.1 8
  have hz_zg_13_9 : zg_13 9 ≤ 8 := hf_17.1 9
  have hz_zg_13_10 : zg_13 10 ≤ 8 := hf_17.1 10
  have hz_zg_13_11 : zg_13 11 ≤ 8 := hf_17.1 11
  have hu_zg_13 := hf_17.2
  rw [ht] at hP1
  have hK1 := va_K.moved hvm.symm hK1
  obtain ⟨hP, hD⟩ := tz_put (ws' := (tz_XW o aw ai ak sc rd fo tx ar at_ ao w0 w1 w2 w3 w4 w5 sw sh mo nw kp ik mr mw mq mz my mb mx mv ad ab ai0 ai1 cw cai ck csw csh ctx cr ct_ co_ cn_ ck_ ci_ cr_ cw_ cs_ cz_ cy_ cb2_ cx_ cv_ cd cb ci0 ci1 ty fr fk fx ft_ fo_ fw fh la lb (.ref tx) gl__9 gp__3 gk__4 gs__5 gv__6 gi__7 gf__8 ugd_12 zgd_10 fgd_11 ug_15 zg_13 fg_14 ui0 zi0 fi0 ui1 zi1 fi1 la_ lb_ lc_ ti_ cb_ ld_ le_ sm_ jb ta_ tl_ tk_ vl_ fn fk_ fi_ fr_ fw_ fs_ fz_ fb_ fy_ fx_ fv_)) hP hD [0, 18, 3, 19, 20, 21, 22, 23, 24, 25, 26, 27, 28, 29, 30, 31, 32, 33, 34, 35, 36, 37, 38, 39, 40, 41, 42, 43, 44, 45, 46, 47, 48, 49, 50, 51, 52, 53, 54, 55, 56, 57, 58, 59, 60, 61, 62, 63, 64, 65, 66, 67, 68, 69, 70] rfl hk1 hP1 rfl rfl rfl
  generalize H1 = H at hP hS ⊢
  refine lv_pop hx hb dL_law_429 rfl ?_
  refine lv_aload_n hx hb dL_law_430 rfl (lv_at hl 1 rfl) ?_
  have hPc := hP.sub (ws' := [(mo, .inr (12, [.ref nw, .ref kp, .ref ik, .ref mr, .long la_, .long lb_, .ref mw, .long lc_, .int ti_, .int cb_, .long ld_, .long le_, .ref mq, .ref mz, .ref my, .int sm_, .ref mb, .int (nI jb), .int ta_, .int tl_, .int tk_, .int vl_, .ref mx, .ref mv])), (nw, .inl (cn_, 350, .inl fn)), (mb, .inl (cb2_, 150, .inl fy_)), (mv, .inl (cv_, 4, .inl fv_)), (mx, .inl (cx_, 86, .inl fx_))]) [123, 124, 132, 134, 133] rfl
  have hDc := hD.sub (ws' := [(mo, .inr (12, [.ref nw, .ref kp, .ref ik, .ref mr, .long la_, .long lb_, .ref mw, .long lc_, .int ti_, .int cb_, .long ld_, .long le_, .ref mq, .ref mz, .ref my, .int sm_, .ref mb, .int (nI jb), .int ta_, .int tl_, .int tk_, .int vl_, .ref mx, .ref mv])), (nw, .inl (cn_, 350, .inl fn)), (mb, .inl (cb2_, 150, .inl fy_)), (mv, .inl (cv_, 4, .inl fv_)), (mx, .inl (cx_, 86, .inl fx_))]) [123, 124, 132, 134, 133] (by decide) rfl
  have hKc := hK.sub (tys' := [(cn_, .int), (cb2_, .int), (cv_, .int), (cx_, .int)]) [61, 69, 71, 70] rfl
  have hFc := va_free (wc := [(mo, .inr (12, [.ref nw, .ref kp, .ref ik, .ref mr, .long la_, .long lb_, .ref mw, .long lc_, .int ti_, .int cb_, .long ld_, .long le_, .ref mq, .ref mz, .ref my, .int sm_, .ref mb, .int (nI jb), .int ta_, .int tl_, .int tk_, .int vl_, .ref mx, .ref mv])), (nw, .inl (cn_, 350, .inl fn)), (mb, .inl (cb2_, 150, .inl fy_)), (mv, .inl (cv_, 4, .inl fv_)), (mx, .inl (cx_, 86, .inl fx_))]) hD hS hA [123, 124, 132, 134, 133] rfl
  refine va_calli (va_runV (As := []) (rest := []) ⟨hx, hb, hml, hown, hts⟩ (m_read l dC dI mo nw kp ik mr la_ lb_ mw lc_ ti_ cb_ ld_ le_ mq mz my sm_ mb jb ta_ tl_ tk_ vl_ mx mv cn_ fn cb2_ fy_ cv_ fv_ cx_ fx_ H.size hO_n hO_x hO_b) (cwV 0 hts gL_law_X12_read rfl rfl rfl (by decide +kernel) ⟨Nat.le_of_ble_eq_true rfl, Nat.le_of_ble_eq_true rfl⟩) ⟨fun a U g mk q => by obtain ⟨q0, q1, qP, qK, qD⟩ := q; exact ⟨q0, q1, qP, va_K.moved (u := U) (U := U.calling g mk a) (Vm.Alike.refl U.vm) qK, qD⟩, va_recv hK hP (ci := 12) (q0 := 123) rfl rfl, fun U hU hW => ⟨rfl, by rw [hU], by rw [hU]; exact hPc, va_K.moved hW.alike hKc, hDc.weaken (fun _ _ _ _ => trivial)⟩⟩ rfl rfl hl.1 rfl (lv_room (Nat.le_of_ble_eq_true rfl)) dL_law_431 ⟨Nat.le_of_ble_eq_true rfl, Nat.le_of_ble_eq_true rfl⟩) hS (fun q _ h => hFc q h) hFc (fun r_18 u_ t H1 locs ht hvm hw_19 hB hz1 hk1 hS => ?_)
  obtain ⟨h_token_20, h_value_21, gn_22, gv__23, gx__24, h_tokenAt_25, h_tokenLong_26, hf_27, hf_28, hP1, hK1, hD1⟩ := hB
  rw [ht] at hP1
  have hK1 := va_K.moved hvm.symm hK1
  obtain ⟨hP, hD⟩ := tz_put (ws' := (tz_XW o aw ai ak sc rd fo tx ar at_ ao w0 w1 w2 w3 w4 w5 sw sh mo nw kp ik mr mw mq mz my mb mx mv ad ab ai0 ai1 cw cai ck csw csh ctx cr ct_ co_ cn_ ck_ ci_ cr_ cw_ cs_ cz_ cy_ cb2_ cx_ cv_ cd cb ci0 ci1 ty fr fk fx ft_ fo_ fw fh la lb (.ref tx) gl__9 gp__3 gk__4 gs__5 gv__6 gi__7 gf__8 ugd_12 zgd_10 fgd_11 ug_15 zg_13 fg_14 ui0 zi0 fi0 ui1 zi1 fi1 la_ lb_ lc_ ti_ cb_ ld_ le_ sm_ jb h_tokenAt_25 h_tokenLong_26 h_token_20 h_value_21 gn_22 fk_ fi_ fr_ fw_ fs_ fz_ fb_ fy_ gx__24 gv__23)) hP hD [123, 124, 132, 134, 133] rfl hk1 hP1 rfl rfl rfl
  generalize H1 = H at hP hS ⊢
  refine lv_pop hx hb dL_law_434 rfl ?_
  refine lv_goto (tgt := 1153) hx hb dL_law_435 (by decide) ?_
  exact K H _ ls ⟨ty, fr, fk, fx, ft_, fo_, fw, fh, la, lb, (.ref tx), gl__9, gp__3, gk__4, gs__5, gv__6, gi__7, gf__8, ugd_12, zgd_10, fgd_11, ug_15, zg_13, fg_14, ui0, zi0, fi0, ui1, zi1, fi1, la_, lb_, lc_, ti_, cb_, ld_, le_, sm_, jb, h_tokenAt_25, h_tokenLong_26, h_token_20, h_value_21, gn_22, fk_, fi_, fr_, fw_, fs_, fz_, fb_, fy_, gx__24, gv__23, hf_16, hf_17, hB_i0, hB_i1, hf_27, hO_k, hf_28, hO_b, hP, hD⟩ hS hl
set_option maxRecDepth 20000 in
theorem gL_law_X11_way : GoodIn lw_tbl (wsV RL 58 RX11 yX11_way wsX11_way) := tz_good [(23, 20), (23, 21), (23, 22), (0, 2), (23, 23), (1, 6), (11, 16), (11, 17), (11, 18), (0, 2), (11, 19), (7, 4), (7, 5), (7, 6), (7, 11), (7, 12), (7, 13), (7, 14), (2, 6), (24, 0), (24, 1), (24, 2), (24, 3), (24, 4), (0, 17), (24, 5), (24, 6), (24, 7), (24, 2), (0, 14), (24, 9), (24, 10), (24, 11), (0, 23), (24, 12), (24, 13), (24, 14), (24, 15), (24, 16), (0, 20), (24, 17), (24, 0), (24, 19), (24, 20), (24, 21), (1, 5), (24, 22), (24, 23), (25, 0), (25, 1), (25, 2), (1, 2), (25, 3), (25, 4), (25, 5), (25, 6), (25, 7), (25, 8), (25, 9), (25, 10), (25, 11), (25, 12), (25, 13), (25, 14), (25, 10), (25, 16), (25, 17), (25, 18), (25, 19), (25, 8), (25, 21), (25, 22), (25, 23), (26, 0), (26, 1), (26, 2), (26, 3), (26, 4), (26, 5), (26, 6), (26, 7), (26, 8), (26, 9), (26, 9), (26, 11), (26, 4), (26, 13), (26, 14), (26, 15), (26, 16), (46, 0), (46, 1), (46, 2), (46, 3), (46, 4), (46, 5), (46, 6), (46, 7), (46, 8), (46, 9), (46, 10), (46, 11)] (by decide +kernel) (by decide +kernel)
set_option maxRecDepth 20000 in
theorem gL_law_X12_way : GoodIn lw_tbl (wsV RL 61 RX12 yX12_way wsX12_way) := tz_good [(26, 17), (26, 18), (26, 19), (0, 5), (26, 20), (26, 21), (13, 1), (13, 2), (0, 5), (13, 3), (13, 4), (8, 17), (8, 18), (8, 19), (8, 20), (8, 21), (8, 22), (8, 23), (5, 7), (26, 22), (26, 23), (27, 0), (27, 1), (27, 2), (27, 3), (27, 4), (27, 5), (27, 6), (27, 7), (27, 8), (27, 9), (27, 10), (27, 11), (27, 12), (27, 13), (27, 14), (47, 0), (47, 1), (47, 2), (47, 3), (47, 4), (47, 5), (47, 6), (47, 7), (47, 8), (47, 9), (47, 10), (47, 11), (47, 12), (47, 13), (47, 14), (47, 15), (47, 16), (47, 17), (47, 18), (47, 19), (47, 20), (47, 21), (47, 22), (47, 23)] (by decide +kernel) (by decide +kernel)
theorem dL_law_438 : decode cL_law 438 = .ok (.aload_n 1, 1) := by decide +kernel
theorem dL_law_439 : decode cL_law 439 = .ok (.aload_n 0, 1) := by decide +kernel
theorem dL_law_440 : decode cL_law 440 = .ok (.iload_n 3, 1) := by decide +kernel
theorem dL_law_441 : decode cL_law 441 = .ok (.iconst 1, 1) := by decide +kernel
theorem dL_law_442 : decode cL_law 442 = .ok (.iadd, 1) := by decide +kernel
theorem dL_law_443 : decode cL_law 443 = .ok (.iaload, 1) := by decide +kernel
theorem dL_law_444 : decode cL_law 444 = .ok (.aload_n 0, 1) := by decide +kernel
theorem dL_law_445 : decode cL_law 445 = .ok (.iload_n 3, 1) := by decide +kernel
theorem dL_law_446 : decode cL_law 446 = .ok (.iconst 2, 1) := by decide +kernel
theorem dL_law_447 : decode cL_law 447 = .ok (.iadd, 1) := by decide +kernel
theorem dL_law_448 : decode cL_law 448 = .ok (.iaload, 1) := by decide +kernel
theorem dL_law_449 : decode cL_law 449 = .ok (.invokevirtual 58, 3) := by decide +kernel
theorem dL_law_452 : decode cL_law 452 = .ok (.aload_n 2, 1) := by decide +kernel
theorem dL_law_453 : decode cL_law 453 = .ok (.aload_n 0, 1) := by decide +kernel
theorem dL_law_454 : decode cL_law 454 = .ok (.iload_n 3, 1) := by decide +kernel
theorem dL_law_455 : decode cL_law 455 = .ok (.iconst 1, 1) := by decide +kernel
theorem dL_law_456 : decode cL_law 456 = .ok (.iadd, 1) := by decide +kernel
theorem dL_law_457 : decode cL_law 457 = .ok (.iaload, 1) := by decide +kernel
theorem dL_law_458 : decode cL_law 458 = .ok (.aload_n 0, 1) := by decide +kernel
theorem dL_law_459 : decode cL_law 459 = .ok (.iload_n 3, 1) := by decide +kernel
theorem dL_law_460 : decode cL_law 460 = .ok (.iconst 2, 1) := by decide +kernel
theorem dL_law_461 : decode cL_law 461 = .ok (.iadd, 1) := by decide +kernel
theorem dL_law_462 : decode cL_law 462 = .ok (.iaload, 1) := by decide +kernel
theorem dL_law_463 : decode cL_law 463 = .ok (.invokevirtual 61, 3) := by decide +kernel
theorem dL_law_466 : decode cL_law 466 = .ok (.if_icmp .eq 687, 3) := by decide +kernel
set_option maxHeartbeats 8000000 in
set_option maxRecDepth 100000 in
theorem lc_way {p : Program} {l : Launch} {e : Env} {s : State} {m : MethodId} {below : List Frame} {meth : Method} {c : Code} {b L : Nat} {xs : Nat → Int32} (hL : L ≤ 3072) (C0 : lw_At p s m meth c b L xs) (hN : tz_N s) (A : Nat → Prop) (hA : ∀ q : Nat, s.heap.size ≤ q → A q) (hA2 : ∀ q : Nat, A q → s.heap.size ≤ q) (hbA : ¬ A b) (hV : tz_V A s s.heap) (dC : Nat → ClassId) (dI : Nat → Nat → Nat) (o : Nat) (aw : Nat) (ai : Nat) (ak : Nat) (sc : Nat) (rd : Nat) (fo : Nat) (tx : Nat) (ar : Nat) (at_ : Nat) (ao : Nat) (w0 : Nat) (w1 : Nat) (w2 : Nat) (w3 : Nat) (w4 : Nat) (w5 : Nat) (sw : Nat) (sh : Nat) (mo : Nat) (nw : Nat) (kp : Nat) (ik : Nat) (mr : Nat) (mw : Nat) (mq : Nat) (mz : Nat) (my : Nat) (mb : Nat) (mx : Nat) (mv : Nat) (ad : Nat → Nat) (ab : Nat → Nat) (ai0 : Nat → Nat) (ai1 : Nat → Nat) (cw : ClassId) (cai : ClassId) (ck : ClassId) (csw : ClassId) (csh : ClassId) (ctx : ClassId) (cr : ClassId) (ct_ : ClassId) (co_ : ClassId) (cn_ : ClassId) (ck_ : ClassId) (ci_ : ClassId) (cr_ : ClassId) (cw_ : ClassId) (cs_ : ClassId) (cz_ : ClassId) (cy_ : ClassId) (cb2_ : ClassId) (cx_ : ClassId) (cv_ : ClassId) (cd : Nat → ClassId) (cb : Nat → ClassId) (ci0 : Nat → ClassId) (ci1 : Nat → ClassId) (hK : va_K (dC, dI) vwCl (tz_T cw cai ck csw csh ctx cr ct_ co_ cn_ ck_ ci_ cr_ cw_ cs_ cz_ cy_ cb2_ cx_ cv_ cd cb ci0 ci1) s) (i : Nat) (hi : i + 6 ≤ L) (H : Heap) (locs : List Loc) (hI : tz_I dC dI o aw ai ak sc rd fo tx ar at_ ao w0 w1 w2 w3 w4 w5 sw sh mo nw kp ik mr mw mq mz my mb mx mv ad ab ai0 ai1 cw cai ck csw csh ctx cr ct_ co_ cn_ ck_ ci_ cr_ cw_ cs_ cz_ cy_ cb2_ cx_ cv_ cd cb ci0 ci1 A H) (hS : va_S A s.heap H locs) (ls : Array Slot) (hl : lv_has ls 4 [(3, .int (nI i)), (2, .ref mo), (1, .ref o), (0, .ref b)]) (K : ∀ (H : Heap) (locs : List Loc) (ls : Array Slot), tz_I dC dI o aw ai ak sc rd fo tx ar at_ ao w0 w1 w2 w3 w4 w5 sw sh mo nw kp ik mr mw mq mz my mb mx mv ad ab ai0 ai1 cw cai ck csw csh ctx cr ct_ co_ cn_ ck_ ci_ cr_ cw_ cs_ cz_ cy_ cb2_ cx_ cv_ cd cb ci0 ci1 A H → va_S A s.heap H locs → lv_has ls 4 [(3, .int (nI i)), (2, .ref mo), (1, .ref o), (0, .ref b)] → W p l e room_1 s m #[Value.ref b] below meth c H locs 136 3195 (lw_Z below #[Value.ref b] s) (F0 m 1153 ls [])) : W p l e room_1 s m #[Value.ref b] below meth c H locs 136 3195 (lw_Z below #[Value.ref b] s) (F0 m 438 ls []) := by
  obtain ⟨hx, hb, hr, hml, hown, hts, hX, hbl, hlocks, hgv⟩ := C0
  have hb : c.code = cL_law := hb
  have hown : s.vm.findClass RL = some m.cls := hown
  obtain ⟨ty, fr, fk, fx, ft_, fo_, fw, fh, la, lb, rt, nl_, np_, nk_, ns_, nv_, ni_, nf_, ud, zd, fd, ub, zb, fb, ui0, zi0, fi0, ui1, zi1, fi1, la_, lb_, lc_, ti_, cb_, ld_, le_, sm_, jb, ta_, tl_, tk_, vl_, fn, fk_, fi_, fr_, fw_, fs_, fz_, fb_, fy_, fx_, fv_, hB_d, hB_b, hB_i0, hB_i1, hO_n, hO_k, hO_x, hO_b, hP, hD⟩ := hI
  have hu_zd := hB_d.2
  have hu_zb := hB_b.2
  have hu_zi0 := hB_i0.2
  have hu_zi1 := hB_i1.2
  refine lv_aload_n hx hb dL_law_438 rfl (lv_at hl 2 rfl) ?_
  refine lv_aload_n hx hb dL_law_439 rfl (lv_at hl 3 rfl) ?_
  refine lv_iload_n hx hb dL_law_440 rfl (lv_at hl 0 rfl) ?_
  refine lv_iconst (v := 1) hx hb dL_law_441 (by decide) ?_
  refine lv_iadd hx hb dL_law_442 ?_
  refine tz_i (nI (i + 1)) (nI_add i 1) ?_
  refine va_sld hx hb hX hbl hbA hS (vp_in_nI (n := (i + 1)) (N := L) (by omega) (by omega)) dL_law_443 ?_
  refine tz_i (xs (i + 1)) (congrArg xs (nI_clamp (by omega))) ?_
  refine lv_aload_n hx hb dL_law_444 rfl (lv_at hl 3 rfl) ?_
  refine lv_iload_n hx hb dL_law_445 rfl (lv_at hl 0 rfl) ?_
  refine lv_iconst (v := 2) hx hb dL_law_446 (by decide) ?_
  refine lv_iadd hx hb dL_law_447 ?_
  refine tz_i (nI (i + 2)) (nI_add i 2) ?_
  refine va_sld hx hb hX hbl hbA hS (vp_in_nI (n := (i + 2)) (N := L) (by omega) (by omega)) dL_law_448 ?_
  refine tz_i (xs (i + 2)) (congrArg xs (nI_clamp (by omega))) ?_
  have hPc := hP.sub (ws' := [(o, .inr (11, [.ref aw, .ref (ab 0), .ref ai, .ref ak, .ref sc, .ref rd, .ref fo, .ref tx, .int ty, .ref ar, .ref at_, .ref ao])), (aw, .inl (cw, 6, .inr (.inr (.inr (.inr (tz_w w0 w1 w2 w3 w4 w5)))))), (w0, .inr (4, [])), (w1, .inr (1, [])), (w2, .inr (10, [])), (w3, .inr (3, [])), (w4, .inr (9, [])), (w5, .inr (8, [])), (ar, .inl (cr, 3, .inl fr))]) [0, 7, 8, 9, 10, 11, 12, 13, 1] rfl
  have hDc := hD.sub (ws' := [(o, .inr (11, [.ref aw, .ref (ab 0), .ref ai, .ref ak, .ref sc, .ref rd, .ref fo, .ref tx, .int ty, .ref ar, .ref at_, .ref ao])), (aw, .inl (cw, 6, .inr (.inr (.inr (.inr (tz_w w0 w1 w2 w3 w4 w5)))))), (w0, .inr (4, [])), (w1, .inr (1, [])), (w2, .inr (10, [])), (w3, .inr (3, [])), (w4, .inr (9, [])), (w5, .inr (8, [])), (ar, .inl (cr, 3, .inl fr))]) [0, 7, 8, 9, 10, 11, 12, 13, 1] (by decide) rfl
  have hKc := hK.sub (tys' := [(cw, (.object "ThriceCounted$Ones")), (cr, .int)]) [6, 0] rfl
  have hFc := va_free (wc := [(o, .inr (11, [.ref aw, .ref (ab 0), .ref ai, .ref ak, .ref sc, .ref rd, .ref fo, .ref tx, .int ty, .ref ar, .ref at_, .ref ao])), (aw, .inl (cw, 6, .inr (.inr (.inr (.inr (tz_w w0 w1 w2 w3 w4 w5)))))), (w0, .inr (4, [])), (w1, .inr (1, [])), (w2, .inr (10, [])), (w3, .inr (3, [])), (w4, .inr (9, [])), (w5, .inr (8, [])), (ar, .inl (cr, 3, .inl fr))]) hD hS hA [0, 7, 8, 9, 10, 11, 12, 13, 1] rfl
  refine va_calli (va_runV (As := [.int (xs (i + 1)), .int (xs (i + 2))]) (rest := []) ⟨hx, hb, hml, hown, hts⟩ (x_way l dC dI o aw ab ai ak sc rd fo tx ty ar at_ ao cw w0 w1 w2 w3 w4 w5 cr fr (xs (i + 1)) (xs (i + 2)) H.size) (cwV 2 hts gL_law_X11_way rfl rfl rfl (by decide +kernel) ⟨Nat.le_of_ble_eq_true rfl, Nat.le_of_ble_eq_true rfl⟩) ⟨fun a U g mk q => by obtain ⟨q0, q1, qP, qK, qD⟩ := q; exact ⟨q0, q1, qP, va_K.moved (u := U) (U := U.calling g mk a) (Vm.Alike.refl U.vm) qK, qD⟩, va_recv hK hP (ci := 11) (q0 := 0) rfl rfl, fun U hU hW => ⟨rfl, by rw [hU], by rw [hU]; exact hPc, va_K.moved hW.alike hKc, hDc.weaken (fun _ _ _ _ => trivial)⟩⟩ rfl rfl hl.1 rfl (lv_room (Nat.le_of_ble_eq_true rfl)) dL_law_449 ⟨Nat.le_of_ble_eq_true rfl, Nat.le_of_ble_eq_true rfl⟩) hS (fun q _ h => hFc q h) hFc (fun r_1 u_ t H1 locs ht hvm hw_2 hB hz1 hk1 hS => ?_)
  obtain ⟨gr_3, hP1, hK1, hD1⟩ := hB
  rw [ht] at hP1
  have hK1 := va_K.moved hvm.symm hK1
  obtain ⟨hP, hD⟩ := tz_put (ws' := (tz_XW o aw ai ak sc rd fo tx ar at_ ao w0 w1 w2 w3 w4 w5 sw sh mo nw kp ik mr mw mq mz my mb mx mv ad ab ai0 ai1 cw cai ck csw csh ctx cr ct_ co_ cn_ ck_ ci_ cr_ cw_ cs_ cz_ cy_ cb2_ cx_ cv_ cd cb ci0 ci1 ty gr_3 fk fx ft_ fo_ fw fh la lb rt nl_ np_ nk_ ns_ nv_ ni_ nf_ ud zd fd ub zb fb ui0 zi0 fi0 ui1 zi1 fi1 la_ lb_ lc_ ti_ cb_ ld_ le_ sm_ jb ta_ tl_ tk_ vl_ fn fk_ fi_ fr_ fw_ fs_ fz_ fb_ fy_ fx_ fv_)) hP hD [0, 7, 8, 9, 10, 11, 12, 13, 1] rfl hk1 hP1 rfl rfl rfl
  generalize H1 = H at hP hS ⊢
  obtain rfl : (if 0 ≤ (xs (i + 1)) ∧ (xs (i + 1)) ≤ 5 then (if 0 ≤ (xs (i + 2)) ∧ (xs (i + 2)) ≤ 21 then (if 20 ≤ (xs (i + 2)) then (if (xs (i + 2)) = 20 then zM (xs (i + 1)) else zN (zS (xs (i + 1))) 0 20) else zS (xs (i + 1)) (xs (i + 2))) else (-100)) else (-100)) = r_1 := hw_2.symm
  refine lv_aload_n hx hb dL_law_452 rfl (lv_at hl 1 rfl) ?_
  refine lv_aload_n hx hb dL_law_453 rfl (lv_at hl 3 rfl) ?_
  refine lv_iload_n hx hb dL_law_454 rfl (lv_at hl 0 rfl) ?_
  refine lv_iconst (v := 1) hx hb dL_law_455 (by decide) ?_
  refine lv_iadd hx hb dL_law_456 ?_
  refine tz_i (nI (i + 1)) (nI_add i 1) ?_
  refine va_sld hx hb hX hbl hbA hS (vp_in_nI (n := (i + 1)) (N := L) (by omega) (by omega)) dL_law_457 ?_
  refine tz_i (xs (i + 1)) (congrArg xs (nI_clamp (by omega))) ?_
  refine lv_aload_n hx hb dL_law_458 rfl (lv_at hl 3 rfl) ?_
  refine lv_iload_n hx hb dL_law_459 rfl (lv_at hl 0 rfl) ?_
  refine lv_iconst (v := 2) hx hb dL_law_460 (by decide) ?_
  refine lv_iadd hx hb dL_law_461 ?_
  refine tz_i (nI (i + 2)) (nI_add i 2) ?_
  refine va_sld hx hb hX hbl hbA hS (vp_in_nI (n := (i + 2)) (N := L) (by omega) (by omega)) dL_law_462 ?_
  refine tz_i (xs (i + 2)) (congrArg xs (nI_clamp (by omega))) ?_
  have hPc := hP.sub (ws' := [(mo, .inr (12, [.ref nw, .ref kp, .ref ik, .ref mr, .long la_, .long lb_, .ref mw, .long lc_, .int ti_, .int cb_, .long ld_, .long le_, .ref mq, .ref mz, .ref my, .int sm_, .ref mb, .int (nI jb), .int ta_, .int tl_, .int tk_, .int vl_, .ref mx, .ref mv])), (mr, .inl (cr_, 3, .inl fr_))]) [123, 127] rfl
  have hDc := hD.sub (ws' := [(mo, .inr (12, [.ref nw, .ref kp, .ref ik, .ref mr, .long la_, .long lb_, .ref mw, .long lc_, .int ti_, .int cb_, .long ld_, .long le_, .ref mq, .ref mz, .ref my, .int sm_, .ref mb, .int (nI jb), .int ta_, .int tl_, .int tk_, .int vl_, .ref mx, .ref mv])), (mr, .inl (cr_, 3, .inl fr_))]) [123, 127] (by decide) rfl
  have hKc := hK.sub (tys' := [(cr_, .int)]) [64] rfl
  have hFc := va_free (wc := [(mo, .inr (12, [.ref nw, .ref kp, .ref ik, .ref mr, .long la_, .long lb_, .ref mw, .long lc_, .int ti_, .int cb_, .long ld_, .long le_, .ref mq, .ref mz, .ref my, .int sm_, .ref mb, .int (nI jb), .int ta_, .int tl_, .int tk_, .int vl_, .ref mx, .ref mv])), (mr, .inl (cr_, 3, .inl fr_))]) hD hS hA [123, 127] rfl
  refine va_calli (va_runV (As := [.int (xs (i + 1)), .int (xs (i + 2))]) (rest := [.int (if 0 ≤ (xs (i + 1)) ∧ (xs (i + 1)) ≤ 5 then (if 0 ≤ (xs (i + 2)) ∧ (xs (i + 2)) ≤ 21 then (if 20 ≤ (xs (i + 2)) then (if (xs (i + 2)) = 20 then zM (xs (i + 1)) else zN (zS (xs (i + 1))) 0 20) else zS (xs (i + 1)) (xs (i + 2))) else (-100)) else (-100))]) ⟨hx, hb, hml, hown, hts⟩ (m_way l dC dI mo nw kp ik mr la_ lb_ mw lc_ ti_ cb_ ld_ le_ mq mz my sm_ mb (nI jb) ta_ tl_ tk_ vl_ mx mv cr_ fr_ (xs (i + 1)) (xs (i + 2)) H.size) (cwV 2 hts gL_law_X12_way rfl rfl rfl (by decide +kernel) ⟨Nat.le_of_ble_eq_true rfl, Nat.le_of_ble_eq_true rfl⟩) ⟨fun a U g mk q => by obtain ⟨q0, q1, qP, qK, qD⟩ := q; exact ⟨q0, q1, qP, va_K.moved (u := U) (U := U.calling g mk a) (Vm.Alike.refl U.vm) qK, qD⟩, va_recv hK hP (ci := 12) (q0 := 123) rfl rfl, fun U hU hW => ⟨rfl, by rw [hU], by rw [hU]; exact hPc, va_K.moved hW.alike hKc, hDc.weaken (fun _ _ _ _ => trivial)⟩⟩ rfl rfl hl.1 rfl (lv_room (Nat.le_of_ble_eq_true rfl)) dL_law_463 ⟨Nat.le_of_ble_eq_true rfl, Nat.le_of_ble_eq_true rfl⟩) hS (fun q _ h => hFc q h) hFc (fun r_4 u_ t H1 locs ht hvm hw_5 hB hz1 hk1 hS => ?_)
  obtain ⟨gr__6, hP1, hK1, hD1⟩ := hB
  rw [ht] at hP1
  have hK1 := va_K.moved hvm.symm hK1
  obtain ⟨hP, hD⟩ := tz_put (ws' := (tz_XW o aw ai ak sc rd fo tx ar at_ ao w0 w1 w2 w3 w4 w5 sw sh mo nw kp ik mr mw mq mz my mb mx mv ad ab ai0 ai1 cw cai ck csw csh ctx cr ct_ co_ cn_ ck_ ci_ cr_ cw_ cs_ cz_ cy_ cb2_ cx_ cv_ cd cb ci0 ci1 ty gr_3 fk fx ft_ fo_ fw fh la lb rt nl_ np_ nk_ ns_ nv_ ni_ nf_ ud zd fd ub zb fb ui0 zi0 fi0 ui1 zi1 fi1 la_ lb_ lc_ ti_ cb_ ld_ le_ sm_ jb ta_ tl_ tk_ vl_ fn fk_ fi_ gr__6 fw_ fs_ fz_ fb_ fy_ fx_ fv_)) hP hD [123, 127] rfl hk1 hP1 rfl rfl rfl
  generalize H1 = H at hP hS ⊢
  obtain rfl : (if 0 ≤ (xs (i + 1)) ∧ (xs (i + 1)) ≤ 5 then (if 0 ≤ (xs (i + 2)) ∧ (xs (i + 2)) ≤ 21 then (if (xs (i + 2)) = 20 then zM (xs (i + 1)) else if (xs (i + 2)) = 21 then zN (yS (xs (i + 1))) 0 20 else yS (xs (i + 1)) (xs (i + 2))) else (-100)) else (-100)) = r_4 := hw_5.symm
  refine lv_icmp_eq (tgt := 1153) hx hb dL_law_466 (by decide) (fun c_7 => ?_) (fun c_7 => ?_)
  · exact K H _ ls ⟨ty, gr_3, fk, fx, ft_, fo_, fw, fh, la, lb, rt, nl_, np_, nk_, ns_, nv_, ni_, nf_, ud, zd, fd, ub, zb, fb, ui0, zi0, fi0, ui1, zi1, fi1, la_, lb_, lc_, ti_, cb_, ld_, le_, sm_, jb, ta_, tl_, tk_, vl_, fn, fk_, fi_, gr__6, fw_, fs_, fz_, fb_, fy_, fx_, fv_, hB_d, hB_b, hB_i0, hB_i1, hO_n, hO_k, hO_x, hO_b, hP, hD⟩ hS hl
  · exact absurd (tz_way (na := xs (i + 1)) (nb := xs (i + 2))) c_7
set_option maxRecDepth 20000 in
theorem gL_law_X11_odds : GoodIn lw_tbl (wsV RL 62 RX11 yX11_odds wsX11_odds) := tz_good [(27, 15), (27, 16), (27, 17), (0, 2), (27, 18), (1, 6), (11, 16), (11, 17), (11, 18), (0, 2), (11, 19), (7, 4), (7, 5), (7, 6), (7, 7), (7, 8), (7, 9), (7, 10), (7, 11), (7, 12), (7, 13), (7, 14), (2, 6), (26, 4), (26, 5), (26, 6), (26, 7), (0, 14), (26, 8), (26, 9), (24, 1), (24, 2), (24, 3), (24, 4), (0, 17), (24, 5), (24, 6), (24, 7), (24, 2), (24, 9), (24, 10), (24, 11), (0, 23), (24, 12), (24, 13), (24, 14), (24, 15), (24, 16), (0, 20), (24, 17), (26, 9), (24, 19), (24, 20), (24, 21), (1, 5), (24, 22), (24, 23), (25, 0), (25, 1), (25, 2), (1, 2), (25, 3), (25, 4), (25, 5), (25, 6), (25, 7), (26, 11), (26, 4), (26, 13), (26, 14), (26, 15), (26, 16), (46, 0), (46, 1), (46, 2), (46, 3), (46, 4), (46, 5), (46, 6), (46, 7), (46, 8), (46, 9), (46, 10), (46, 11)] (by decide +kernel) (by decide +kernel)
set_option maxRecDepth 20000 in
theorem gL_law_X12_odds : GoodIn lw_tbl (wsV RL 65 RX12 yX12_odds wsX12_odds) := tz_good [(27, 19), (27, 20), (27, 21), (0, 5), (27, 22), (27, 23), (28, 0), (13, 1), (13, 2), (0, 5), (13, 3), (13, 4), (8, 17), (8, 18), (8, 19), (27, 1), (27, 2), (27, 3), (27, 4), (27, 5), (27, 6), (27, 7), (27, 8), (27, 9), (27, 10), (27, 11), (27, 12), (27, 13), (27, 14), (8, 20), (8, 21), (8, 22), (8, 23), (5, 7), (47, 0), (47, 1), (47, 2), (47, 3), (47, 4), (47, 5), (47, 6), (47, 7), (47, 8), (47, 9), (47, 10), (47, 11), (47, 12), (47, 13), (47, 14), (47, 15), (47, 16), (47, 17), (47, 18), (47, 19), (47, 20), (47, 21), (47, 22), (47, 23)] (by decide +kernel) (by decide +kernel)
theorem dL_law_471 : decode cL_law 471 = .ok (.aload_n 1, 1) := by decide +kernel
theorem dL_law_472 : decode cL_law 472 = .ok (.aload_n 0, 1) := by decide +kernel
theorem dL_law_473 : decode cL_law 473 = .ok (.iload_n 3, 1) := by decide +kernel
theorem dL_law_474 : decode cL_law 474 = .ok (.iconst 1, 1) := by decide +kernel
theorem dL_law_475 : decode cL_law 475 = .ok (.iadd, 1) := by decide +kernel
theorem dL_law_476 : decode cL_law 476 = .ok (.iaload, 1) := by decide +kernel
theorem dL_law_477 : decode cL_law 477 = .ok (.aload_n 0, 1) := by decide +kernel
theorem dL_law_478 : decode cL_law 478 = .ok (.iload_n 3, 1) := by decide +kernel
theorem dL_law_479 : decode cL_law 479 = .ok (.iconst 2, 1) := by decide +kernel
theorem dL_law_480 : decode cL_law 480 = .ok (.iadd, 1) := by decide +kernel
theorem dL_law_481 : decode cL_law 481 = .ok (.iaload, 1) := by decide +kernel
theorem dL_law_482 : decode cL_law 482 = .ok (.invokevirtual 62, 3) := by decide +kernel
theorem dL_law_485 : decode cL_law 485 = .ok (.pop, 1) := by decide +kernel
theorem dL_law_486 : decode cL_law 486 = .ok (.aload_n 2, 1) := by decide +kernel
theorem dL_law_487 : decode cL_law 487 = .ok (.aload_n 0, 1) := by decide +kernel
theorem dL_law_488 : decode cL_law 488 = .ok (.iload_n 3, 1) := by decide +kernel
theorem dL_law_489 : decode cL_law 489 = .ok (.iconst 1, 1) := by decide +kernel
theorem dL_law_490 : decode cL_law 490 = .ok (.iadd, 1) := by decide +kernel
theorem dL_law_491 : decode cL_law 491 = .ok (.iaload, 1) := by decide +kernel
theorem dL_law_492 : decode cL_law 492 = .ok (.aload_n 0, 1) := by decide +kernel
theorem dL_law_493 : decode cL_law 493 = .ok (.iload_n 3, 1) := by decide +kernel
theorem dL_law_494 : decode cL_law 494 = .ok (.iconst 2, 1) := by decide +kernel
theorem dL_law_495 : decode cL_law 495 = .ok (.iadd, 1) := by decide +kernel
theorem dL_law_496 : decode cL_law 496 = .ok (.iaload, 1) := by decide +kernel
theorem dL_law_497 : decode cL_law 497 = .ok (.invokevirtual 65, 3) := by decide +kernel
theorem dL_law_500 : decode cL_law 500 = .ok (.pop, 1) := by decide +kernel
theorem dL_law_501 : decode cL_law 501 = .ok (.goto 652, 3) := by decide +kernel
set_option maxHeartbeats 8000000 in
set_option maxRecDepth 100000 in
theorem lc_odds {p : Program} {l : Launch} {e : Env} {s : State} {m : MethodId} {below : List Frame} {meth : Method} {c : Code} {b L : Nat} {xs : Nat → Int32} (hL : L ≤ 3072) (C0 : lw_At p s m meth c b L xs) (hN : tz_N s) (A : Nat → Prop) (hA : ∀ q : Nat, s.heap.size ≤ q → A q) (hA2 : ∀ q : Nat, A q → s.heap.size ≤ q) (hbA : ¬ A b) (hV : tz_V A s s.heap) (dC : Nat → ClassId) (dI : Nat → Nat → Nat) (o : Nat) (aw : Nat) (ai : Nat) (ak : Nat) (sc : Nat) (rd : Nat) (fo : Nat) (tx : Nat) (ar : Nat) (at_ : Nat) (ao : Nat) (w0 : Nat) (w1 : Nat) (w2 : Nat) (w3 : Nat) (w4 : Nat) (w5 : Nat) (sw : Nat) (sh : Nat) (mo : Nat) (nw : Nat) (kp : Nat) (ik : Nat) (mr : Nat) (mw : Nat) (mq : Nat) (mz : Nat) (my : Nat) (mb : Nat) (mx : Nat) (mv : Nat) (ad : Nat → Nat) (ab : Nat → Nat) (ai0 : Nat → Nat) (ai1 : Nat → Nat) (cw : ClassId) (cai : ClassId) (ck : ClassId) (csw : ClassId) (csh : ClassId) (ctx : ClassId) (cr : ClassId) (ct_ : ClassId) (co_ : ClassId) (cn_ : ClassId) (ck_ : ClassId) (ci_ : ClassId) (cr_ : ClassId) (cw_ : ClassId) (cs_ : ClassId) (cz_ : ClassId) (cy_ : ClassId) (cb2_ : ClassId) (cx_ : ClassId) (cv_ : ClassId) (cd : Nat → ClassId) (cb : Nat → ClassId) (ci0 : Nat → ClassId) (ci1 : Nat → ClassId) (hK : va_K (dC, dI) vwCl (tz_T cw cai ck csw csh ctx cr ct_ co_ cn_ ck_ ci_ cr_ cw_ cs_ cz_ cy_ cb2_ cx_ cv_ cd cb ci0 ci1) s) (i : Nat) (hi : i + 6 ≤ L) (H : Heap) (locs : List Loc) (hI : tz_I dC dI o aw ai ak sc rd fo tx ar at_ ao w0 w1 w2 w3 w4 w5 sw sh mo nw kp ik mr mw mq mz my mb mx mv ad ab ai0 ai1 cw cai ck csw csh ctx cr ct_ co_ cn_ ck_ ci_ cr_ cw_ cs_ cz_ cy_ cb2_ cx_ cv_ cd cb ci0 ci1 A H) (hS : va_S A s.heap H locs) (ls : Array Slot) (hl : lv_has ls 4 [(3, .int (nI i)), (2, .ref mo), (1, .ref o), (0, .ref b)]) (K : ∀ (H : Heap) (locs : List Loc) (ls : Array Slot), tz_I dC dI o aw ai ak sc rd fo tx ar at_ ao w0 w1 w2 w3 w4 w5 sw sh mo nw kp ik mr mw mq mz my mb mx mv ad ab ai0 ai1 cw cai ck csw csh ctx cr ct_ co_ cn_ ck_ ci_ cr_ cw_ cs_ cz_ cy_ cb2_ cx_ cv_ cd cb ci0 ci1 A H → va_S A s.heap H locs → lv_has ls 4 [(3, .int (nI i)), (2, .ref mo), (1, .ref o), (0, .ref b)] → W p l e room_1 s m #[Value.ref b] below meth c H locs 136 3195 (lw_Z below #[Value.ref b] s) (F0 m 1153 ls [])) : W p l e room_1 s m #[Value.ref b] below meth c H locs 136 3195 (lw_Z below #[Value.ref b] s) (F0 m 471 ls []) := by
  obtain ⟨hx, hb, hr, hml, hown, hts, hX, hbl, hlocks, hgv⟩ := C0
  have hb : c.code = cL_law := hb
  have hown : s.vm.findClass RL = some m.cls := hown
  obtain ⟨ty, fr, fk, fx, ft_, fo_, fw, fh, la, lb, rt, nl_, np_, nk_, ns_, nv_, ni_, nf_, ud, zd, fd, ub, zb, fb, ui0, zi0, fi0, ui1, zi1, fi1, la_, lb_, lc_, ti_, cb_, ld_, le_, sm_, jb, ta_, tl_, tk_, vl_, fn, fk_, fi_, fr_, fw_, fs_, fz_, fb_, fy_, fx_, fv_, hB_d, hB_b, hB_i0, hB_i1, hO_n, hO_k, hO_x, hO_b, hP, hD⟩ := hI
  have hu_zd := hB_d.2
  have hu_zb := hB_b.2
  have hu_zi0 := hB_i0.2
  have hu_zi1 := hB_i1.2
  refine lv_aload_n hx hb dL_law_471 rfl (lv_at hl 2 rfl) ?_
  refine lv_aload_n hx hb dL_law_472 rfl (lv_at hl 3 rfl) ?_
  refine lv_iload_n hx hb dL_law_473 rfl (lv_at hl 0 rfl) ?_
  refine lv_iconst (v := 1) hx hb dL_law_474 (by decide) ?_
  refine lv_iadd hx hb dL_law_475 ?_
  refine tz_i (nI (i + 1)) (nI_add i 1) ?_
  refine va_sld hx hb hX hbl hbA hS (vp_in_nI (n := (i + 1)) (N := L) (by omega) (by omega)) dL_law_476 ?_
  refine tz_i (xs (i + 1)) (congrArg xs (nI_clamp (by omega))) ?_
  refine lv_aload_n hx hb dL_law_477 rfl (lv_at hl 3 rfl) ?_
  refine lv_iload_n hx hb dL_law_478 rfl (lv_at hl 0 rfl) ?_
  refine lv_iconst (v := 2) hx hb dL_law_479 (by decide) ?_
  refine lv_iadd hx hb dL_law_480 ?_
  refine tz_i (nI (i + 2)) (nI_add i 2) ?_
  refine va_sld hx hb hX hbl hbA hS (vp_in_nI (n := (i + 2)) (N := L) (by omega) (by omega)) dL_law_481 ?_
  refine tz_i (xs (i + 2)) (congrArg xs (nI_clamp (by omega))) ?_
  have hPc := hP.sub (ws' := [(o, .inr (11, [.ref aw, .ref (ab 0), .ref ai, .ref ak, .ref sc, .ref rd, .ref fo, .ref tx, .int ty, .ref ar, .ref at_, .ref ao])), (aw, .inl (cw, 6, .inr (.inr (.inr (.inr (tz_w w0 w1 w2 w3 w4 w5)))))), (w0, .inr (4, [])), (w1, .inr (1, [])), (w2, .inr (10, [])), (w3, .inr (3, [])), (w4, .inr (9, [])), (w5, .inr (8, [])), (ar, .inl (cr, 3, .inl fr))]) [0, 7, 8, 9, 10, 11, 12, 13, 1] rfl
  have hDc := hD.sub (ws' := [(o, .inr (11, [.ref aw, .ref (ab 0), .ref ai, .ref ak, .ref sc, .ref rd, .ref fo, .ref tx, .int ty, .ref ar, .ref at_, .ref ao])), (aw, .inl (cw, 6, .inr (.inr (.inr (.inr (tz_w w0 w1 w2 w3 w4 w5)))))), (w0, .inr (4, [])), (w1, .inr (1, [])), (w2, .inr (10, [])), (w3, .inr (3, [])), (w4, .inr (9, [])), (w5, .inr (8, [])), (ar, .inl (cr, 3, .inl fr))]) [0, 7, 8, 9, 10, 11, 12, 13, 1] (by decide) rfl
  have hKc := hK.sub (tys' := [(cw, (.object "ThriceCounted$Ones")), (cr, .int)]) [6, 0] rfl
  have hFc := va_free (wc := [(o, .inr (11, [.ref aw, .ref (ab 0), .ref ai, .ref ak, .ref sc, .ref rd, .ref fo, .ref tx, .int ty, .ref ar, .ref at_, .ref ao])), (aw, .inl (cw, 6, .inr (.inr (.inr (.inr (tz_w w0 w1 w2 w3 w4 w5)))))), (w0, .inr (4, [])), (w1, .inr (1, [])), (w2, .inr (10, [])), (w3, .inr (3, [])), (w4, .inr (9, [])), (w5, .inr (8, [])), (ar, .inl (cr, 3, .inl fr))]) hD hS hA [0, 7, 8, 9, 10, 11, 12, 13, 1] rfl
  refine va_calli (va_runV (As := [.int (xs (i + 1)), .int (xs (i + 2))]) (rest := []) ⟨hx, hb, hml, hown, hts⟩ (x_odds l dC dI o aw ab ai ak sc rd fo tx ty ar at_ ao cw w0 w1 w2 w3 w4 w5 cr fr (xs (i + 1)) (xs (i + 2)) H.size) (cwV 2 hts gL_law_X11_odds rfl rfl rfl (by decide +kernel) ⟨Nat.le_of_ble_eq_true rfl, Nat.le_of_ble_eq_true rfl⟩) ⟨fun a U g mk q => by obtain ⟨q0, q1, qP, qK, qD⟩ := q; exact ⟨q0, q1, qP, va_K.moved (u := U) (U := U.calling g mk a) (Vm.Alike.refl U.vm) qK, qD⟩, va_recv hK hP (ci := 11) (q0 := 0) rfl rfl, fun U hU hW => ⟨rfl, by rw [hU], by rw [hU]; exact hPc, va_K.moved hW.alike hKc, hDc.weaken (fun _ _ _ _ => trivial)⟩⟩ rfl rfl hl.1 rfl (lv_room (Nat.le_of_ble_eq_true rfl)) dL_law_482 ⟨Nat.le_of_ble_eq_true rfl, Nat.le_of_ble_eq_true rfl⟩) hS (fun q _ h => hFc q h) hFc (fun r_1 u_ t H1 locs ht hvm hw_2 hB hz1 hk1 hS => ?_)
  obtain ⟨gr_3, hP1, hK1, hD1⟩ := hB
  rw [ht] at hP1
  have hK1 := va_K.moved hvm.symm hK1
  obtain ⟨hP, hD⟩ := tz_put (ws' := (tz_XW o aw ai ak sc rd fo tx ar at_ ao w0 w1 w2 w3 w4 w5 sw sh mo nw kp ik mr mw mq mz my mb mx mv ad ab ai0 ai1 cw cai ck csw csh ctx cr ct_ co_ cn_ ck_ ci_ cr_ cw_ cs_ cz_ cy_ cb2_ cx_ cv_ cd cb ci0 ci1 ty gr_3 fk fx ft_ fo_ fw fh la lb rt nl_ np_ nk_ ns_ nv_ ni_ nf_ ud zd fd ub zb fb ui0 zi0 fi0 ui1 zi1 fi1 la_ lb_ lc_ ti_ cb_ ld_ le_ sm_ jb ta_ tl_ tk_ vl_ fn fk_ fi_ fr_ fw_ fs_ fz_ fb_ fy_ fx_ fv_)) hP hD [0, 7, 8, 9, 10, 11, 12, 13, 1] rfl hk1 hP1 rfl rfl rfl
  generalize H1 = H at hP hS ⊢
  obtain rfl : (if 0 ≤ (xs (i + 1)) ∧ (xs (i + 1)) ≤ 5 then (if (-40) ≤ (xs (i + 2)) ∧ (xs (i + 2)) ≤ 40 then zN (zS (xs (i + 1))) (xs (i + 2)) 20 else (-2)) else (-2)) = r_1 := hw_2.symm
  refine lv_pop hx hb dL_law_485 rfl ?_
  refine lv_aload_n hx hb dL_law_486 rfl (lv_at hl 1 rfl) ?_
  refine lv_aload_n hx hb dL_law_487 rfl (lv_at hl 3 rfl) ?_
  refine lv_iload_n hx hb dL_law_488 rfl (lv_at hl 0 rfl) ?_
  refine lv_iconst (v := 1) hx hb dL_law_489 (by decide) ?_
  refine lv_iadd hx hb dL_law_490 ?_
  refine tz_i (nI (i + 1)) (nI_add i 1) ?_
  refine va_sld hx hb hX hbl hbA hS (vp_in_nI (n := (i + 1)) (N := L) (by omega) (by omega)) dL_law_491 ?_
  refine tz_i (xs (i + 1)) (congrArg xs (nI_clamp (by omega))) ?_
  refine lv_aload_n hx hb dL_law_492 rfl (lv_at hl 3 rfl) ?_
  refine lv_iload_n hx hb dL_law_493 rfl (lv_at hl 0 rfl) ?_
  refine lv_iconst (v := 2) hx hb dL_law_494 (by decide) ?_
  refine lv_iadd hx hb dL_law_495 ?_
  refine tz_i (nI (i + 2)) (nI_add i 2) ?_
  refine va_sld hx hb hX hbl hbA hS (vp_in_nI (n := (i + 2)) (N := L) (by omega) (by omega)) dL_law_496 ?_
  refine tz_i (xs (i + 2)) (congrArg xs (nI_clamp (by omega))) ?_
  have hPc := hP.sub (ws' := [(mo, .inr (12, [.ref nw, .ref kp, .ref ik, .ref mr, .long la_, .long lb_, .ref mw, .long lc_, .int ti_, .int cb_, .long ld_, .long le_, .ref mq, .ref mz, .ref my, .int sm_, .ref mb, .int (nI jb), .int ta_, .int tl_, .int tk_, .int vl_, .ref mx, .ref mv])), (mr, .inl (cr_, 3, .inl fr_))]) [123, 127] rfl
  have hDc := hD.sub (ws' := [(mo, .inr (12, [.ref nw, .ref kp, .ref ik, .ref mr, .long la_, .long lb_, .ref mw, .long lc_, .int ti_, .int cb_, .long ld_, .long le_, .ref mq, .ref mz, .ref my, .int sm_, .ref mb, .int (nI jb), .int ta_, .int tl_, .int tk_, .int vl_, .ref mx, .ref mv])), (mr, .inl (cr_, 3, .inl fr_))]) [123, 127] (by decide) rfl
  have hKc := hK.sub (tys' := [(cr_, .int)]) [64] rfl
  have hFc := va_free (wc := [(mo, .inr (12, [.ref nw, .ref kp, .ref ik, .ref mr, .long la_, .long lb_, .ref mw, .long lc_, .int ti_, .int cb_, .long ld_, .long le_, .ref mq, .ref mz, .ref my, .int sm_, .ref mb, .int (nI jb), .int ta_, .int tl_, .int tk_, .int vl_, .ref mx, .ref mv])), (mr, .inl (cr_, 3, .inl fr_))]) hD hS hA [123, 127] rfl
  refine va_calli (va_runV (As := [.int (xs (i + 1)), .int (xs (i + 2))]) (rest := []) ⟨hx, hb, hml, hown, hts⟩ (m_odds l dC dI mo nw kp ik mr la_ lb_ mw lc_ ti_ cb_ ld_ le_ mq mz my sm_ mb (nI jb) ta_ tl_ tk_ vl_ mx mv cr_ fr_ (xs (i + 1)) (xs (i + 2)) H.size) (cwV 2 hts gL_law_X12_odds rfl rfl rfl (by decide +kernel) ⟨Nat.le_of_ble_eq_true rfl, Nat.le_of_ble_eq_true rfl⟩) ⟨fun a U g mk q => by obtain ⟨q0, q1, qP, qK, qD⟩ := q; exact ⟨q0, q1, qP, va_K.moved (u := U) (U := U.calling g mk a) (Vm.Alike.refl U.vm) qK, qD⟩, va_recv hK hP (ci := 12) (q0 := 123) rfl rfl, fun U hU hW => ⟨rfl, by rw [hU], by rw [hU]; exact hPc, va_K.moved hW.alike hKc, hDc.weaken (fun _ _ _ _ => trivial)⟩⟩ rfl rfl hl.1 rfl (lv_room (Nat.le_of_ble_eq_true rfl)) dL_law_497 ⟨Nat.le_of_ble_eq_true rfl, Nat.le_of_ble_eq_true rfl⟩) hS (fun q _ h => hFc q h) hFc (fun r_4 u_ t H1 locs ht hvm hw_5 hB hz1 hk1 hS => ?_)
  obtain ⟨gr__6, hP1, hK1, hD1⟩ := hB
  rw [ht] at hP1
  have hK1 := va_K.moved hvm.symm hK1
  obtain ⟨hP, hD⟩ := tz_put (ws' := (tz_XW o aw ai ak sc rd fo tx ar at_ ao w0 w1 w2 w3 w4 w5 sw sh mo nw kp ik mr mw mq mz my mb mx mv ad ab ai0 ai1 cw cai ck csw csh ctx cr ct_ co_ cn_ ck_ ci_ cr_ cw_ cs_ cz_ cy_ cb2_ cx_ cv_ cd cb ci0 ci1 ty gr_3 fk fx ft_ fo_ fw fh la lb rt nl_ np_ nk_ ns_ nv_ ni_ nf_ ud zd fd ub zb fb ui0 zi0 fi0 ui1 zi1 fi1 la_ lb_ lc_ ti_ cb_ ld_ le_ sm_ jb ta_ tl_ tk_ vl_ fn fk_ fi_ gr__6 fw_ fs_ fz_ fb_ fy_ fx_ fv_)) hP hD [123, 127] rfl hk1 hP1 rfl rfl rfl
  generalize H1 = H at hP hS ⊢
  obtain rfl : (if 0 ≤ (xs (i + 1)) ∧ (xs (i + 1)) ≤ 5 then (if (-40) ≤ (xs (i + 2)) ∧ (xs (i + 2)) ≤ 40 then zN (yS (xs (i + 1))) (xs (i + 2)) 20 else (-2)) else (-2)) = r_4 := hw_5.symm
  refine lv_pop hx hb dL_law_500 rfl ?_
  refine lv_goto (tgt := 1153) hx hb dL_law_501 (by decide) ?_
  exact K H _ ls ⟨ty, gr_3, fk, fx, ft_, fo_, fw, fh, la, lb, rt, nl_, np_, nk_, ns_, nv_, ni_, nf_, ud, zd, fd, ub, zb, fb, ui0, zi0, fi0, ui1, zi1, fi1, la_, lb_, lc_, ti_, cb_, ld_, le_, sm_, jb, ta_, tl_, tk_, vl_, fn, fk_, fi_, gr__6, fw_, fs_, fz_, fb_, fy_, fx_, fv_, hB_d, hB_b, hB_i0, hB_i1, hO_n, hO_k, hO_x, hO_b, hP, hD⟩ hS hl
set_option maxRecDepth 20000 in
theorem gL_law_X11_of : GoodIn lw_tbl (wsV RL 66 RX11 yX11_of wsX11_of) := tz_good [(28, 1), (28, 2), (28, 3), (0, 2), (28, 4), (1, 10), (11, 15), (10, 4), (10, 5), (10, 6), (3, 4), (10, 7), (3, 15), (7, 4), (7, 5), (0, 2), (7, 6), (7, 7), (7, 8), (7, 9), (7, 10), (7, 11), (7, 12), (7, 13), (7, 14), (2, 6), (10, 8), (10, 9), (10, 10), (10, 11), (3, 22), (3, 21), (8, 8), (8, 9), (8, 10), (8, 11), (46, 0), (46, 1), (46, 2), (46, 3), (46, 4), (46, 5), (46, 6), (46, 7), (46, 8), (46, 9), (46, 10), (46, 11), (54, 0), (54, 1), (54, 2), (54, 3), (54, 4), (54, 5), (58, 0), (58, 1), (58, 2), (58, 3)] (by decide +kernel) (by decide +kernel)
set_option maxRecDepth 20000 in
theorem gL_law_X12_of : GoodIn lw_tbl (wsV RL 69 RX12 yX12_of wsX12_of) := tz_good [(28, 5), (28, 6), (28, 7), (0, 5), (28, 8), (28, 9), (14, 3), (14, 4), (14, 5), (0, 5), (14, 6), (5, 4), (8, 17), (8, 18), (8, 19), (28, 10), (28, 11), (28, 12), (28, 13), (8, 20), (8, 21), (8, 22), (8, 23), (5, 7), (47, 0), (47, 1), (47, 2), (47, 3), (47, 4), (47, 5), (47, 6), (47, 7), (47, 8), (47, 9), (47, 10), (47, 11), (47, 12), (47, 13), (47, 14), (47, 15), (47, 16), (47, 17), (47, 18), (47, 19), (47, 20), (47, 21), (47, 22), (47, 23)] (by decide +kernel) (by decide +kernel)
theorem dL_law_504 : decode cL_law 504 = .ok (.aload_n 1, 1) := by decide +kernel
theorem dL_law_505 : decode cL_law 505 = .ok (.aload_n 0, 1) := by decide +kernel
theorem dL_law_506 : decode cL_law 506 = .ok (.iload_n 3, 1) := by decide +kernel
theorem dL_law_507 : decode cL_law 507 = .ok (.iconst 1, 1) := by decide +kernel
theorem dL_law_508 : decode cL_law 508 = .ok (.iadd, 1) := by decide +kernel
theorem dL_law_509 : decode cL_law 509 = .ok (.iaload, 1) := by decide +kernel
theorem dL_law_510 : decode cL_law 510 = .ok (.aload_n 0, 1) := by decide +kernel
theorem dL_law_511 : decode cL_law 511 = .ok (.iload_n 3, 1) := by decide +kernel
theorem dL_law_512 : decode cL_law 512 = .ok (.iconst 2, 1) := by decide +kernel
theorem dL_law_513 : decode cL_law 513 = .ok (.iadd, 1) := by decide +kernel
theorem dL_law_514 : decode cL_law 514 = .ok (.iaload, 1) := by decide +kernel
theorem dL_law_515 : decode cL_law 515 = .ok (.invokevirtual 66, 3) := by decide +kernel
theorem dL_law_518 : decode cL_law 518 = .ok (.pop, 1) := by decide +kernel
theorem dL_law_519 : decode cL_law 519 = .ok (.aload_n 2, 1) := by decide +kernel
theorem dL_law_520 : decode cL_law 520 = .ok (.aload_n 0, 1) := by decide +kernel
theorem dL_law_521 : decode cL_law 521 = .ok (.iload_n 3, 1) := by decide +kernel
theorem dL_law_522 : decode cL_law 522 = .ok (.iconst 1, 1) := by decide +kernel
theorem dL_law_523 : decode cL_law 523 = .ok (.iadd, 1) := by decide +kernel
theorem dL_law_524 : decode cL_law 524 = .ok (.iaload, 1) := by decide +kernel
theorem dL_law_525 : decode cL_law 525 = .ok (.aload_n 0, 1) := by decide +kernel
theorem dL_law_526 : decode cL_law 526 = .ok (.iload_n 3, 1) := by decide +kernel
theorem dL_law_527 : decode cL_law 527 = .ok (.iconst 2, 1) := by decide +kernel
theorem dL_law_528 : decode cL_law 528 = .ok (.iadd, 1) := by decide +kernel
theorem dL_law_529 : decode cL_law 529 = .ok (.iaload, 1) := by decide +kernel
theorem dL_law_530 : decode cL_law 530 = .ok (.invokevirtual 69, 3) := by decide +kernel
theorem dL_law_533 : decode cL_law 533 = .ok (.pop, 1) := by decide +kernel
theorem dL_law_534 : decode cL_law 534 = .ok (.goto 619, 3) := by decide +kernel
set_option maxHeartbeats 8000000 in
set_option maxRecDepth 100000 in
theorem lc_of {p : Program} {l : Launch} {e : Env} {s : State} {m : MethodId} {below : List Frame} {meth : Method} {c : Code} {b L : Nat} {xs : Nat → Int32} (hL : L ≤ 3072) (C0 : lw_At p s m meth c b L xs) (hN : tz_N s) (A : Nat → Prop) (hA : ∀ q : Nat, s.heap.size ≤ q → A q) (hA2 : ∀ q : Nat, A q → s.heap.size ≤ q) (hbA : ¬ A b) (hV : tz_V A s s.heap) (dC : Nat → ClassId) (dI : Nat → Nat → Nat) (o : Nat) (aw : Nat) (ai : Nat) (ak : Nat) (sc : Nat) (rd : Nat) (fo : Nat) (tx : Nat) (ar : Nat) (at_ : Nat) (ao : Nat) (w0 : Nat) (w1 : Nat) (w2 : Nat) (w3 : Nat) (w4 : Nat) (w5 : Nat) (sw : Nat) (sh : Nat) (mo : Nat) (nw : Nat) (kp : Nat) (ik : Nat) (mr : Nat) (mw : Nat) (mq : Nat) (mz : Nat) (my : Nat) (mb : Nat) (mx : Nat) (mv : Nat) (ad : Nat → Nat) (ab : Nat → Nat) (ai0 : Nat → Nat) (ai1 : Nat → Nat) (cw : ClassId) (cai : ClassId) (ck : ClassId) (csw : ClassId) (csh : ClassId) (ctx : ClassId) (cr : ClassId) (ct_ : ClassId) (co_ : ClassId) (cn_ : ClassId) (ck_ : ClassId) (ci_ : ClassId) (cr_ : ClassId) (cw_ : ClassId) (cs_ : ClassId) (cz_ : ClassId) (cy_ : ClassId) (cb2_ : ClassId) (cx_ : ClassId) (cv_ : ClassId) (cd : Nat → ClassId) (cb : Nat → ClassId) (ci0 : Nat → ClassId) (ci1 : Nat → ClassId) (hK : va_K (dC, dI) vwCl (tz_T cw cai ck csw csh ctx cr ct_ co_ cn_ ck_ ci_ cr_ cw_ cs_ cz_ cy_ cb2_ cx_ cv_ cd cb ci0 ci1) s) (i : Nat) (hi : i + 6 ≤ L) (H : Heap) (locs : List Loc) (hI : tz_I dC dI o aw ai ak sc rd fo tx ar at_ ao w0 w1 w2 w3 w4 w5 sw sh mo nw kp ik mr mw mq mz my mb mx mv ad ab ai0 ai1 cw cai ck csw csh ctx cr ct_ co_ cn_ ck_ ci_ cr_ cw_ cs_ cz_ cy_ cb2_ cx_ cv_ cd cb ci0 ci1 A H) (hS : va_S A s.heap H locs) (ls : Array Slot) (hl : lv_has ls 4 [(3, .int (nI i)), (2, .ref mo), (1, .ref o), (0, .ref b)]) (K : ∀ (H : Heap) (locs : List Loc) (ls : Array Slot), tz_I dC dI o aw ai ak sc rd fo tx ar at_ ao w0 w1 w2 w3 w4 w5 sw sh mo nw kp ik mr mw mq mz my mb mx mv ad ab ai0 ai1 cw cai ck csw csh ctx cr ct_ co_ cn_ ck_ ci_ cr_ cw_ cs_ cz_ cy_ cb2_ cx_ cv_ cd cb ci0 ci1 A H → va_S A s.heap H locs → lv_has ls 4 [(3, .int (nI i)), (2, .ref mo), (1, .ref o), (0, .ref b)] → W p l e room_1 s m #[Value.ref b] below meth c H locs 136 3195 (lw_Z below #[Value.ref b] s) (F0 m 1153 ls [])) : W p l e room_1 s m #[Value.ref b] below meth c H locs 136 3195 (lw_Z below #[Value.ref b] s) (F0 m 504 ls []) := by
  obtain ⟨hx, hb, hr, hml, hown, hts, hX, hbl, hlocks, hgv⟩ := C0
  have hb : c.code = cL_law := hb
  have hown : s.vm.findClass RL = some m.cls := hown
  obtain ⟨ty, fr, fk, fx, ft_, fo_, fw, fh, la, lb, rt, nl_, np_, nk_, ns_, nv_, ni_, nf_, ud, zd, fd, ub, zb, fb, ui0, zi0, fi0, ui1, zi1, fi1, la_, lb_, lc_, ti_, cb_, ld_, le_, sm_, jb, ta_, tl_, tk_, vl_, fn, fk_, fi_, fr_, fw_, fs_, fz_, fb_, fy_, fx_, fv_, hB_d, hB_b, hB_i0, hB_i1, hO_n, hO_k, hO_x, hO_b, hP, hD⟩ := hI
  have hu_zd := hB_d.2
  have hu_zb := hB_b.2
  have hu_zi0 := hB_i0.2
  have hu_zi1 := hB_i1.2
  refine lv_aload_n hx hb dL_law_504 rfl (lv_at hl 2 rfl) ?_
  refine lv_aload_n hx hb dL_law_505 rfl (lv_at hl 3 rfl) ?_
  refine lv_iload_n hx hb dL_law_506 rfl (lv_at hl 0 rfl) ?_
  refine lv_iconst (v := 1) hx hb dL_law_507 (by decide) ?_
  refine lv_iadd hx hb dL_law_508 ?_
  refine tz_i (nI (i + 1)) (nI_add i 1) ?_
  refine va_sld hx hb hX hbl hbA hS (vp_in_nI (n := (i + 1)) (N := L) (by omega) (by omega)) dL_law_509 ?_
  refine tz_i (xs (i + 1)) (congrArg xs (nI_clamp (by omega))) ?_
  refine lv_aload_n hx hb dL_law_510 rfl (lv_at hl 3 rfl) ?_
  refine lv_iload_n hx hb dL_law_511 rfl (lv_at hl 0 rfl) ?_
  refine lv_iconst (v := 2) hx hb dL_law_512 (by decide) ?_
  refine lv_iadd hx hb dL_law_513 ?_
  refine tz_i (nI (i + 2)) (nI_add i 2) ?_
  refine va_sld hx hb hX hbl hbA hS (vp_in_nI (n := (i + 2)) (N := L) (by omega) (by omega)) dL_law_514 ?_
  refine tz_i (xs (i + 2)) (congrArg xs (nI_clamp (by omega))) ?_
  have hPc := hP.sub (ws' := [(o, .inr (11, [.ref aw, .ref (ab 0), .ref ai, .ref ak, .ref sc, .ref rd, .ref fo, .ref tx, .int ty, .ref ar, .ref at_, .ref ao])), (ar, .inl (cr, 3, .inl fr)), ((ab 0), .inr (0, [.ref (ab 1), .ref (ab 3), .ref (ab 5), .ref (ab 7), .ref (ab 9), .int (nI ub)])), ((ab 5), .inr (6, [.int 4, .int 8, .ref (ab 6), .int (nI (zb 2))])), ((ab 6), .inl ((cb 2), 32, .inl (fb 2)))]) [0, 1, 45, 50, 51] rfl
  have hDc := hD.sub (ws' := [(o, .inr (11, [.ref aw, .ref (ab 0), .ref ai, .ref ak, .ref sc, .ref rd, .ref fo, .ref tx, .int ty, .ref ar, .ref at_, .ref ao])), (ar, .inl (cr, 3, .inl fr)), ((ab 0), .inr (0, [.ref (ab 1), .ref (ab 3), .ref (ab 5), .ref (ab 7), .ref (ab 9), .int (nI ub)])), ((ab 5), .inr (6, [.int 4, .int 8, .ref (ab 6), .int (nI (zb 2))])), ((ab 6), .inl ((cb 2), 32, .inl (fb 2)))]) [0, 1, 45, 50, 51] (by decide) rfl
  have hKc := hK.sub (tys' := [(cr, .int), ((cb 2), .int)]) [0, 24] rfl
  have hFc := va_free (wc := [(o, .inr (11, [.ref aw, .ref (ab 0), .ref ai, .ref ak, .ref sc, .ref rd, .ref fo, .ref tx, .int ty, .ref ar, .ref at_, .ref ao])), (ar, .inl (cr, 3, .inl fr)), ((ab 0), .inr (0, [.ref (ab 1), .ref (ab 3), .ref (ab 5), .ref (ab 7), .ref (ab 9), .int (nI ub)])), ((ab 5), .inr (6, [.int 4, .int 8, .ref (ab 6), .int (nI (zb 2))])), ((ab 6), .inl ((cb 2), 32, .inl (fb 2)))]) hD hS hA [0, 1, 45, 50, 51] rfl
  refine va_calli (va_runV (As := [.int (xs (i + 1)), .int (xs (i + 2))]) (rest := []) ⟨hx, hb, hml, hown, hts⟩ (x_of l dC dI o aw ab ai ak sc rd fo tx ty ar at_ ao cr fr ub zb cb fb (xs (i + 1)) (xs (i + 2)) H.size ⟨hB_b.1, show ub ≤ 8 by omega⟩) (cwV 2 hts gL_law_X11_of rfl rfl rfl (by decide +kernel) ⟨Nat.le_of_ble_eq_true rfl, Nat.le_of_ble_eq_true rfl⟩) ⟨fun a U g mk q => by obtain ⟨q0, q1, qP, qK, qD⟩ := q; exact ⟨q0, q1, qP, va_K.moved (u := U) (U := U.calling g mk a) (Vm.Alike.refl U.vm) qK, qD⟩, va_recv hK hP (ci := 11) (q0 := 0) rfl rfl, fun U hU hW => ⟨rfl, by rw [hU], by rw [hU]; exact hPc, va_K.moved hW.alike hKc, hDc.weaken (fun _ _ _ _ => trivial)⟩⟩ rfl rfl hl.1 rfl (lv_room (Nat.le_of_ble_eq_true rfl)) dL_law_515 ⟨Nat.le_of_ble_eq_true rfl, Nat.le_of_ble_eq_true rfl⟩) hS (fun q _ h => hFc q h) hFc (fun r_1 u_ t H1 locs ht hvm hw_2 hB hz1 hk1 hS => ?_)
  obtain ⟨gr_3, hP1, hK1, hD1⟩ := hB
  rw [ht] at hP1
  have hK1 := va_K.moved hvm.symm hK1
  obtain ⟨hP, hD⟩ := tz_put (ws' := (tz_XW o aw ai ak sc rd fo tx ar at_ ao w0 w1 w2 w3 w4 w5 sw sh mo nw kp ik mr mw mq mz my mb mx mv ad ab ai0 ai1 cw cai ck csw csh ctx cr ct_ co_ cn_ ck_ ci_ cr_ cw_ cs_ cz_ cy_ cb2_ cx_ cv_ cd cb ci0 ci1 ty gr_3 fk fx ft_ fo_ fw fh la lb rt nl_ np_ nk_ ns_ nv_ ni_ nf_ ud zd fd ub zb fb ui0 zi0 fi0 ui1 zi1 fi1 la_ lb_ lc_ ti_ cb_ ld_ le_ sm_ jb ta_ tl_ tk_ vl_ fn fk_ fi_ fr_ fw_ fs_ fz_ fb_ fy_ fx_ fv_)) hP hD [0, 1, 45, 50, 51] rfl hk1 hP1 rfl rfl rfl
  generalize H1 = H at hP hS ⊢
  refine lv_pop hx hb dL_law_518 rfl ?_
  refine lv_aload_n hx hb dL_law_519 rfl (lv_at hl 1 rfl) ?_
  refine lv_aload_n hx hb dL_law_520 rfl (lv_at hl 3 rfl) ?_
  refine lv_iload_n hx hb dL_law_521 rfl (lv_at hl 0 rfl) ?_
  refine lv_iconst (v := 1) hx hb dL_law_522 (by decide) ?_
  refine lv_iadd hx hb dL_law_523 ?_
  refine tz_i (nI (i + 1)) (nI_add i 1) ?_
  refine va_sld hx hb hX hbl hbA hS (vp_in_nI (n := (i + 1)) (N := L) (by omega) (by omega)) dL_law_524 ?_
  refine tz_i (xs (i + 1)) (congrArg xs (nI_clamp (by omega))) ?_
  refine lv_aload_n hx hb dL_law_525 rfl (lv_at hl 3 rfl) ?_
  refine lv_iload_n hx hb dL_law_526 rfl (lv_at hl 0 rfl) ?_
  refine lv_iconst (v := 2) hx hb dL_law_527 (by decide) ?_
  refine lv_iadd hx hb dL_law_528 ?_
  refine tz_i (nI (i + 2)) (nI_add i 2) ?_
  refine va_sld hx hb hX hbl hbA hS (vp_in_nI (n := (i + 2)) (N := L) (by omega) (by omega)) dL_law_529 ?_
  refine tz_i (xs (i + 2)) (congrArg xs (nI_clamp (by omega))) ?_
  have hPc := hP.sub (ws' := [(mo, .inr (12, [.ref nw, .ref kp, .ref ik, .ref mr, .long la_, .long lb_, .ref mw, .long lc_, .int ti_, .int cb_, .long ld_, .long le_, .ref mq, .ref mz, .ref my, .int sm_, .ref mb, .int (nI jb), .int ta_, .int tl_, .int tk_, .int vl_, .ref mx, .ref mv])), (nw, .inl (cn_, 350, .inl fn)), (mr, .inl (cr_, 3, .inl fr_))]) [123, 124, 127] rfl
  have hDc := hD.sub (ws' := [(mo, .inr (12, [.ref nw, .ref kp, .ref ik, .ref mr, .long la_, .long lb_, .ref mw, .long lc_, .int ti_, .int cb_, .long ld_, .long le_, .ref mq, .ref mz, .ref my, .int sm_, .ref mb, .int (nI jb), .int ta_, .int tl_, .int tk_, .int vl_, .ref mx, .ref mv])), (nw, .inl (cn_, 350, .inl fn)), (mr, .inl (cr_, 3, .inl fr_))]) [123, 124, 127] (by decide) rfl
  have hKc := hK.sub (tys' := [(cn_, .int), (cr_, .int)]) [61, 64] rfl
  have hFc := va_free (wc := [(mo, .inr (12, [.ref nw, .ref kp, .ref ik, .ref mr, .long la_, .long lb_, .ref mw, .long lc_, .int ti_, .int cb_, .long ld_, .long le_, .ref mq, .ref mz, .ref my, .int sm_, .ref mb, .int (nI jb), .int ta_, .int tl_, .int tk_, .int vl_, .ref mx, .ref mv])), (nw, .inl (cn_, 350, .inl fn)), (mr, .inl (cr_, 3, .inl fr_))]) hD hS hA [123, 124, 127] rfl
  refine va_calli (va_runV (As := [.int (xs (i + 1)), .int (xs (i + 2))]) (rest := []) ⟨hx, hb, hml, hown, hts⟩ (m_of l dC dI mo nw kp ik mr la_ lb_ mw lc_ ti_ cb_ ld_ le_ mq mz my sm_ mb (nI jb) ta_ tl_ tk_ vl_ mx mv cn_ fn cr_ fr_ (xs (i + 1)) (xs (i + 2)) H.size hO_n) (cwV 2 hts gL_law_X12_of rfl rfl rfl (by decide +kernel) ⟨Nat.le_of_ble_eq_true rfl, Nat.le_of_ble_eq_true rfl⟩) ⟨fun a U g mk q => by obtain ⟨q0, q1, qP, qK, qD⟩ := q; exact ⟨q0, q1, qP, va_K.moved (u := U) (U := U.calling g mk a) (Vm.Alike.refl U.vm) qK, qD⟩, va_recv hK hP (ci := 12) (q0 := 123) rfl rfl, fun U hU hW => ⟨rfl, by rw [hU], by rw [hU]; exact hPc, va_K.moved hW.alike hKc, hDc.weaken (fun _ _ _ _ => trivial)⟩⟩ rfl rfl hl.1 rfl (lv_room (Nat.le_of_ble_eq_true rfl)) dL_law_530 ⟨Nat.le_of_ble_eq_true rfl, Nat.le_of_ble_eq_true rfl⟩) hS (fun q _ h => hFc q h) hFc (fun r_4 u_ t H1 locs ht hvm hw_5 hB hz1 hk1 hS => ?_)
  obtain ⟨gr__6, hP1, hK1, hD1⟩ := hB
  rw [ht] at hP1
  have hK1 := va_K.moved hvm.symm hK1
  obtain ⟨hP, hD⟩ := tz_put (ws' := (tz_XW o aw ai ak sc rd fo tx ar at_ ao w0 w1 w2 w3 w4 w5 sw sh mo nw kp ik mr mw mq mz my mb mx mv ad ab ai0 ai1 cw cai ck csw csh ctx cr ct_ co_ cn_ ck_ ci_ cr_ cw_ cs_ cz_ cy_ cb2_ cx_ cv_ cd cb ci0 ci1 ty gr_3 fk fx ft_ fo_ fw fh la lb rt nl_ np_ nk_ ns_ nv_ ni_ nf_ ud zd fd ub zb fb ui0 zi0 fi0 ui1 zi1 fi1 la_ lb_ lc_ ti_ cb_ ld_ le_ sm_ jb ta_ tl_ tk_ vl_ fn fk_ fi_ gr__6 fw_ fs_ fz_ fb_ fy_ fx_ fv_)) hP hD [123, 124, 127] rfl hk1 hP1 rfl rfl rfl
  generalize H1 = H at hP hS ⊢
  refine lv_pop hx hb dL_law_533 rfl ?_
  refine lv_goto (tgt := 1153) hx hb dL_law_534 (by decide) ?_
  exact K H _ ls ⟨ty, gr_3, fk, fx, ft_, fo_, fw, fh, la, lb, rt, nl_, np_, nk_, ns_, nv_, ni_, nf_, ud, zd, fd, ub, zb, fb, ui0, zi0, fi0, ui1, zi1, fi1, la_, lb_, lc_, ti_, cb_, ld_, le_, sm_, jb, ta_, tl_, tk_, vl_, fn, fk_, fi_, gr__6, fw_, fs_, fz_, fb_, fy_, fx_, fv_, hB_d, hB_b, hB_i0, hB_i1, hO_n, hO_k, hO_x, hO_b, hP, hD⟩ hS hl
set_option maxRecDepth 20000 in
theorem gL_law_X11_about : GoodIn lw_tbl (wsV RL 70 RX11 yX11_about wsX11_about) := tz_good [(28, 14), (28, 15), (28, 16), (0, 2), (28, 17), (1, 10), (5, 20), (10, 4), (10, 5), (10, 6), (3, 4), (10, 7), (3, 15), (7, 4), (7, 5), (0, 2), (7, 6), (7, 11), (7, 12), (7, 13), (7, 14), (2, 6), (10, 8), (10, 9), (10, 10), (10, 11), (3, 22), (3, 21), (8, 8), (8, 9), (8, 10), (8, 11), (28, 18), (28, 19), (28, 20), (1, 9), (28, 21), (3, 7), (28, 22), (5, 22), (5, 23), (6, 0), (28, 23), (46, 0), (46, 1), (46, 2), (46, 3), (46, 4), (46, 5), (46, 6), (46, 7), (46, 8), (46, 9), (46, 10), (46, 11), (54, 0), (54, 1), (54, 2), (54, 3), (54, 4), (54, 5), (58, 0), (58, 1), (58, 2), (58, 3)] (by decide +kernel) (by decide +kernel)
set_option maxRecDepth 20000 in
theorem gL_law_X12_about : GoodIn lw_tbl (wsV RL 73 RX12 yX12_about wsX12_about) := tz_good [(29, 0), (29, 1), (29, 2), (0, 5), (29, 3), (29, 4), (5, 4), (10, 20), (10, 21), (10, 22), (0, 5), (10, 23), (8, 17), (8, 18), (8, 19), (8, 20), (8, 21), (8, 22), (8, 23), (5, 7), (11, 4), (11, 5), (11, 6), (11, 7), (28, 10), (28, 11), (28, 12), (28, 13), (47, 0), (47, 1), (47, 2), (47, 3), (47, 4), (47, 5), (47, 6), (47, 7), (47, 8), (47, 9), (47, 10), (47, 11), (47, 12), (47, 13), (47, 14), (47, 15), (47, 16), (47, 17), (47, 18), (47, 19), (47, 20), (47, 21), (47, 22), (47, 23)] (by decide +kernel) (by decide +kernel)
theorem dL_law_537 : decode cL_law 537 = .ok (.aload_n 1, 1) := by decide +kernel
theorem dL_law_538 : decode cL_law 538 = .ok (.aload_n 0, 1) := by decide +kernel
theorem dL_law_539 : decode cL_law 539 = .ok (.iload_n 3, 1) := by decide +kernel
theorem dL_law_540 : decode cL_law 540 = .ok (.iconst 1, 1) := by decide +kernel
theorem dL_law_541 : decode cL_law 541 = .ok (.iadd, 1) := by decide +kernel
theorem dL_law_542 : decode cL_law 542 = .ok (.iaload, 1) := by decide +kernel
theorem dL_law_543 : decode cL_law 543 = .ok (.aload_n 0, 1) := by decide +kernel
theorem dL_law_544 : decode cL_law 544 = .ok (.iload_n 3, 1) := by decide +kernel
theorem dL_law_545 : decode cL_law 545 = .ok (.iconst 2, 1) := by decide +kernel
theorem dL_law_546 : decode cL_law 546 = .ok (.iadd, 1) := by decide +kernel
theorem dL_law_547 : decode cL_law 547 = .ok (.iaload, 1) := by decide +kernel
theorem dL_law_548 : decode cL_law 548 = .ok (.invokevirtual 70, 3) := by decide +kernel
theorem dL_law_551 : decode cL_law 551 = .ok (.pop, 1) := by decide +kernel
theorem dL_law_552 : decode cL_law 552 = .ok (.aload_n 2, 1) := by decide +kernel
theorem dL_law_553 : decode cL_law 553 = .ok (.aload_n 0, 1) := by decide +kernel
theorem dL_law_554 : decode cL_law 554 = .ok (.iload_n 3, 1) := by decide +kernel
theorem dL_law_555 : decode cL_law 555 = .ok (.iconst 1, 1) := by decide +kernel
theorem dL_law_556 : decode cL_law 556 = .ok (.iadd, 1) := by decide +kernel
theorem dL_law_557 : decode cL_law 557 = .ok (.iaload, 1) := by decide +kernel
theorem dL_law_558 : decode cL_law 558 = .ok (.aload_n 0, 1) := by decide +kernel
theorem dL_law_559 : decode cL_law 559 = .ok (.iload_n 3, 1) := by decide +kernel
theorem dL_law_560 : decode cL_law 560 = .ok (.iconst 2, 1) := by decide +kernel
theorem dL_law_561 : decode cL_law 561 = .ok (.iadd, 1) := by decide +kernel
theorem dL_law_562 : decode cL_law 562 = .ok (.iaload, 1) := by decide +kernel
theorem dL_law_563 : decode cL_law 563 = .ok (.invokevirtual 73, 3) := by decide +kernel
theorem dL_law_566 : decode cL_law 566 = .ok (.pop, 1) := by decide +kernel
theorem dL_law_567 : decode cL_law 567 = .ok (.goto 586, 3) := by decide +kernel
set_option maxHeartbeats 8000000 in
set_option maxRecDepth 100000 in
theorem lc_about {p : Program} {l : Launch} {e : Env} {s : State} {m : MethodId} {below : List Frame} {meth : Method} {c : Code} {b L : Nat} {xs : Nat → Int32} (hL : L ≤ 3072) (C0 : lw_At p s m meth c b L xs) (hN : tz_N s) (A : Nat → Prop) (hA : ∀ q : Nat, s.heap.size ≤ q → A q) (hA2 : ∀ q : Nat, A q → s.heap.size ≤ q) (hbA : ¬ A b) (hV : tz_V A s s.heap) (dC : Nat → ClassId) (dI : Nat → Nat → Nat) (o : Nat) (aw : Nat) (ai : Nat) (ak : Nat) (sc : Nat) (rd : Nat) (fo : Nat) (tx : Nat) (ar : Nat) (at_ : Nat) (ao : Nat) (w0 : Nat) (w1 : Nat) (w2 : Nat) (w3 : Nat) (w4 : Nat) (w5 : Nat) (sw : Nat) (sh : Nat) (mo : Nat) (nw : Nat) (kp : Nat) (ik : Nat) (mr : Nat) (mw : Nat) (mq : Nat) (mz : Nat) (my : Nat) (mb : Nat) (mx : Nat) (mv : Nat) (ad : Nat → Nat) (ab : Nat → Nat) (ai0 : Nat → Nat) (ai1 : Nat → Nat) (cw : ClassId) (cai : ClassId) (ck : ClassId) (csw : ClassId) (csh : ClassId) (ctx : ClassId) (cr : ClassId) (ct_ : ClassId) (co_ : ClassId) (cn_ : ClassId) (ck_ : ClassId) (ci_ : ClassId) (cr_ : ClassId) (cw_ : ClassId) (cs_ : ClassId) (cz_ : ClassId) (cy_ : ClassId) (cb2_ : ClassId) (cx_ : ClassId) (cv_ : ClassId) (cd : Nat → ClassId) (cb : Nat → ClassId) (ci0 : Nat → ClassId) (ci1 : Nat → ClassId) (hK : va_K (dC, dI) vwCl (tz_T cw cai ck csw csh ctx cr ct_ co_ cn_ ck_ ci_ cr_ cw_ cs_ cz_ cy_ cb2_ cx_ cv_ cd cb ci0 ci1) s) (i : Nat) (hi : i + 6 ≤ L) (H : Heap) (locs : List Loc) (hI : tz_I dC dI o aw ai ak sc rd fo tx ar at_ ao w0 w1 w2 w3 w4 w5 sw sh mo nw kp ik mr mw mq mz my mb mx mv ad ab ai0 ai1 cw cai ck csw csh ctx cr ct_ co_ cn_ ck_ ci_ cr_ cw_ cs_ cz_ cy_ cb2_ cx_ cv_ cd cb ci0 ci1 A H) (hS : va_S A s.heap H locs) (ls : Array Slot) (hl : lv_has ls 4 [(3, .int (nI i)), (2, .ref mo), (1, .ref o), (0, .ref b)]) (K : ∀ (H : Heap) (locs : List Loc) (ls : Array Slot), tz_I dC dI o aw ai ak sc rd fo tx ar at_ ao w0 w1 w2 w3 w4 w5 sw sh mo nw kp ik mr mw mq mz my mb mx mv ad ab ai0 ai1 cw cai ck csw csh ctx cr ct_ co_ cn_ ck_ ci_ cr_ cw_ cs_ cz_ cy_ cb2_ cx_ cv_ cd cb ci0 ci1 A H → va_S A s.heap H locs → lv_has ls 4 [(3, .int (nI i)), (2, .ref mo), (1, .ref o), (0, .ref b)] → W p l e room_1 s m #[Value.ref b] below meth c H locs 136 3195 (lw_Z below #[Value.ref b] s) (F0 m 1153 ls [])) : W p l e room_1 s m #[Value.ref b] below meth c H locs 136 3195 (lw_Z below #[Value.ref b] s) (F0 m 537 ls []) := by
  obtain ⟨hx, hb, hr, hml, hown, hts, hX, hbl, hlocks, hgv⟩ := C0
  have hb : c.code = cL_law := hb
  have hown : s.vm.findClass RL = some m.cls := hown
  obtain ⟨ty, fr, fk, fx, ft_, fo_, fw, fh, la, lb, rt, nl_, np_, nk_, ns_, nv_, ni_, nf_, ud, zd, fd, ub, zb, fb, ui0, zi0, fi0, ui1, zi1, fi1, la_, lb_, lc_, ti_, cb_, ld_, le_, sm_, jb, ta_, tl_, tk_, vl_, fn, fk_, fi_, fr_, fw_, fs_, fz_, fb_, fy_, fx_, fv_, hB_d, hB_b, hB_i0, hB_i1, hO_n, hO_k, hO_x, hO_b, hP, hD⟩ := hI
  have hu_zd := hB_d.2
  have hu_zb := hB_b.2
  have hu_zi0 := hB_i0.2
  have hu_zi1 := hB_i1.2
  refine lv_aload_n hx hb dL_law_537 rfl (lv_at hl 2 rfl) ?_
  refine lv_aload_n hx hb dL_law_538 rfl (lv_at hl 3 rfl) ?_
  refine lv_iload_n hx hb dL_law_539 rfl (lv_at hl 0 rfl) ?_
  refine lv_iconst (v := 1) hx hb dL_law_540 (by decide) ?_
  refine lv_iadd hx hb dL_law_541 ?_
  refine tz_i (nI (i + 1)) (nI_add i 1) ?_
  refine va_sld hx hb hX hbl hbA hS (vp_in_nI (n := (i + 1)) (N := L) (by omega) (by omega)) dL_law_542 ?_
  refine tz_i (xs (i + 1)) (congrArg xs (nI_clamp (by omega))) ?_
  refine lv_aload_n hx hb dL_law_543 rfl (lv_at hl 3 rfl) ?_
  refine lv_iload_n hx hb dL_law_544 rfl (lv_at hl 0 rfl) ?_
  refine lv_iconst (v := 2) hx hb dL_law_545 (by decide) ?_
  refine lv_iadd hx hb dL_law_546 ?_
  refine tz_i (nI (i + 2)) (nI_add i 2) ?_
  refine va_sld hx hb hX hbl hbA hS (vp_in_nI (n := (i + 2)) (N := L) (by omega) (by omega)) dL_law_547 ?_
  refine tz_i (xs (i + 2)) (congrArg xs (nI_clamp (by omega))) ?_
  have hPc := hP.sub (ws' := [(o, .inr (11, [.ref aw, .ref (ab 0), .ref ai, .ref ak, .ref sc, .ref rd, .ref fo, .ref tx, .int ty, .ref ar, .ref at_, .ref ao])), (ar, .inl (cr, 3, .inl fr)), ((ab 0), .inr (0, [.ref (ab 1), .ref (ab 3), .ref (ab 5), .ref (ab 7), .ref (ab 9), .int (nI ub)])), ((ab 3), .inr (6, [.int 4, .int 5, .ref (ab 4), .int (nI (zb 1))])), ((ab 4), .inl ((cb 1), 20, .inl (fb 1))), ((ab 5), .inr (6, [.int 4, .int 8, .ref (ab 6), .int (nI (zb 2))])), ((ab 6), .inl ((cb 2), 32, .inl (fb 2)))]) [0, 1, 45, 48, 49, 50, 51] rfl
  have hDc := hD.sub (ws' := [(o, .inr (11, [.ref aw, .ref (ab 0), .ref ai, .ref ak, .ref sc, .ref rd, .ref fo, .ref tx, .int ty, .ref ar, .ref at_, .ref ao])), (ar, .inl (cr, 3, .inl fr)), ((ab 0), .inr (0, [.ref (ab 1), .ref (ab 3), .ref (ab 5), .ref (ab 7), .ref (ab 9), .int (nI ub)])), ((ab 3), .inr (6, [.int 4, .int 5, .ref (ab 4), .int (nI (zb 1))])), ((ab 4), .inl ((cb 1), 20, .inl (fb 1))), ((ab 5), .inr (6, [.int 4, .int 8, .ref (ab 6), .int (nI (zb 2))])), ((ab 6), .inl ((cb 2), 32, .inl (fb 2)))]) [0, 1, 45, 48, 49, 50, 51] (by decide) rfl
  have hKc := hK.sub (tys' := [(cr, .int), ((cb 1), .int), ((cb 2), .int)]) [0, 23, 24] rfl
  have hFc := va_free (wc := [(o, .inr (11, [.ref aw, .ref (ab 0), .ref ai, .ref ak, .ref sc, .ref rd, .ref fo, .ref tx, .int ty, .ref ar, .ref at_, .ref ao])), (ar, .inl (cr, 3, .inl fr)), ((ab 0), .inr (0, [.ref (ab 1), .ref (ab 3), .ref (ab 5), .ref (ab 7), .ref (ab 9), .int (nI ub)])), ((ab 3), .inr (6, [.int 4, .int 5, .ref (ab 4), .int (nI (zb 1))])), ((ab 4), .inl ((cb 1), 20, .inl (fb 1))), ((ab 5), .inr (6, [.int 4, .int 8, .ref (ab 6), .int (nI (zb 2))])), ((ab 6), .inl ((cb 2), 32, .inl (fb 2)))]) hD hS hA [0, 1, 45, 48, 49, 50, 51] rfl
  refine va_calli (va_runV (As := [.int (xs (i + 1)), .int (xs (i + 2))]) (rest := []) ⟨hx, hb, hml, hown, hts⟩ (x_about l dC dI o aw ab ai ak sc rd fo tx ty ar at_ ao cr fr ub zb cb fb (xs (i + 1)) (xs (i + 2)) H.size ⟨hB_b.1, show ub ≤ 8 by omega⟩) (cwV 2 hts gL_law_X11_about rfl rfl rfl (by decide +kernel) ⟨Nat.le_of_ble_eq_true rfl, Nat.le_of_ble_eq_true rfl⟩) ⟨fun a U g mk q => by obtain ⟨q0, q1, qP, qK, qD⟩ := q; exact ⟨q0, q1, qP, va_K.moved (u := U) (U := U.calling g mk a) (Vm.Alike.refl U.vm) qK, qD⟩, va_recv hK hP (ci := 11) (q0 := 0) rfl rfl, fun U hU hW => ⟨rfl, by rw [hU], by rw [hU]; exact hPc, va_K.moved hW.alike hKc, hDc.weaken (fun _ _ _ _ => trivial)⟩⟩ rfl rfl hl.1 rfl (lv_room (Nat.le_of_ble_eq_true rfl)) dL_law_548 ⟨Nat.le_of_ble_eq_true rfl, Nat.le_of_ble_eq_true rfl⟩) hS (fun q _ h => hFc q h) hFc (fun r_1 u_ t H1 locs ht hvm hw_2 hB hz1 hk1 hS => ?_)
  obtain ⟨gr_3, hP1, hK1, hD1⟩ := hB
  rw [ht] at hP1
  have hK1 := va_K.moved hvm.symm hK1
  obtain ⟨hP, hD⟩ := tz_put (ws' := (tz_XW o aw ai ak sc rd fo tx ar at_ ao w0 w1 w2 w3 w4 w5 sw sh mo nw kp ik mr mw mq mz my mb mx mv ad ab ai0 ai1 cw cai ck csw csh ctx cr ct_ co_ cn_ ck_ ci_ cr_ cw_ cs_ cz_ cy_ cb2_ cx_ cv_ cd cb ci0 ci1 ty gr_3 fk fx ft_ fo_ fw fh la lb rt nl_ np_ nk_ ns_ nv_ ni_ nf_ ud zd fd ub zb fb ui0 zi0 fi0 ui1 zi1 fi1 la_ lb_ lc_ ti_ cb_ ld_ le_ sm_ jb ta_ tl_ tk_ vl_ fn fk_ fi_ fr_ fw_ fs_ fz_ fb_ fy_ fx_ fv_)) hP hD [0, 1, 45, 48, 49, 50, 51] rfl hk1 hP1 rfl rfl rfl
  generalize H1 = H at hP hS ⊢
  refine lv_pop hx hb dL_law_551 rfl ?_
  refine lv_aload_n hx hb dL_law_552 rfl (lv_at hl 1 rfl) ?_
  refine lv_aload_n hx hb dL_law_553 rfl (lv_at hl 3 rfl) ?_
  refine lv_iload_n hx hb dL_law_554 rfl (lv_at hl 0 rfl) ?_
  refine lv_iconst (v := 1) hx hb dL_law_555 (by decide) ?_
  refine lv_iadd hx hb dL_law_556 ?_
  refine tz_i (nI (i + 1)) (nI_add i 1) ?_
  refine va_sld hx hb hX hbl hbA hS (vp_in_nI (n := (i + 1)) (N := L) (by omega) (by omega)) dL_law_557 ?_
  refine tz_i (xs (i + 1)) (congrArg xs (nI_clamp (by omega))) ?_
  refine lv_aload_n hx hb dL_law_558 rfl (lv_at hl 3 rfl) ?_
  refine lv_iload_n hx hb dL_law_559 rfl (lv_at hl 0 rfl) ?_
  refine lv_iconst (v := 2) hx hb dL_law_560 (by decide) ?_
  refine lv_iadd hx hb dL_law_561 ?_
  refine tz_i (nI (i + 2)) (nI_add i 2) ?_
  refine va_sld hx hb hX hbl hbA hS (vp_in_nI (n := (i + 2)) (N := L) (by omega) (by omega)) dL_law_562 ?_
  refine tz_i (xs (i + 2)) (congrArg xs (nI_clamp (by omega))) ?_
  have hPc := hP.sub (ws' := [(mo, .inr (12, [.ref nw, .ref kp, .ref ik, .ref mr, .long la_, .long lb_, .ref mw, .long lc_, .int ti_, .int cb_, .long ld_, .long le_, .ref mq, .ref mz, .ref my, .int sm_, .ref mb, .int (nI jb), .int ta_, .int tl_, .int tk_, .int vl_, .ref mx, .ref mv])), (nw, .inl (cn_, 350, .inl fn)), (mr, .inl (cr_, 3, .inl fr_))]) [123, 124, 127] rfl
  have hDc := hD.sub (ws' := [(mo, .inr (12, [.ref nw, .ref kp, .ref ik, .ref mr, .long la_, .long lb_, .ref mw, .long lc_, .int ti_, .int cb_, .long ld_, .long le_, .ref mq, .ref mz, .ref my, .int sm_, .ref mb, .int (nI jb), .int ta_, .int tl_, .int tk_, .int vl_, .ref mx, .ref mv])), (nw, .inl (cn_, 350, .inl fn)), (mr, .inl (cr_, 3, .inl fr_))]) [123, 124, 127] (by decide) rfl
  have hKc := hK.sub (tys' := [(cn_, .int), (cr_, .int)]) [61, 64] rfl
  have hFc := va_free (wc := [(mo, .inr (12, [.ref nw, .ref kp, .ref ik, .ref mr, .long la_, .long lb_, .ref mw, .long lc_, .int ti_, .int cb_, .long ld_, .long le_, .ref mq, .ref mz, .ref my, .int sm_, .ref mb, .int (nI jb), .int ta_, .int tl_, .int tk_, .int vl_, .ref mx, .ref mv])), (nw, .inl (cn_, 350, .inl fn)), (mr, .inl (cr_, 3, .inl fr_))]) hD hS hA [123, 124, 127] rfl
  refine va_calli (va_runV (As := [.int (xs (i + 1)), .int (xs (i + 2))]) (rest := []) ⟨hx, hb, hml, hown, hts⟩ (m_about l dC dI mo nw kp ik mr la_ lb_ mw lc_ ti_ cb_ ld_ le_ mq mz my sm_ mb (nI jb) ta_ tl_ tk_ vl_ mx mv cn_ fn cr_ fr_ (xs (i + 1)) (xs (i + 2)) H.size hO_n) (cwV 2 hts gL_law_X12_about rfl rfl rfl (by decide +kernel) ⟨Nat.le_of_ble_eq_true rfl, Nat.le_of_ble_eq_true rfl⟩) ⟨fun a U g mk q => by obtain ⟨q0, q1, qP, qK, qD⟩ := q; exact ⟨q0, q1, qP, va_K.moved (u := U) (U := U.calling g mk a) (Vm.Alike.refl U.vm) qK, qD⟩, va_recv hK hP (ci := 12) (q0 := 123) rfl rfl, fun U hU hW => ⟨rfl, by rw [hU], by rw [hU]; exact hPc, va_K.moved hW.alike hKc, hDc.weaken (fun _ _ _ _ => trivial)⟩⟩ rfl rfl hl.1 rfl (lv_room (Nat.le_of_ble_eq_true rfl)) dL_law_563 ⟨Nat.le_of_ble_eq_true rfl, Nat.le_of_ble_eq_true rfl⟩) hS (fun q _ h => hFc q h) hFc (fun r_4 u_ t H1 locs ht hvm hw_5 hB hz1 hk1 hS => ?_)
  obtain ⟨gr__6, hP1, hK1, hD1⟩ := hB
  rw [ht] at hP1
  have hK1 := va_K.moved hvm.symm hK1
  obtain ⟨hP, hD⟩ := tz_put (ws' := (tz_XW o aw ai ak sc rd fo tx ar at_ ao w0 w1 w2 w3 w4 w5 sw sh mo nw kp ik mr mw mq mz my mb mx mv ad ab ai0 ai1 cw cai ck csw csh ctx cr ct_ co_ cn_ ck_ ci_ cr_ cw_ cs_ cz_ cy_ cb2_ cx_ cv_ cd cb ci0 ci1 ty gr_3 fk fx ft_ fo_ fw fh la lb rt nl_ np_ nk_ ns_ nv_ ni_ nf_ ud zd fd ub zb fb ui0 zi0 fi0 ui1 zi1 fi1 la_ lb_ lc_ ti_ cb_ ld_ le_ sm_ jb ta_ tl_ tk_ vl_ fn fk_ fi_ gr__6 fw_ fs_ fz_ fb_ fy_ fx_ fv_)) hP hD [123, 124, 127] rfl hk1 hP1 rfl rfl rfl
  generalize H1 = H at hP hS ⊢
  refine lv_pop hx hb dL_law_566 rfl ?_
  refine lv_goto (tgt := 1153) hx hb dL_law_567 (by decide) ?_
  exact K H _ ls ⟨ty, gr_3, fk, fx, ft_, fo_, fw, fh, la, lb, rt, nl_, np_, nk_, ns_, nv_, ni_, nf_, ud, zd, fd, ub, zb, fb, ui0, zi0, fi0, ui1, zi1, fi1, la_, lb_, lc_, ti_, cb_, ld_, le_, sm_, jb, ta_, tl_, tk_, vl_, fn, fk_, fi_, gr__6, fw_, fs_, fz_, fb_, fy_, fx_, fv_, hB_d, hB_b, hB_i0, hB_i1, hO_n, hO_k, hO_x, hO_b, hP, hD⟩ hS hl
set_option maxRecDepth 20000 in
theorem gL_law_X11_likely : GoodIn lw_tbl (wsV RL 74 RX11 yX11_likely wsX11_likely) := tz_good [(29, 5), (29, 6), (29, 7), (0, 2), (29, 8), (1, 10), (5, 20), (1, 17), (1, 6), (2, 1), (10, 4), (10, 5), (10, 6), (3, 4), (10, 7), (3, 15), (7, 4), (7, 5), (0, 2), (7, 6), (7, 7), (7, 8), (7, 9), (7, 10), (7, 11), (7, 12), (7, 13), (7, 14), (2, 6), (29, 9), (29, 10), (29, 11), (1, 16), (29, 12), (4, 3), (29, 13), (29, 14), (29, 15), (29, 16), (29, 17), (29, 18), (29, 19), (10, 9), (10, 10), (10, 11), (3, 22), (3, 21), (8, 8), (8, 9), (8, 10), (8, 11), (29, 20), (5, 22), (5, 23), (6, 0), (29, 21), (29, 22), (29, 23), (30, 0), (4, 4), (30, 1), (24, 1), (24, 2), (24, 3), (24, 4), (0, 17), (24, 5), (24, 6), (24, 7), (24, 2), (0, 14), (24, 9), (24, 10), (24, 11), (0, 23), (24, 12), (24, 13), (24, 14), (24, 15), (24, 16), (0, 20), (24, 17), (30, 1), (24, 19), (24, 20), (24, 21), (1, 5), (24, 22), (24, 23), (25, 0), (25, 1), (25, 2), (1, 2), (25, 3), (25, 4), (25, 5), (25, 6), (25, 7), (30, 3), (30, 4), (30, 5), (30, 6), (30, 7), (30, 8), (30, 9), (30, 10), (6, 9), (6, 10), (6, 11), (2, 0), (6, 12), (4, 22), (4, 23), (6, 13), (6, 14), (6, 15), (46, 0), (46, 1), (46, 2), (46, 3), (46, 4), (46, 5), (46, 6), (46, 7), (46, 8), (46, 9), (46, 10), (46, 11), (54, 0), (54, 1), (54, 2), (54, 3), (54, 4), (54, 5), (58, 0), (58, 1), (58, 2), (58, 3), (55, 0), (55, 1), (57, 0), (57, 1)] (by decide +kernel) (by decide +kernel)
set_option maxRecDepth 20000 in
theorem gL_law_X12_likely : GoodIn lw_tbl (wsV RL 77 RX12 yX12_likely wsX12_likely) := tz_good [(30, 11), (30, 12), (30, 13), (0, 5), (30, 14), (9, 19), (9, 20), (30, 15), (5, 9), (10, 20), (10, 21), (10, 22), (0, 5), (10, 23), (5, 4), (8, 17), (8, 18), (8, 19), (8, 20), (8, 21), (8, 22), (8, 23), (5, 7), (30, 16), (30, 17), (30, 18), (30, 19), (30, 20), (30, 21), (30, 22), (30, 23), (31, 0), (31, 1), (11, 4), (11, 5), (11, 6), (11, 7), (28, 10), (28, 11), (28, 12), (28, 13), (27, 1), (27, 2), (27, 3), (27, 4), (27, 5), (27, 6), (27, 7), (27, 8), (27, 9), (27, 10), (27, 11), (27, 12), (27, 13), (27, 14), (14, 19), (14, 20), (14, 21), (14, 22), (31, 2), (31, 3), (31, 4), (31, 5), (31, 6), (5, 8), (47, 0), (47, 1), (47, 2), (47, 3), (47, 4), (47, 5), (47, 6), (47, 7), (47, 8), (47, 9), (47, 10), (47, 11), (47, 12), (47, 13), (47, 14), (47, 15), (47, 16), (47, 17), (47, 18), (47, 19), (47, 20), (47, 21), (47, 22), (47, 23)] (by decide +kernel) (by decide +kernel)
theorem dL_law_570 : decode cL_law 570 = .ok (.aload_n 1, 1) := by decide +kernel
theorem dL_law_571 : decode cL_law 571 = .ok (.aload_n 0, 1) := by decide +kernel
theorem dL_law_572 : decode cL_law 572 = .ok (.iload_n 3, 1) := by decide +kernel
theorem dL_law_573 : decode cL_law 573 = .ok (.iconst 1, 1) := by decide +kernel
theorem dL_law_574 : decode cL_law 574 = .ok (.iadd, 1) := by decide +kernel
theorem dL_law_575 : decode cL_law 575 = .ok (.iaload, 1) := by decide +kernel
theorem dL_law_576 : decode cL_law 576 = .ok (.aload_n 0, 1) := by decide +kernel
theorem dL_law_577 : decode cL_law 577 = .ok (.iload_n 3, 1) := by decide +kernel
theorem dL_law_578 : decode cL_law 578 = .ok (.iconst 2, 1) := by decide +kernel
theorem dL_law_579 : decode cL_law 579 = .ok (.iadd, 1) := by decide +kernel
theorem dL_law_580 : decode cL_law 580 = .ok (.iaload, 1) := by decide +kernel
theorem dL_law_581 : decode cL_law 581 = .ok (.invokevirtual 74, 3) := by decide +kernel
theorem dL_law_584 : decode cL_law 584 = .ok (.pop, 1) := by decide +kernel
theorem dL_law_585 : decode cL_law 585 = .ok (.aload_n 2, 1) := by decide +kernel
theorem dL_law_586 : decode cL_law 586 = .ok (.aload_n 0, 1) := by decide +kernel
theorem dL_law_587 : decode cL_law 587 = .ok (.iload_n 3, 1) := by decide +kernel
theorem dL_law_588 : decode cL_law 588 = .ok (.iconst 1, 1) := by decide +kernel
theorem dL_law_589 : decode cL_law 589 = .ok (.iadd, 1) := by decide +kernel
theorem dL_law_590 : decode cL_law 590 = .ok (.iaload, 1) := by decide +kernel
theorem dL_law_591 : decode cL_law 591 = .ok (.aload_n 0, 1) := by decide +kernel
theorem dL_law_592 : decode cL_law 592 = .ok (.iload_n 3, 1) := by decide +kernel
theorem dL_law_593 : decode cL_law 593 = .ok (.iconst 2, 1) := by decide +kernel
theorem dL_law_594 : decode cL_law 594 = .ok (.iadd, 1) := by decide +kernel
theorem dL_law_595 : decode cL_law 595 = .ok (.iaload, 1) := by decide +kernel
theorem dL_law_596 : decode cL_law 596 = .ok (.invokevirtual 77, 3) := by decide +kernel
theorem dL_law_599 : decode cL_law 599 = .ok (.pop, 1) := by decide +kernel
theorem dL_law_600 : decode cL_law 600 = .ok (.goto 553, 3) := by decide +kernel
set_option maxHeartbeats 8000000 in
set_option maxRecDepth 100000 in
theorem lc_likely {p : Program} {l : Launch} {e : Env} {s : State} {m : MethodId} {below : List Frame} {meth : Method} {c : Code} {b L : Nat} {xs : Nat → Int32} (hL : L ≤ 3072) (C0 : lw_At p s m meth c b L xs) (hN : tz_N s) (A : Nat → Prop) (hA : ∀ q : Nat, s.heap.size ≤ q → A q) (hA2 : ∀ q : Nat, A q → s.heap.size ≤ q) (hbA : ¬ A b) (hV : tz_V A s s.heap) (dC : Nat → ClassId) (dI : Nat → Nat → Nat) (o : Nat) (aw : Nat) (ai : Nat) (ak : Nat) (sc : Nat) (rd : Nat) (fo : Nat) (tx : Nat) (ar : Nat) (at_ : Nat) (ao : Nat) (w0 : Nat) (w1 : Nat) (w2 : Nat) (w3 : Nat) (w4 : Nat) (w5 : Nat) (sw : Nat) (sh : Nat) (mo : Nat) (nw : Nat) (kp : Nat) (ik : Nat) (mr : Nat) (mw : Nat) (mq : Nat) (mz : Nat) (my : Nat) (mb : Nat) (mx : Nat) (mv : Nat) (ad : Nat → Nat) (ab : Nat → Nat) (ai0 : Nat → Nat) (ai1 : Nat → Nat) (cw : ClassId) (cai : ClassId) (ck : ClassId) (csw : ClassId) (csh : ClassId) (ctx : ClassId) (cr : ClassId) (ct_ : ClassId) (co_ : ClassId) (cn_ : ClassId) (ck_ : ClassId) (ci_ : ClassId) (cr_ : ClassId) (cw_ : ClassId) (cs_ : ClassId) (cz_ : ClassId) (cy_ : ClassId) (cb2_ : ClassId) (cx_ : ClassId) (cv_ : ClassId) (cd : Nat → ClassId) (cb : Nat → ClassId) (ci0 : Nat → ClassId) (ci1 : Nat → ClassId) (hK : va_K (dC, dI) vwCl (tz_T cw cai ck csw csh ctx cr ct_ co_ cn_ ck_ ci_ cr_ cw_ cs_ cz_ cy_ cb2_ cx_ cv_ cd cb ci0 ci1) s) (i : Nat) (hi : i + 6 ≤ L) (H : Heap) (locs : List Loc) (hI : tz_I dC dI o aw ai ak sc rd fo tx ar at_ ao w0 w1 w2 w3 w4 w5 sw sh mo nw kp ik mr mw mq mz my mb mx mv ad ab ai0 ai1 cw cai ck csw csh ctx cr ct_ co_ cn_ ck_ ci_ cr_ cw_ cs_ cz_ cy_ cb2_ cx_ cv_ cd cb ci0 ci1 A H) (hS : va_S A s.heap H locs) (ls : Array Slot) (hl : lv_has ls 4 [(3, .int (nI i)), (2, .ref mo), (1, .ref o), (0, .ref b)]) (K : ∀ (H : Heap) (locs : List Loc) (ls : Array Slot), tz_I dC dI o aw ai ak sc rd fo tx ar at_ ao w0 w1 w2 w3 w4 w5 sw sh mo nw kp ik mr mw mq mz my mb mx mv ad ab ai0 ai1 cw cai ck csw csh ctx cr ct_ co_ cn_ ck_ ci_ cr_ cw_ cs_ cz_ cy_ cb2_ cx_ cv_ cd cb ci0 ci1 A H → va_S A s.heap H locs → lv_has ls 4 [(3, .int (nI i)), (2, .ref mo), (1, .ref o), (0, .ref b)] → W p l e room_1 s m #[Value.ref b] below meth c H locs 136 3195 (lw_Z below #[Value.ref b] s) (F0 m 1153 ls [])) : W p l e room_1 s m #[Value.ref b] below meth c H locs 136 3195 (lw_Z below #[Value.ref b] s) (F0 m 570 ls []) := by
  obtain ⟨hx, hb, hr, hml, hown, hts, hX, hbl, hlocks, hgv⟩ := C0
  have hb : c.code = cL_law := hb
  have hown : s.vm.findClass RL = some m.cls := hown
  obtain ⟨ty, fr, fk, fx, ft_, fo_, fw, fh, la, lb, rt, nl_, np_, nk_, ns_, nv_, ni_, nf_, ud, zd, fd, ub, zb, fb, ui0, zi0, fi0, ui1, zi1, fi1, la_, lb_, lc_, ti_, cb_, ld_, le_, sm_, jb, ta_, tl_, tk_, vl_, fn, fk_, fi_, fr_, fw_, fs_, fz_, fb_, fy_, fx_, fv_, hB_d, hB_b, hB_i0, hB_i1, hO_n, hO_k, hO_x, hO_b, hP, hD⟩ := hI
  have hu_zd := hB_d.2
  have hu_zb := hB_b.2
  have hu_zi0 := hB_i0.2
  have hu_zi1 := hB_i1.2
  refine lv_aload_n hx hb dL_law_570 rfl (lv_at hl 2 rfl) ?_
  refine lv_aload_n hx hb dL_law_571 rfl (lv_at hl 3 rfl) ?_
  refine lv_iload_n hx hb dL_law_572 rfl (lv_at hl 0 rfl) ?_
  refine lv_iconst (v := 1) hx hb dL_law_573 (by decide) ?_
  refine lv_iadd hx hb dL_law_574 ?_
  refine tz_i (nI (i + 1)) (nI_add i 1) ?_
  refine va_sld hx hb hX hbl hbA hS (vp_in_nI (n := (i + 1)) (N := L) (by omega) (by omega)) dL_law_575 ?_
  refine tz_i (xs (i + 1)) (congrArg xs (nI_clamp (by omega))) ?_
  refine lv_aload_n hx hb dL_law_576 rfl (lv_at hl 3 rfl) ?_
  refine lv_iload_n hx hb dL_law_577 rfl (lv_at hl 0 rfl) ?_
  refine lv_iconst (v := 2) hx hb dL_law_578 (by decide) ?_
  refine lv_iadd hx hb dL_law_579 ?_
  refine tz_i (nI (i + 2)) (nI_add i 2) ?_
  refine va_sld hx hb hX hbl hbA hS (vp_in_nI (n := (i + 2)) (N := L) (by omega) (by omega)) dL_law_580 ?_
  refine tz_i (xs (i + 2)) (congrArg xs (nI_clamp (by omega))) ?_
  have hPc := hP.sub (ws' := [(o, .inr (11, [.ref aw, .ref (ab 0), .ref ai, .ref ak, .ref sc, .ref rd, .ref fo, .ref tx, .int ty, .ref ar, .ref at_, .ref ao])), (ar, .inl (cr, 3, .inl fr)), (aw, .inl (cw, 6, .inr (.inr (.inr (.inr (tz_w w0 w1 w2 w3 w4 w5)))))), (w0, .inr (4, [])), (w1, .inr (1, [])), (w2, .inr (10, [])), (w3, .inr (3, [])), (w4, .inr (9, [])), (w5, .inr (8, [])), (sc, .inr (7, [.ref sw, .ref sh])), (sw, .inl (csw, 21, .inr (.inl fw))), (sh, .inl (csh, 21, .inl fh)), (fo, .inr (2, [.long la, .long lb])), ((ab 0), .inr (0, [.ref (ab 1), .ref (ab 3), .ref (ab 5), .ref (ab 7), .ref (ab 9), .int (nI ub)])), ((ab 1), .inr (6, [.int 1, .int 5, .ref (ab 2), .int (nI (zb 0))])), ((ab 2), .inl ((cb 0), 5, .inl (fb 0))), ((ab 3), .inr (6, [.int 4, .int 5, .ref (ab 4), .int (nI (zb 1))])), ((ab 4), .inl ((cb 1), 20, .inl (fb 1))), ((ab 5), .inr (6, [.int 4, .int 8, .ref (ab 6), .int (nI (zb 2))])), ((ab 6), .inl ((cb 2), 32, .inl (fb 2)))]) [0, 1, 7, 8, 9, 10, 11, 12, 13, 14, 15, 16, 17, 45, 46, 47, 48, 49, 50, 51] rfl
  have hDc := hD.sub (ws' := [(o, .inr (11, [.ref aw, .ref (ab 0), .ref ai, .ref ak, .ref sc, .ref rd, .ref fo, .ref tx, .int ty, .ref ar, .ref at_, .ref ao])), (ar, .inl (cr, 3, .inl fr)), (aw, .inl (cw, 6, .inr (.inr (.inr (.inr (tz_w w0 w1 w2 w3 w4 w5)))))), (w0, .inr (4, [])), (w1, .inr (1, [])), (w2, .inr (10, [])), (w3, .inr (3, [])), (w4, .inr (9, [])), (w5, .inr (8, [])), (sc, .inr (7, [.ref sw, .ref sh])), (sw, .inl (csw, 21, .inr (.inl fw))), (sh, .inl (csh, 21, .inl fh)), (fo, .inr (2, [.long la, .long lb])), ((ab 0), .inr (0, [.ref (ab 1), .ref (ab 3), .ref (ab 5), .ref (ab 7), .ref (ab 9), .int (nI ub)])), ((ab 1), .inr (6, [.int 1, .int 5, .ref (ab 2), .int (nI (zb 0))])), ((ab 2), .inl ((cb 0), 5, .inl (fb 0))), ((ab 3), .inr (6, [.int 4, .int 5, .ref (ab 4), .int (nI (zb 1))])), ((ab 4), .inl ((cb 1), 20, .inl (fb 1))), ((ab 5), .inr (6, [.int 4, .int 8, .ref (ab 6), .int (nI (zb 2))])), ((ab 6), .inl ((cb 2), 32, .inl (fb 2)))]) [0, 1, 7, 8, 9, 10, 11, 12, 13, 14, 15, 16, 17, 45, 46, 47, 48, 49, 50, 51] (by decide) rfl
  have hKc := hK.sub (tys' := [(cr, .int), (cw, (.object "ThriceCounted$Ones")), (csw, .long), (csh, .int), ((cb 0), .int), ((cb 1), .int), ((cb 2), .int)]) [0, 6, 7, 8, 22, 23, 24] rfl
  have hFc := va_free (wc := [(o, .inr (11, [.ref aw, .ref (ab 0), .ref ai, .ref ak, .ref sc, .ref rd, .ref fo, .ref tx, .int ty, .ref ar, .ref at_, .ref ao])), (ar, .inl (cr, 3, .inl fr)), (aw, .inl (cw, 6, .inr (.inr (.inr (.inr (tz_w w0 w1 w2 w3 w4 w5)))))), (w0, .inr (4, [])), (w1, .inr (1, [])), (w2, .inr (10, [])), (w3, .inr (3, [])), (w4, .inr (9, [])), (w5, .inr (8, [])), (sc, .inr (7, [.ref sw, .ref sh])), (sw, .inl (csw, 21, .inr (.inl fw))), (sh, .inl (csh, 21, .inl fh)), (fo, .inr (2, [.long la, .long lb])), ((ab 0), .inr (0, [.ref (ab 1), .ref (ab 3), .ref (ab 5), .ref (ab 7), .ref (ab 9), .int (nI ub)])), ((ab 1), .inr (6, [.int 1, .int 5, .ref (ab 2), .int (nI (zb 0))])), ((ab 2), .inl ((cb 0), 5, .inl (fb 0))), ((ab 3), .inr (6, [.int 4, .int 5, .ref (ab 4), .int (nI (zb 1))])), ((ab 4), .inl ((cb 1), 20, .inl (fb 1))), ((ab 5), .inr (6, [.int 4, .int 8, .ref (ab 6), .int (nI (zb 2))])), ((ab 6), .inl ((cb 2), 32, .inl (fb 2)))]) hD hS hA [0, 1, 7, 8, 9, 10, 11, 12, 13, 14, 15, 16, 17, 45, 46, 47, 48, 49, 50, 51] rfl
  refine va_calli (va_runV (As := [.int (xs (i + 1)), .int (xs (i + 2))]) (rest := []) ⟨hx, hb, hml, hown, hts⟩ (x_likely l dC dI o aw ab ai ak sc rd fo tx ty ar at_ ao cr fr cw w0 w1 w2 w3 w4 w5 sw sh csw fw csh fh la lb ub zb cb fb (xs (i + 1)) (xs (i + 2)) H.size ⟨hB_b.1, show ub ≤ 8 by omega⟩) (cwV 2 hts gL_law_X11_likely rfl rfl rfl (by decide +kernel) ⟨Nat.le_of_ble_eq_true rfl, Nat.le_of_ble_eq_true rfl⟩) ⟨fun a U g mk q => by obtain ⟨q0, q1, qP, qK, qD⟩ := q; exact ⟨q0, q1, qP, va_K.moved (u := U) (U := U.calling g mk a) (Vm.Alike.refl U.vm) qK, qD⟩, va_recv hK hP (ci := 11) (q0 := 0) rfl rfl, fun U hU hW => ⟨rfl, by rw [hU], by rw [hU]; exact hPc, va_K.moved hW.alike hKc, hDc.weaken (fun _ _ _ _ => trivial)⟩⟩ rfl rfl hl.1 rfl (lv_room (Nat.le_of_ble_eq_true rfl)) dL_law_581 ⟨Nat.le_of_ble_eq_true rfl, Nat.le_of_ble_eq_true rfl⟩) hS (fun q _ h => hFc q h) hFc (fun r_1 u_ t H1 locs ht hvm hw_2 hB hz1 hk1 hS => ?_)
  obtain ⟨gr_3, gw_4, gh_5, lg_6, lh_7, hP1, hK1, hD1⟩ := hB
  rw [ht] at hP1
  have hK1 := va_K.moved hvm.symm hK1
  obtain ⟨hP, hD⟩ := tz_put (ws' := (tz_XW o aw ai ak sc rd fo tx ar at_ ao w0 w1 w2 w3 w4 w5 sw sh mo nw kp ik mr mw mq mz my mb mx mv ad ab ai0 ai1 cw cai ck csw csh ctx cr ct_ co_ cn_ ck_ ci_ cr_ cw_ cs_ cz_ cy_ cb2_ cx_ cv_ cd cb ci0 ci1 ty gr_3 fk fx ft_ fo_ gw_4 gh_5 lg_6 lh_7 rt nl_ np_ nk_ ns_ nv_ ni_ nf_ ud zd fd ub zb fb ui0 zi0 fi0 ui1 zi1 fi1 la_ lb_ lc_ ti_ cb_ ld_ le_ sm_ jb ta_ tl_ tk_ vl_ fn fk_ fi_ fr_ fw_ fs_ fz_ fb_ fy_ fx_ fv_)) hP hD [0, 1, 7, 8, 9, 10, 11, 12, 13, 14, 15, 16, 17, 45, 46, 47, 48, 49, 50, 51] rfl hk1 hP1 rfl rfl rfl
  generalize H1 = H at hP hS ⊢
  refine lv_pop hx hb dL_law_584 rfl ?_
  refine lv_aload_n hx hb dL_law_585 rfl (lv_at hl 1 rfl) ?_
  refine lv_aload_n hx hb dL_law_586 rfl (lv_at hl 3 rfl) ?_
  refine lv_iload_n hx hb dL_law_587 rfl (lv_at hl 0 rfl) ?_
  refine lv_iconst (v := 1) hx hb dL_law_588 (by decide) ?_
  refine lv_iadd hx hb dL_law_589 ?_
  refine tz_i (nI (i + 1)) (nI_add i 1) ?_
  refine va_sld hx hb hX hbl hbA hS (vp_in_nI (n := (i + 1)) (N := L) (by omega) (by omega)) dL_law_590 ?_
  refine tz_i (xs (i + 1)) (congrArg xs (nI_clamp (by omega))) ?_
  refine lv_aload_n hx hb dL_law_591 rfl (lv_at hl 3 rfl) ?_
  refine lv_iload_n hx hb dL_law_592 rfl (lv_at hl 0 rfl) ?_
  refine lv_iconst (v := 2) hx hb dL_law_593 (by decide) ?_
  refine lv_iadd hx hb dL_law_594 ?_
  refine tz_i (nI (i + 2)) (nI_add i 2) ?_
  refine va_sld hx hb hX hbl hbA hS (vp_in_nI (n := (i + 2)) (N := L) (by omega) (by omega)) dL_law_595 ?_
  refine tz_i (xs (i + 2)) (congrArg xs (nI_clamp (by omega))) ?_
  have hPc := hP.sub (ws' := [(mo, .inr (12, [.ref nw, .ref kp, .ref ik, .ref mr, .long la_, .long lb_, .ref mw, .long lc_, .int ti_, .int cb_, .long ld_, .long le_, .ref mq, .ref mz, .ref my, .int sm_, .ref mb, .int (nI jb), .int ta_, .int tl_, .int tk_, .int vl_, .ref mx, .ref mv])), (nw, .inl (cn_, 350, .inl fn)), (mw, .inl (cw_, 21, .inr (.inl fw_))), (mr, .inl (cr_, 3, .inl fr_))]) [123, 124, 128, 127] rfl
  have hDc := hD.sub (ws' := [(mo, .inr (12, [.ref nw, .ref kp, .ref ik, .ref mr, .long la_, .long lb_, .ref mw, .long lc_, .int ti_, .int cb_, .long ld_, .long le_, .ref mq, .ref mz, .ref my, .int sm_, .ref mb, .int (nI jb), .int ta_, .int tl_, .int tk_, .int vl_, .ref mx, .ref mv])), (nw, .inl (cn_, 350, .inl fn)), (mw, .inl (cw_, 21, .inr (.inl fw_))), (mr, .inl (cr_, 3, .inl fr_))]) [123, 124, 128, 127] (by decide) rfl
  have hKc := hK.sub (tys' := [(cn_, .int), (cw_, .long), (cr_, .int)]) [61, 65, 64] rfl
  have hFc := va_free (wc := [(mo, .inr (12, [.ref nw, .ref kp, .ref ik, .ref mr, .long la_, .long lb_, .ref mw, .long lc_, .int ti_, .int cb_, .long ld_, .long le_, .ref mq, .ref mz, .ref my, .int sm_, .ref mb, .int (nI jb), .int ta_, .int tl_, .int tk_, .int vl_, .ref mx, .ref mv])), (nw, .inl (cn_, 350, .inl fn)), (mw, .inl (cw_, 21, .inr (.inl fw_))), (mr, .inl (cr_, 3, .inl fr_))]) hD hS hA [123, 124, 128, 127] rfl
  refine va_calli (va_runV (As := [.int (xs (i + 1)), .int (xs (i + 2))]) (rest := []) ⟨hx, hb, hml, hown, hts⟩ (m_likely l dC dI mo nw kp ik mr la_ lb_ mw lc_ ti_ cb_ ld_ le_ mq mz my sm_ mb (nI jb) ta_ tl_ tk_ vl_ mx mv cn_ fn cw_ fw_ cr_ fr_ (xs (i + 1)) (xs (i + 2)) H.size hO_n) (cwV 2 hts gL_law_X12_likely rfl rfl rfl (by decide +kernel) ⟨Nat.le_of_ble_eq_true rfl, Nat.le_of_ble_eq_true rfl⟩) ⟨fun a U g mk q => by obtain ⟨q0, q1, qP, qK, qD⟩ := q; exact ⟨q0, q1, qP, va_K.moved (u := U) (U := U.calling g mk a) (Vm.Alike.refl U.vm) qK, qD⟩, va_recv hK hP (ci := 12) (q0 := 123) rfl rfl, fun U hU hW => ⟨rfl, by rw [hU], by rw [hU]; exact hPc, va_K.moved hW.alike hKc, hDc.weaken (fun _ _ _ _ => trivial)⟩⟩ rfl rfl hl.1 rfl (lv_room (Nat.le_of_ble_eq_true rfl)) dL_law_596 ⟨Nat.le_of_ble_eq_true rfl, Nat.le_of_ble_eq_true rfl⟩) hS (fun q _ h => hFc q h) hFc (fun r_8 u_ t H1 locs ht hvm hw_9 hB hz1 hk1 hS => ?_)
  obtain ⟨h_allWeights_10, h_trulyIs_11, h_canBe_12, h_above_13, h_below_14, gw__15, gr__16, hP1, hK1, hD1⟩ := hB
  rw [ht] at hP1
  have hK1 := va_K.moved hvm.symm hK1
  obtain ⟨hP, hD⟩ := tz_put (ws' := (tz_XW o aw ai ak sc rd fo tx ar at_ ao w0 w1 w2 w3 w4 w5 sw sh mo nw kp ik mr mw mq mz my mb mx mv ad ab ai0 ai1 cw cai ck csw csh ctx cr ct_ co_ cn_ ck_ ci_ cr_ cw_ cs_ cz_ cy_ cb2_ cx_ cv_ cd cb ci0 ci1 ty gr_3 fk fx ft_ fo_ gw_4 gh_5 lg_6 lh_7 rt nl_ np_ nk_ ns_ nv_ ni_ nf_ ud zd fd ub zb fb ui0 zi0 fi0 ui1 zi1 fi1 h_above_13 h_below_14 h_allWeights_10 h_trulyIs_11 h_canBe_12 ld_ le_ sm_ jb ta_ tl_ tk_ vl_ fn fk_ fi_ gr__16 gw__15 fs_ fz_ fb_ fy_ fx_ fv_)) hP hD [123, 124, 128, 127] rfl hk1 hP1 rfl rfl rfl
  generalize H1 = H at hP hS ⊢
  refine lv_pop hx hb dL_law_599 rfl ?_
  refine lv_goto (tgt := 1153) hx hb dL_law_600 (by decide) ?_
  exact K H _ ls ⟨ty, gr_3, fk, fx, ft_, fo_, gw_4, gh_5, lg_6, lh_7, rt, nl_, np_, nk_, ns_, nv_, ni_, nf_, ud, zd, fd, ub, zb, fb, ui0, zi0, fi0, ui1, zi1, fi1, h_above_13, h_below_14, h_allWeights_10, h_trulyIs_11, h_canBe_12, ld_, le_, sm_, jb, ta_, tl_, tk_, vl_, fn, fk_, fi_, gr__16, gw__15, fs_, fz_, fb_, fy_, fx_, fv_, hB_d, hB_b, hB_i0, hB_i1, hO_n, hO_k, hO_x, hO_b, hP, hD⟩ hS hl
set_option maxRecDepth 20000 in
theorem gL_law_X11_truly : GoodIn lw_tbl (wsV RL 78 RX11 yX11_truly wsX11_truly) := tz_good [(31, 7), (31, 8), (31, 9), (0, 2), (31, 10), (1, 10), (5, 20), (1, 17), (1, 6), (10, 4), (10, 5), (10, 6), (3, 4), (10, 7), (3, 15), (7, 4), (7, 5), (0, 2), (7, 6), (7, 7), (7, 8), (7, 9), (7, 10), (7, 11), (7, 12), (7, 13), (7, 14), (2, 6), (29, 9), (29, 10), (29, 11), (1, 16), (29, 12), (4, 3), (29, 13), (29, 14), (29, 15), (29, 16), (29, 17), (29, 18), (29, 19), (10, 9), (10, 10), (10, 11), (3, 22), (3, 21), (8, 8), (8, 9), (8, 10), (8, 11), (29, 20), (5, 22), (5, 23), (6, 0), (29, 21), (29, 22), (29, 23), (30, 0), (4, 4), (30, 1), (24, 1), (24, 2), (24, 3), (24, 4), (0, 17), (24, 5), (24, 6), (24, 7), (24, 2), (0, 14), (24, 9), (24, 10), (24, 11), (0, 23), (24, 12), (24, 13), (24, 14), (24, 15), (24, 16), (0, 20), (24, 17), (30, 1), (24, 19), (24, 20), (24, 21), (1, 5), (24, 22), (24, 23), (25, 0), (25, 1), (25, 2), (1, 2), (25, 3), (25, 4), (25, 5), (25, 6), (25, 7), (31, 11), (31, 12), (31, 13), (31, 14), (31, 15), (31, 16), (31, 17), (31, 18), (46, 0), (46, 1), (46, 2), (46, 3), (46, 4), (46, 5), (46, 6), (46, 7), (46, 8), (46, 9), (46, 10), (46, 11), (54, 0), (54, 1), (54, 2), (54, 3), (54, 4), (54, 5), (58, 0), (58, 1), (58, 2), (58, 3), (55, 0), (55, 1)] (by decide +kernel) (by decide +kernel)
set_option maxRecDepth 20000 in
theorem gL_law_X12_truly : GoodIn lw_tbl (wsV RL 81 RX12 yX12_truly wsX12_truly) := tz_good [(31, 19), (31, 20), (31, 21), (0, 5), (31, 22), (30, 20), (30, 21), (10, 20), (10, 21), (10, 22), (0, 5), (10, 23), (5, 4), (8, 17), (8, 18), (8, 19), (8, 20), (8, 21), (8, 22), (8, 23), (5, 7), (30, 16), (30, 17), (30, 18), (30, 19), (30, 15), (5, 9), (30, 22), (30, 23), (31, 0), (31, 1), (11, 4), (11, 5), (11, 6), (11, 7), (28, 10), (28, 11), (28, 12), (28, 13), (27, 1), (27, 2), (27, 3), (27, 4), (27, 5), (27, 6), (27, 7), (27, 8), (27, 9), (27, 10), (27, 11), (27, 12), (27, 13), (27, 14), (47, 0), (47, 1), (47, 2), (47, 3), (47, 4), (47, 5), (47, 6), (47, 7), (47, 8), (47, 9), (47, 10), (47, 11), (47, 12), (47, 13), (47, 14), (47, 15), (47, 16), (47, 17), (47, 18), (47, 19), (47, 20), (47, 21), (47, 22), (47, 23)] (by decide +kernel) (by decide +kernel)
theorem dL_law_603 : decode cL_law 603 = .ok (.aload_n 1, 1) := by decide +kernel
theorem dL_law_604 : decode cL_law 604 = .ok (.aload_n 0, 1) := by decide +kernel
theorem dL_law_605 : decode cL_law 605 = .ok (.iload_n 3, 1) := by decide +kernel
theorem dL_law_606 : decode cL_law 606 = .ok (.iconst 1, 1) := by decide +kernel
theorem dL_law_607 : decode cL_law 607 = .ok (.iadd, 1) := by decide +kernel
theorem dL_law_608 : decode cL_law 608 = .ok (.iaload, 1) := by decide +kernel
theorem dL_law_609 : decode cL_law 609 = .ok (.aload_n 0, 1) := by decide +kernel
theorem dL_law_610 : decode cL_law 610 = .ok (.iload_n 3, 1) := by decide +kernel
theorem dL_law_611 : decode cL_law 611 = .ok (.iconst 2, 1) := by decide +kernel
theorem dL_law_612 : decode cL_law 612 = .ok (.iadd, 1) := by decide +kernel
theorem dL_law_613 : decode cL_law 613 = .ok (.iaload, 1) := by decide +kernel
theorem dL_law_614 : decode cL_law 614 = .ok (.invokevirtual 78, 3) := by decide +kernel
theorem dL_law_617 : decode cL_law 617 = .ok (.pop, 1) := by decide +kernel
theorem dL_law_618 : decode cL_law 618 = .ok (.aload_n 2, 1) := by decide +kernel
theorem dL_law_619 : decode cL_law 619 = .ok (.aload_n 0, 1) := by decide +kernel
theorem dL_law_620 : decode cL_law 620 = .ok (.iload_n 3, 1) := by decide +kernel
theorem dL_law_621 : decode cL_law 621 = .ok (.iconst 1, 1) := by decide +kernel
theorem dL_law_622 : decode cL_law 622 = .ok (.iadd, 1) := by decide +kernel
theorem dL_law_623 : decode cL_law 623 = .ok (.iaload, 1) := by decide +kernel
theorem dL_law_624 : decode cL_law 624 = .ok (.aload_n 0, 1) := by decide +kernel
theorem dL_law_625 : decode cL_law 625 = .ok (.iload_n 3, 1) := by decide +kernel
theorem dL_law_626 : decode cL_law 626 = .ok (.iconst 2, 1) := by decide +kernel
theorem dL_law_627 : decode cL_law 627 = .ok (.iadd, 1) := by decide +kernel
theorem dL_law_628 : decode cL_law 628 = .ok (.iaload, 1) := by decide +kernel
theorem dL_law_629 : decode cL_law 629 = .ok (.invokevirtual 81, 3) := by decide +kernel
theorem dL_law_632 : decode cL_law 632 = .ok (.pop, 1) := by decide +kernel
theorem dL_law_633 : decode cL_law 633 = .ok (.goto 520, 3) := by decide +kernel
set_option maxHeartbeats 8000000 in
set_option maxRecDepth 100000 in
theorem lc_truly {p : Program} {l : Launch} {e : Env} {s : State} {m : MethodId} {below : List Frame} {meth : Method} {c : Code} {b L : Nat} {xs : Nat → Int32} (hL : L ≤ 3072) (C0 : lw_At p s m meth c b L xs) (hN : tz_N s) (A : Nat → Prop) (hA : ∀ q : Nat, s.heap.size ≤ q → A q) (hA2 : ∀ q : Nat, A q → s.heap.size ≤ q) (hbA : ¬ A b) (hV : tz_V A s s.heap) (dC : Nat → ClassId) (dI : Nat → Nat → Nat) (o : Nat) (aw : Nat) (ai : Nat) (ak : Nat) (sc : Nat) (rd : Nat) (fo : Nat) (tx : Nat) (ar : Nat) (at_ : Nat) (ao : Nat) (w0 : Nat) (w1 : Nat) (w2 : Nat) (w3 : Nat) (w4 : Nat) (w5 : Nat) (sw : Nat) (sh : Nat) (mo : Nat) (nw : Nat) (kp : Nat) (ik : Nat) (mr : Nat) (mw : Nat) (mq : Nat) (mz : Nat) (my : Nat) (mb : Nat) (mx : Nat) (mv : Nat) (ad : Nat → Nat) (ab : Nat → Nat) (ai0 : Nat → Nat) (ai1 : Nat → Nat) (cw : ClassId) (cai : ClassId) (ck : ClassId) (csw : ClassId) (csh : ClassId) (ctx : ClassId) (cr : ClassId) (ct_ : ClassId) (co_ : ClassId) (cn_ : ClassId) (ck_ : ClassId) (ci_ : ClassId) (cr_ : ClassId) (cw_ : ClassId) (cs_ : ClassId) (cz_ : ClassId) (cy_ : ClassId) (cb2_ : ClassId) (cx_ : ClassId) (cv_ : ClassId) (cd : Nat → ClassId) (cb : Nat → ClassId) (ci0 : Nat → ClassId) (ci1 : Nat → ClassId) (hK : va_K (dC, dI) vwCl (tz_T cw cai ck csw csh ctx cr ct_ co_ cn_ ck_ ci_ cr_ cw_ cs_ cz_ cy_ cb2_ cx_ cv_ cd cb ci0 ci1) s) (i : Nat) (hi : i + 6 ≤ L) (H : Heap) (locs : List Loc) (hI : tz_I dC dI o aw ai ak sc rd fo tx ar at_ ao w0 w1 w2 w3 w4 w5 sw sh mo nw kp ik mr mw mq mz my mb mx mv ad ab ai0 ai1 cw cai ck csw csh ctx cr ct_ co_ cn_ ck_ ci_ cr_ cw_ cs_ cz_ cy_ cb2_ cx_ cv_ cd cb ci0 ci1 A H) (hS : va_S A s.heap H locs) (ls : Array Slot) (hl : lv_has ls 4 [(3, .int (nI i)), (2, .ref mo), (1, .ref o), (0, .ref b)]) (K : ∀ (H : Heap) (locs : List Loc) (ls : Array Slot), tz_I dC dI o aw ai ak sc rd fo tx ar at_ ao w0 w1 w2 w3 w4 w5 sw sh mo nw kp ik mr mw mq mz my mb mx mv ad ab ai0 ai1 cw cai ck csw csh ctx cr ct_ co_ cn_ ck_ ci_ cr_ cw_ cs_ cz_ cy_ cb2_ cx_ cv_ cd cb ci0 ci1 A H → va_S A s.heap H locs → lv_has ls 4 [(3, .int (nI i)), (2, .ref mo), (1, .ref o), (0, .ref b)] → W p l e room_1 s m #[Value.ref b] below meth c H locs 136 3195 (lw_Z below #[Value.ref b] s) (F0 m 1153 ls [])) : W p l e room_1 s m #[Value.ref b] below meth c H locs 136 3195 (lw_Z below #[Value.ref b] s) (F0 m 603 ls []) := by
  obtain ⟨hx, hb, hr, hml, hown, hts, hX, hbl, hlocks, hgv⟩ := C0
  have hb : c.code = cL_law := hb
  have hown : s.vm.findClass RL = some m.cls := hown
  obtain ⟨ty, fr, fk, fx, ft_, fo_, fw, fh, la, lb, rt, nl_, np_, nk_, ns_, nv_, ni_, nf_, ud, zd, fd, ub, zb, fb, ui0, zi0, fi0, ui1, zi1, fi1, la_, lb_, lc_, ti_, cb_, ld_, le_, sm_, jb, ta_, tl_, tk_, vl_, fn, fk_, fi_, fr_, fw_, fs_, fz_, fb_, fy_, fx_, fv_, hB_d, hB_b, hB_i0, hB_i1, hO_n, hO_k, hO_x, hO_b, hP, hD⟩ := hI
  have hu_zd := hB_d.2
  have hu_zb := hB_b.2
  have hu_zi0 := hB_i0.2
  have hu_zi1 := hB_i1.2
  refine lv_aload_n hx hb dL_law_603 rfl (lv_at hl 2 rfl) ?_
  refine lv_aload_n hx hb dL_law_604 rfl (lv_at hl 3 rfl) ?_
  refine lv_iload_n hx hb dL_law_605 rfl (lv_at hl 0 rfl) ?_
  refine lv_iconst (v := 1) hx hb dL_law_606 (by decide) ?_
  refine lv_iadd hx hb dL_law_607 ?_
  refine tz_i (nI (i + 1)) (nI_add i 1) ?_
  refine va_sld hx hb hX hbl hbA hS (vp_in_nI (n := (i + 1)) (N := L) (by omega) (by omega)) dL_law_608 ?_
  refine tz_i (xs (i + 1)) (congrArg xs (nI_clamp (by omega))) ?_
  refine lv_aload_n hx hb dL_law_609 rfl (lv_at hl 3 rfl) ?_
  refine lv_iload_n hx hb dL_law_610 rfl (lv_at hl 0 rfl) ?_
  refine lv_iconst (v := 2) hx hb dL_law_611 (by decide) ?_
  refine lv_iadd hx hb dL_law_612 ?_
  refine tz_i (nI (i + 2)) (nI_add i 2) ?_
  refine va_sld hx hb hX hbl hbA hS (vp_in_nI (n := (i + 2)) (N := L) (by omega) (by omega)) dL_law_613 ?_
  refine tz_i (xs (i + 2)) (congrArg xs (nI_clamp (by omega))) ?_
  have hPc := hP.sub (ws' := [(o, .inr (11, [.ref aw, .ref (ab 0), .ref ai, .ref ak, .ref sc, .ref rd, .ref fo, .ref tx, .int ty, .ref ar, .ref at_, .ref ao])), (ar, .inl (cr, 3, .inl fr)), (aw, .inl (cw, 6, .inr (.inr (.inr (.inr (tz_w w0 w1 w2 w3 w4 w5)))))), (w0, .inr (4, [])), (w1, .inr (1, [])), (w2, .inr (10, [])), (w3, .inr (3, [])), (w4, .inr (9, [])), (w5, .inr (8, [])), (sc, .inr (7, [.ref sw, .ref sh])), (sw, .inl (csw, 21, .inr (.inl fw))), (sh, .inl (csh, 21, .inl fh)), ((ab 0), .inr (0, [.ref (ab 1), .ref (ab 3), .ref (ab 5), .ref (ab 7), .ref (ab 9), .int (nI ub)])), ((ab 1), .inr (6, [.int 1, .int 5, .ref (ab 2), .int (nI (zb 0))])), ((ab 2), .inl ((cb 0), 5, .inl (fb 0))), ((ab 3), .inr (6, [.int 4, .int 5, .ref (ab 4), .int (nI (zb 1))])), ((ab 4), .inl ((cb 1), 20, .inl (fb 1))), ((ab 5), .inr (6, [.int 4, .int 8, .ref (ab 6), .int (nI (zb 2))])), ((ab 6), .inl ((cb 2), 32, .inl (fb 2)))]) [0, 1, 7, 8, 9, 10, 11, 12, 13, 14, 15, 16, 45, 46, 47, 48, 49, 50, 51] rfl
  have hDc := hD.sub (ws' := [(o, .inr (11, [.ref aw, .ref (ab 0), .ref ai, .ref ak, .ref sc, .ref rd, .ref fo, .ref tx, .int ty, .ref ar, .ref at_, .ref ao])), (ar, .inl (cr, 3, .inl fr)), (aw, .inl (cw, 6, .inr (.inr (.inr (.inr (tz_w w0 w1 w2 w3 w4 w5)))))), (w0, .inr (4, [])), (w1, .inr (1, [])), (w2, .inr (10, [])), (w3, .inr (3, [])), (w4, .inr (9, [])), (w5, .inr (8, [])), (sc, .inr (7, [.ref sw, .ref sh])), (sw, .inl (csw, 21, .inr (.inl fw))), (sh, .inl (csh, 21, .inl fh)), ((ab 0), .inr (0, [.ref (ab 1), .ref (ab 3), .ref (ab 5), .ref (ab 7), .ref (ab 9), .int (nI ub)])), ((ab 1), .inr (6, [.int 1, .int 5, .ref (ab 2), .int (nI (zb 0))])), ((ab 2), .inl ((cb 0), 5, .inl (fb 0))), ((ab 3), .inr (6, [.int 4, .int 5, .ref (ab 4), .int (nI (zb 1))])), ((ab 4), .inl ((cb 1), 20, .inl (fb 1))), ((ab 5), .inr (6, [.int 4, .int 8, .ref (ab 6), .int (nI (zb 2))])), ((ab 6), .inl ((cb 2), 32, .inl (fb 2)))]) [0, 1, 7, 8, 9, 10, 11, 12, 13, 14, 15, 16, 45, 46, 47, 48, 49, 50, 51] (by decide) rfl
  have hKc := hK.sub (tys' := [(cr, .int), (cw, (.object "ThriceCounted$Ones")), (csw, .long), (csh, .int), ((cb 0), .int), ((cb 1), .int), ((cb 2), .int)]) [0, 6, 7, 8, 22, 23, 24] rfl
  have hFc := va_free (wc := [(o, .inr (11, [.ref aw, .ref (ab 0), .ref ai, .ref ak, .ref sc, .ref rd, .ref fo, .ref tx, .int ty, .ref ar, .ref at_, .ref ao])), (ar, .inl (cr, 3, .inl fr)), (aw, .inl (cw, 6, .inr (.inr (.inr (.inr (tz_w w0 w1 w2 w3 w4 w5)))))), (w0, .inr (4, [])), (w1, .inr (1, [])), (w2, .inr (10, [])), (w3, .inr (3, [])), (w4, .inr (9, [])), (w5, .inr (8, [])), (sc, .inr (7, [.ref sw, .ref sh])), (sw, .inl (csw, 21, .inr (.inl fw))), (sh, .inl (csh, 21, .inl fh)), ((ab 0), .inr (0, [.ref (ab 1), .ref (ab 3), .ref (ab 5), .ref (ab 7), .ref (ab 9), .int (nI ub)])), ((ab 1), .inr (6, [.int 1, .int 5, .ref (ab 2), .int (nI (zb 0))])), ((ab 2), .inl ((cb 0), 5, .inl (fb 0))), ((ab 3), .inr (6, [.int 4, .int 5, .ref (ab 4), .int (nI (zb 1))])), ((ab 4), .inl ((cb 1), 20, .inl (fb 1))), ((ab 5), .inr (6, [.int 4, .int 8, .ref (ab 6), .int (nI (zb 2))])), ((ab 6), .inl ((cb 2), 32, .inl (fb 2)))]) hD hS hA [0, 1, 7, 8, 9, 10, 11, 12, 13, 14, 15, 16, 45, 46, 47, 48, 49, 50, 51] rfl
  refine va_calli (va_runV (As := [.int (xs (i + 1)), .int (xs (i + 2))]) (rest := []) ⟨hx, hb, hml, hown, hts⟩ (x_truly l dC dI o aw ab ai ak sc rd fo tx ty ar at_ ao cr fr cw w0 w1 w2 w3 w4 w5 sw sh csw fw csh fh ub zb cb fb (xs (i + 1)) (xs (i + 2)) H.size ⟨hB_b.1, show ub ≤ 8 by omega⟩) (cwV 2 hts gL_law_X11_truly rfl rfl rfl (by decide +kernel) ⟨Nat.le_of_ble_eq_true rfl, Nat.le_of_ble_eq_true rfl⟩) ⟨fun a U g mk q => by obtain ⟨q0, q1, qP, qK, qD⟩ := q; exact ⟨q0, q1, qP, va_K.moved (u := U) (U := U.calling g mk a) (Vm.Alike.refl U.vm) qK, qD⟩, va_recv hK hP (ci := 11) (q0 := 0) rfl rfl, fun U hU hW => ⟨rfl, by rw [hU], by rw [hU]; exact hPc, va_K.moved hW.alike hKc, hDc.weaken (fun _ _ _ _ => trivial)⟩⟩ rfl rfl hl.1 rfl (lv_room (Nat.le_of_ble_eq_true rfl)) dL_law_614 ⟨Nat.le_of_ble_eq_true rfl, Nat.le_of_ble_eq_true rfl⟩) hS (fun q _ h => hFc q h) hFc (fun r_1 u_ t H1 locs ht hvm hw_2 hB hz1 hk1 hS => ?_)
  obtain ⟨gr_3, gw_4, gh_5, hP1, hK1, hD1⟩ := hB
  rw [ht] at hP1
  have hK1 := va_K.moved hvm.symm hK1
  obtain ⟨hP, hD⟩ := tz_put (ws' := (tz_XW o aw ai ak sc rd fo tx ar at_ ao w0 w1 w2 w3 w4 w5 sw sh mo nw kp ik mr mw mq mz my mb mx mv ad ab ai0 ai1 cw cai ck csw csh ctx cr ct_ co_ cn_ ck_ ci_ cr_ cw_ cs_ cz_ cy_ cb2_ cx_ cv_ cd cb ci0 ci1 ty gr_3 fk fx ft_ fo_ gw_4 gh_5 la lb rt nl_ np_ nk_ ns_ nv_ ni_ nf_ ud zd fd ub zb fb ui0 zi0 fi0 ui1 zi1 fi1 la_ lb_ lc_ ti_ cb_ ld_ le_ sm_ jb ta_ tl_ tk_ vl_ fn fk_ fi_ fr_ fw_ fs_ fz_ fb_ fy_ fx_ fv_)) hP hD [0, 1, 7, 8, 9, 10, 11, 12, 13, 14, 15, 16, 45, 46, 47, 48, 49, 50, 51] rfl hk1 hP1 rfl rfl rfl
  generalize H1 = H at hP hS ⊢
  refine lv_pop hx hb dL_law_617 rfl ?_
  refine lv_aload_n hx hb dL_law_618 rfl (lv_at hl 1 rfl) ?_
  refine lv_aload_n hx hb dL_law_619 rfl (lv_at hl 3 rfl) ?_
  refine lv_iload_n hx hb dL_law_620 rfl (lv_at hl 0 rfl) ?_
  refine lv_iconst (v := 1) hx hb dL_law_621 (by decide) ?_
  refine lv_iadd hx hb dL_law_622 ?_
  refine tz_i (nI (i + 1)) (nI_add i 1) ?_
  refine va_sld hx hb hX hbl hbA hS (vp_in_nI (n := (i + 1)) (N := L) (by omega) (by omega)) dL_law_623 ?_
  refine tz_i (xs (i + 1)) (congrArg xs (nI_clamp (by omega))) ?_
  refine lv_aload_n hx hb dL_law_624 rfl (lv_at hl 3 rfl) ?_
  refine lv_iload_n hx hb dL_law_625 rfl (lv_at hl 0 rfl) ?_
  refine lv_iconst (v := 2) hx hb dL_law_626 (by decide) ?_
  refine lv_iadd hx hb dL_law_627 ?_
  refine tz_i (nI (i + 2)) (nI_add i 2) ?_
  refine va_sld hx hb hX hbl hbA hS (vp_in_nI (n := (i + 2)) (N := L) (by omega) (by omega)) dL_law_628 ?_
  refine tz_i (xs (i + 2)) (congrArg xs (nI_clamp (by omega))) ?_
  have hPc := hP.sub (ws' := [(mo, .inr (12, [.ref nw, .ref kp, .ref ik, .ref mr, .long la_, .long lb_, .ref mw, .long lc_, .int ti_, .int cb_, .long ld_, .long le_, .ref mq, .ref mz, .ref my, .int sm_, .ref mb, .int (nI jb), .int ta_, .int tl_, .int tk_, .int vl_, .ref mx, .ref mv])), (nw, .inl (cn_, 350, .inl fn)), (mw, .inl (cw_, 21, .inr (.inl fw_))), (mr, .inl (cr_, 3, .inl fr_))]) [123, 124, 128, 127] rfl
  have hDc := hD.sub (ws' := [(mo, .inr (12, [.ref nw, .ref kp, .ref ik, .ref mr, .long la_, .long lb_, .ref mw, .long lc_, .int ti_, .int cb_, .long ld_, .long le_, .ref mq, .ref mz, .ref my, .int sm_, .ref mb, .int (nI jb), .int ta_, .int tl_, .int tk_, .int vl_, .ref mx, .ref mv])), (nw, .inl (cn_, 350, .inl fn)), (mw, .inl (cw_, 21, .inr (.inl fw_))), (mr, .inl (cr_, 3, .inl fr_))]) [123, 124, 128, 127] (by decide) rfl
  have hKc := hK.sub (tys' := [(cn_, .int), (cw_, .long), (cr_, .int)]) [61, 65, 64] rfl
  have hFc := va_free (wc := [(mo, .inr (12, [.ref nw, .ref kp, .ref ik, .ref mr, .long la_, .long lb_, .ref mw, .long lc_, .int ti_, .int cb_, .long ld_, .long le_, .ref mq, .ref mz, .ref my, .int sm_, .ref mb, .int (nI jb), .int ta_, .int tl_, .int tk_, .int vl_, .ref mx, .ref mv])), (nw, .inl (cn_, 350, .inl fn)), (mw, .inl (cw_, 21, .inr (.inl fw_))), (mr, .inl (cr_, 3, .inl fr_))]) hD hS hA [123, 124, 128, 127] rfl
  refine va_calli (va_runV (As := [.int (xs (i + 1)), .int (xs (i + 2))]) (rest := []) ⟨hx, hb, hml, hown, hts⟩ (m_truly l dC dI mo nw kp ik mr la_ lb_ mw lc_ ti_ cb_ ld_ le_ mq mz my sm_ mb (nI jb) ta_ tl_ tk_ vl_ mx mv cn_ fn cw_ fw_ cr_ fr_ (xs (i + 1)) (xs (i + 2)) H.size hO_n) (cwV 2 hts gL_law_X12_truly rfl rfl rfl (by decide +kernel) ⟨Nat.le_of_ble_eq_true rfl, Nat.le_of_ble_eq_true rfl⟩) ⟨fun a U g mk q => by obtain ⟨q0, q1, qP, qK, qD⟩ := q; exact ⟨q0, q1, qP, va_K.moved (u := U) (U := U.calling g mk a) (Vm.Alike.refl U.vm) qK, qD⟩, va_recv hK hP (ci := 12) (q0 := 123) rfl rfl, fun U hU hW => ⟨rfl, by rw [hU], by rw [hU]; exact hPc, va_K.moved hW.alike hKc, hDc.weaken (fun _ _ _ _ => trivial)⟩⟩ rfl rfl hl.1 rfl (lv_room (Nat.le_of_ble_eq_true rfl)) dL_law_629 ⟨Nat.le_of_ble_eq_true rfl, Nat.le_of_ble_eq_true rfl⟩) hS (fun q _ h => hFc q h) hFc (fun r_6 u_ t H1 locs ht hvm hw_7 hB hz1 hk1 hS => ?_)
  obtain ⟨h_allWeights_8, h_trulyIs_9, h_canBe_10, gw__11, gr__12, hP1, hK1, hD1⟩ := hB
  rw [ht] at hP1
  have hK1 := va_K.moved hvm.symm hK1
  obtain ⟨hP, hD⟩ := tz_put (ws' := (tz_XW o aw ai ak sc rd fo tx ar at_ ao w0 w1 w2 w3 w4 w5 sw sh mo nw kp ik mr mw mq mz my mb mx mv ad ab ai0 ai1 cw cai ck csw csh ctx cr ct_ co_ cn_ ck_ ci_ cr_ cw_ cs_ cz_ cy_ cb2_ cx_ cv_ cd cb ci0 ci1 ty gr_3 fk fx ft_ fo_ gw_4 gh_5 la lb rt nl_ np_ nk_ ns_ nv_ ni_ nf_ ud zd fd ub zb fb ui0 zi0 fi0 ui1 zi1 fi1 la_ lb_ h_allWeights_8 h_trulyIs_9 h_canBe_10 ld_ le_ sm_ jb ta_ tl_ tk_ vl_ fn fk_ fi_ gr__12 gw__11 fs_ fz_ fb_ fy_ fx_ fv_)) hP hD [123, 124, 128, 127] rfl hk1 hP1 rfl rfl rfl
  generalize H1 = H at hP hS ⊢
  refine lv_pop hx hb dL_law_632 rfl ?_
  refine lv_goto (tgt := 1153) hx hb dL_law_633 (by decide) ?_
  exact K H _ ls ⟨ty, gr_3, fk, fx, ft_, fo_, gw_4, gh_5, la, lb, rt, nl_, np_, nk_, ns_, nv_, ni_, nf_, ud, zd, fd, ub, zb, fb, ui0, zi0, fi0, ui1, zi1, fi1, la_, lb_, h_allWeights_8, h_trulyIs_9, h_canBe_10, ld_, le_, sm_, jb, ta_, tl_, tk_, vl_, fn, fk_, fi_, gr__12, gw__11, fs_, fz_, fb_, fy_, fx_, fv_, hB_d, hB_b, hB_i0, hB_i1, hO_n, hO_k, hO_x, hO_b, hP, hD⟩ hS hl
set_option maxRecDepth 20000 in
theorem gL_law_X11_agreed : GoodIn lw_tbl (wsV RL 82 RX11 yX11_agreed wsX11_agreed) := tz_good [(31, 23), (32, 0), (32, 1), (0, 2), (32, 2), (1, 10), (5, 20), (11, 15), (10, 4), (10, 5), (10, 6), (3, 4), (10, 7), (3, 15), (7, 7), (7, 8), (7, 9), (0, 2), (7, 10), (7, 11), (7, 12), (7, 13), (7, 14), (2, 6), (5, 21), (5, 22), (5, 23), (6, 0), (10, 8), (10, 9), (10, 10), (10, 11), (3, 22), (3, 21), (8, 8), (8, 9), (8, 10), (8, 11), (46, 0), (46, 1), (46, 2), (46, 3), (46, 4), (46, 5), (46, 6), (46, 7), (46, 8), (46, 9), (46, 10), (46, 11), (54, 0), (54, 1), (54, 2), (54, 3), (54, 4), (54, 5), (58, 0), (58, 1), (58, 2), (58, 3)] (by decide +kernel) (by decide +kernel)
set_option maxRecDepth 20000 in
theorem gL_law_X12_agreed : GoodIn lw_tbl (wsV RL 85 RX12 yX12_agreed wsX12_agreed) := tz_good [(32, 3), (32, 4), (32, 5), (0, 5), (32, 6), (5, 4), (10, 20), (10, 21), (10, 22), (0, 5), (10, 23), (8, 17), (8, 18), (8, 19), (8, 20), (8, 21), (8, 22), (8, 23), (5, 7), (28, 10), (28, 11), (28, 12), (28, 13), (47, 0), (47, 1), (47, 2), (47, 3), (47, 4), (47, 5), (47, 6), (47, 7), (47, 8), (47, 9), (47, 10), (47, 11), (47, 12), (47, 13), (47, 14), (47, 15), (47, 16), (47, 17), (47, 18), (47, 19), (47, 20), (47, 21), (47, 22), (47, 23)] (by decide +kernel) (by decide +kernel)
theorem dL_law_636 : decode cL_law 636 = .ok (.aload_n 1, 1) := by decide +kernel
theorem dL_law_637 : decode cL_law 637 = .ok (.aload_n 0, 1) := by decide +kernel
theorem dL_law_638 : decode cL_law 638 = .ok (.iload_n 3, 1) := by decide +kernel
theorem dL_law_639 : decode cL_law 639 = .ok (.iconst 1, 1) := by decide +kernel
theorem dL_law_640 : decode cL_law 640 = .ok (.iadd, 1) := by decide +kernel
theorem dL_law_641 : decode cL_law 641 = .ok (.iaload, 1) := by decide +kernel
theorem dL_law_642 : decode cL_law 642 = .ok (.invokevirtual 82, 3) := by decide +kernel
theorem dL_law_645 : decode cL_law 645 = .ok (.pop, 1) := by decide +kernel
theorem dL_law_646 : decode cL_law 646 = .ok (.aload_n 2, 1) := by decide +kernel
theorem dL_law_647 : decode cL_law 647 = .ok (.aload_n 0, 1) := by decide +kernel
theorem dL_law_648 : decode cL_law 648 = .ok (.iload_n 3, 1) := by decide +kernel
theorem dL_law_649 : decode cL_law 649 = .ok (.iconst 1, 1) := by decide +kernel
theorem dL_law_650 : decode cL_law 650 = .ok (.iadd, 1) := by decide +kernel
theorem dL_law_651 : decode cL_law 651 = .ok (.iaload, 1) := by decide +kernel
theorem dL_law_652 : decode cL_law 652 = .ok (.invokevirtual 85, 3) := by decide +kernel
theorem dL_law_655 : decode cL_law 655 = .ok (.pop, 1) := by decide +kernel
theorem dL_law_656 : decode cL_law 656 = .ok (.goto 497, 3) := by decide +kernel
set_option maxHeartbeats 8000000 in
set_option maxRecDepth 100000 in
theorem lc_agreed {p : Program} {l : Launch} {e : Env} {s : State} {m : MethodId} {below : List Frame} {meth : Method} {c : Code} {b L : Nat} {xs : Nat → Int32} (hL : L ≤ 3072) (C0 : lw_At p s m meth c b L xs) (hN : tz_N s) (A : Nat → Prop) (hA : ∀ q : Nat, s.heap.size ≤ q → A q) (hA2 : ∀ q : Nat, A q → s.heap.size ≤ q) (hbA : ¬ A b) (hV : tz_V A s s.heap) (dC : Nat → ClassId) (dI : Nat → Nat → Nat) (o : Nat) (aw : Nat) (ai : Nat) (ak : Nat) (sc : Nat) (rd : Nat) (fo : Nat) (tx : Nat) (ar : Nat) (at_ : Nat) (ao : Nat) (w0 : Nat) (w1 : Nat) (w2 : Nat) (w3 : Nat) (w4 : Nat) (w5 : Nat) (sw : Nat) (sh : Nat) (mo : Nat) (nw : Nat) (kp : Nat) (ik : Nat) (mr : Nat) (mw : Nat) (mq : Nat) (mz : Nat) (my : Nat) (mb : Nat) (mx : Nat) (mv : Nat) (ad : Nat → Nat) (ab : Nat → Nat) (ai0 : Nat → Nat) (ai1 : Nat → Nat) (cw : ClassId) (cai : ClassId) (ck : ClassId) (csw : ClassId) (csh : ClassId) (ctx : ClassId) (cr : ClassId) (ct_ : ClassId) (co_ : ClassId) (cn_ : ClassId) (ck_ : ClassId) (ci_ : ClassId) (cr_ : ClassId) (cw_ : ClassId) (cs_ : ClassId) (cz_ : ClassId) (cy_ : ClassId) (cb2_ : ClassId) (cx_ : ClassId) (cv_ : ClassId) (cd : Nat → ClassId) (cb : Nat → ClassId) (ci0 : Nat → ClassId) (ci1 : Nat → ClassId) (hK : va_K (dC, dI) vwCl (tz_T cw cai ck csw csh ctx cr ct_ co_ cn_ ck_ ci_ cr_ cw_ cs_ cz_ cy_ cb2_ cx_ cv_ cd cb ci0 ci1) s) (i : Nat) (hi : i + 6 ≤ L) (H : Heap) (locs : List Loc) (hI : tz_I dC dI o aw ai ak sc rd fo tx ar at_ ao w0 w1 w2 w3 w4 w5 sw sh mo nw kp ik mr mw mq mz my mb mx mv ad ab ai0 ai1 cw cai ck csw csh ctx cr ct_ co_ cn_ ck_ ci_ cr_ cw_ cs_ cz_ cy_ cb2_ cx_ cv_ cd cb ci0 ci1 A H) (hS : va_S A s.heap H locs) (ls : Array Slot) (hl : lv_has ls 4 [(3, .int (nI i)), (2, .ref mo), (1, .ref o), (0, .ref b)]) (K : ∀ (H : Heap) (locs : List Loc) (ls : Array Slot), tz_I dC dI o aw ai ak sc rd fo tx ar at_ ao w0 w1 w2 w3 w4 w5 sw sh mo nw kp ik mr mw mq mz my mb mx mv ad ab ai0 ai1 cw cai ck csw csh ctx cr ct_ co_ cn_ ck_ ci_ cr_ cw_ cs_ cz_ cy_ cb2_ cx_ cv_ cd cb ci0 ci1 A H → va_S A s.heap H locs → lv_has ls 4 [(3, .int (nI i)), (2, .ref mo), (1, .ref o), (0, .ref b)] → W p l e room_1 s m #[Value.ref b] below meth c H locs 136 3195 (lw_Z below #[Value.ref b] s) (F0 m 1153 ls [])) : W p l e room_1 s m #[Value.ref b] below meth c H locs 136 3195 (lw_Z below #[Value.ref b] s) (F0 m 636 ls []) := by
  obtain ⟨hx, hb, hr, hml, hown, hts, hX, hbl, hlocks, hgv⟩ := C0
  have hb : c.code = cL_law := hb
  have hown : s.vm.findClass RL = some m.cls := hown
  obtain ⟨ty, fr, fk, fx, ft_, fo_, fw, fh, la, lb, rt, nl_, np_, nk_, ns_, nv_, ni_, nf_, ud, zd, fd, ub, zb, fb, ui0, zi0, fi0, ui1, zi1, fi1, la_, lb_, lc_, ti_, cb_, ld_, le_, sm_, jb, ta_, tl_, tk_, vl_, fn, fk_, fi_, fr_, fw_, fs_, fz_, fb_, fy_, fx_, fv_, hB_d, hB_b, hB_i0, hB_i1, hO_n, hO_k, hO_x, hO_b, hP, hD⟩ := hI
  have hu_zd := hB_d.2
  have hu_zb := hB_b.2
  have hu_zi0 := hB_i0.2
  have hu_zi1 := hB_i1.2
  refine lv_aload_n hx hb dL_law_636 rfl (lv_at hl 2 rfl) ?_
  refine lv_aload_n hx hb dL_law_637 rfl (lv_at hl 3 rfl) ?_
  refine lv_iload_n hx hb dL_law_638 rfl (lv_at hl 0 rfl) ?_
  refine lv_iconst (v := 1) hx hb dL_law_639 (by decide) ?_
  refine lv_iadd hx hb dL_law_640 ?_
  refine tz_i (nI (i + 1)) (nI_add i 1) ?_
  refine va_sld hx hb hX hbl hbA hS (vp_in_nI (n := (i + 1)) (N := L) (by omega) (by omega)) dL_law_641 ?_
  refine tz_i (xs (i + 1)) (congrArg xs (nI_clamp (by omega))) ?_
  have hPc := hP.sub (ws' := [(o, .inr (11, [.ref aw, .ref (ab 0), .ref ai, .ref ak, .ref sc, .ref rd, .ref fo, .ref tx, .int ty, .ref ar, .ref at_, .ref ao])), (ar, .inl (cr, 3, .inl fr)), ((ab 0), .inr (0, [.ref (ab 1), .ref (ab 3), .ref (ab 5), .ref (ab 7), .ref (ab 9), .int (nI ub)])), ((ab 3), .inr (6, [.int 4, .int 5, .ref (ab 4), .int (nI (zb 1))])), ((ab 4), .inl ((cb 1), 20, .inl (fb 1))), ((ab 5), .inr (6, [.int 4, .int 8, .ref (ab 6), .int (nI (zb 2))])), ((ab 6), .inl ((cb 2), 32, .inl (fb 2)))]) [0, 1, 45, 48, 49, 50, 51] rfl
  have hDc := hD.sub (ws' := [(o, .inr (11, [.ref aw, .ref (ab 0), .ref ai, .ref ak, .ref sc, .ref rd, .ref fo, .ref tx, .int ty, .ref ar, .ref at_, .ref ao])), (ar, .inl (cr, 3, .inl fr)), ((ab 0), .inr (0, [.ref (ab 1), .ref (ab 3), .ref (ab 5), .ref (ab 7), .ref (ab 9), .int (nI ub)])), ((ab 3), .inr (6, [.int 4, .int 5, .ref (ab 4), .int (nI (zb 1))])), ((ab 4), .inl ((cb 1), 20, .inl (fb 1))), ((ab 5), .inr (6, [.int 4, .int 8, .ref (ab 6), .int (nI (zb 2))])), ((ab 6), .inl ((cb 2), 32, .inl (fb 2)))]) [0, 1, 45, 48, 49, 50, 51] (by decide) rfl
  have hKc := hK.sub (tys' := [(cr, .int), ((cb 1), .int), ((cb 2), .int)]) [0, 23, 24] rfl
  have hFc := va_free (wc := [(o, .inr (11, [.ref aw, .ref (ab 0), .ref ai, .ref ak, .ref sc, .ref rd, .ref fo, .ref tx, .int ty, .ref ar, .ref at_, .ref ao])), (ar, .inl (cr, 3, .inl fr)), ((ab 0), .inr (0, [.ref (ab 1), .ref (ab 3), .ref (ab 5), .ref (ab 7), .ref (ab 9), .int (nI ub)])), ((ab 3), .inr (6, [.int 4, .int 5, .ref (ab 4), .int (nI (zb 1))])), ((ab 4), .inl ((cb 1), 20, .inl (fb 1))), ((ab 5), .inr (6, [.int 4, .int 8, .ref (ab 6), .int (nI (zb 2))])), ((ab 6), .inl ((cb 2), 32, .inl (fb 2)))]) hD hS hA [0, 1, 45, 48, 49, 50, 51] rfl
  refine va_calli (va_runV (As := [.int (xs (i + 1))]) (rest := []) ⟨hx, hb, hml, hown, hts⟩ (x_agreed l dC dI o aw ab ai ak sc rd fo tx ty ar at_ ao cr fr ub zb cb fb (xs (i + 1)) H.size ⟨hB_b.1, show ub ≤ 8 by omega⟩) (cwV 1 hts gL_law_X11_agreed rfl rfl rfl (by decide +kernel) ⟨Nat.le_of_ble_eq_true rfl, Nat.le_of_ble_eq_true rfl⟩) ⟨fun a U g mk q => by obtain ⟨q0, q1, qP, qK, qD⟩ := q; exact ⟨q0, q1, qP, va_K.moved (u := U) (U := U.calling g mk a) (Vm.Alike.refl U.vm) qK, qD⟩, va_recv hK hP (ci := 11) (q0 := 0) rfl rfl, fun U hU hW => ⟨rfl, by rw [hU], by rw [hU]; exact hPc, va_K.moved hW.alike hKc, hDc.weaken (fun _ _ _ _ => trivial)⟩⟩ rfl rfl hl.1 rfl (lv_room (Nat.le_of_ble_eq_true rfl)) dL_law_642 ⟨Nat.le_of_ble_eq_true rfl, Nat.le_of_ble_eq_true rfl⟩) hS (fun q _ h => hFc q h) hFc (fun r_1 u_ t H1 locs ht hvm hw_2 hB hz1 hk1 hS => ?_)
  obtain ⟨gr_3, hP1, hK1, hD1⟩ := hB
  rw [ht] at hP1
  have hK1 := va_K.moved hvm.symm hK1
  obtain ⟨hP, hD⟩ := tz_put (ws' := (tz_XW o aw ai ak sc rd fo tx ar at_ ao w0 w1 w2 w3 w4 w5 sw sh mo nw kp ik mr mw mq mz my mb mx mv ad ab ai0 ai1 cw cai ck csw csh ctx cr ct_ co_ cn_ ck_ ci_ cr_ cw_ cs_ cz_ cy_ cb2_ cx_ cv_ cd cb ci0 ci1 ty gr_3 fk fx ft_ fo_ fw fh la lb rt nl_ np_ nk_ ns_ nv_ ni_ nf_ ud zd fd ub zb fb ui0 zi0 fi0 ui1 zi1 fi1 la_ lb_ lc_ ti_ cb_ ld_ le_ sm_ jb ta_ tl_ tk_ vl_ fn fk_ fi_ fr_ fw_ fs_ fz_ fb_ fy_ fx_ fv_)) hP hD [0, 1, 45, 48, 49, 50, 51] rfl hk1 hP1 rfl rfl rfl
  generalize H1 = H at hP hS ⊢
  refine lv_pop hx hb dL_law_645 rfl ?_
  refine lv_aload_n hx hb dL_law_646 rfl (lv_at hl 1 rfl) ?_
  refine lv_aload_n hx hb dL_law_647 rfl (lv_at hl 3 rfl) ?_
  refine lv_iload_n hx hb dL_law_648 rfl (lv_at hl 0 rfl) ?_
  refine lv_iconst (v := 1) hx hb dL_law_649 (by decide) ?_
  refine lv_iadd hx hb dL_law_650 ?_
  refine tz_i (nI (i + 1)) (nI_add i 1) ?_
  refine va_sld hx hb hX hbl hbA hS (vp_in_nI (n := (i + 1)) (N := L) (by omega) (by omega)) dL_law_651 ?_
  refine tz_i (xs (i + 1)) (congrArg xs (nI_clamp (by omega))) ?_
  have hPc := hP.sub (ws' := [(mo, .inr (12, [.ref nw, .ref kp, .ref ik, .ref mr, .long la_, .long lb_, .ref mw, .long lc_, .int ti_, .int cb_, .long ld_, .long le_, .ref mq, .ref mz, .ref my, .int sm_, .ref mb, .int (nI jb), .int ta_, .int tl_, .int tk_, .int vl_, .ref mx, .ref mv])), (nw, .inl (cn_, 350, .inl fn)), (mr, .inl (cr_, 3, .inl fr_))]) [123, 124, 127] rfl
  have hDc := hD.sub (ws' := [(mo, .inr (12, [.ref nw, .ref kp, .ref ik, .ref mr, .long la_, .long lb_, .ref mw, .long lc_, .int ti_, .int cb_, .long ld_, .long le_, .ref mq, .ref mz, .ref my, .int sm_, .ref mb, .int (nI jb), .int ta_, .int tl_, .int tk_, .int vl_, .ref mx, .ref mv])), (nw, .inl (cn_, 350, .inl fn)), (mr, .inl (cr_, 3, .inl fr_))]) [123, 124, 127] (by decide) rfl
  have hKc := hK.sub (tys' := [(cn_, .int), (cr_, .int)]) [61, 64] rfl
  have hFc := va_free (wc := [(mo, .inr (12, [.ref nw, .ref kp, .ref ik, .ref mr, .long la_, .long lb_, .ref mw, .long lc_, .int ti_, .int cb_, .long ld_, .long le_, .ref mq, .ref mz, .ref my, .int sm_, .ref mb, .int (nI jb), .int ta_, .int tl_, .int tk_, .int vl_, .ref mx, .ref mv])), (nw, .inl (cn_, 350, .inl fn)), (mr, .inl (cr_, 3, .inl fr_))]) hD hS hA [123, 124, 127] rfl
  refine va_calli (va_runV (As := [.int (xs (i + 1))]) (rest := []) ⟨hx, hb, hml, hown, hts⟩ (m_agreed l dC dI mo nw kp ik mr la_ lb_ mw lc_ ti_ cb_ ld_ le_ mq mz my sm_ mb (nI jb) ta_ tl_ tk_ vl_ mx mv cn_ fn cr_ fr_ (xs (i + 1)) H.size hO_n) (cwV 1 hts gL_law_X12_agreed rfl rfl rfl (by decide +kernel) ⟨Nat.le_of_ble_eq_true rfl, Nat.le_of_ble_eq_true rfl⟩) ⟨fun a U g mk q => by obtain ⟨q0, q1, qP, qK, qD⟩ := q; exact ⟨q0, q1, qP, va_K.moved (u := U) (U := U.calling g mk a) (Vm.Alike.refl U.vm) qK, qD⟩, va_recv hK hP (ci := 12) (q0 := 123) rfl rfl, fun U hU hW => ⟨rfl, by rw [hU], by rw [hU]; exact hPc, va_K.moved hW.alike hKc, hDc.weaken (fun _ _ _ _ => trivial)⟩⟩ rfl rfl hl.1 rfl (lv_room (Nat.le_of_ble_eq_true rfl)) dL_law_652 ⟨Nat.le_of_ble_eq_true rfl, Nat.le_of_ble_eq_true rfl⟩) hS (fun q _ h => hFc q h) hFc (fun r_4 u_ t H1 locs ht hvm hw_5 hB hz1 hk1 hS => ?_)
  obtain ⟨gr__6, hP1, hK1, hD1⟩ := hB
  rw [ht] at hP1
  have hK1 := va_K.moved hvm.symm hK1
  obtain ⟨hP, hD⟩ := tz_put (ws' := (tz_XW o aw ai ak sc rd fo tx ar at_ ao w0 w1 w2 w3 w4 w5 sw sh mo nw kp ik mr mw mq mz my mb mx mv ad ab ai0 ai1 cw cai ck csw csh ctx cr ct_ co_ cn_ ck_ ci_ cr_ cw_ cs_ cz_ cy_ cb2_ cx_ cv_ cd cb ci0 ci1 ty gr_3 fk fx ft_ fo_ fw fh la lb rt nl_ np_ nk_ ns_ nv_ ni_ nf_ ud zd fd ub zb fb ui0 zi0 fi0 ui1 zi1 fi1 la_ lb_ lc_ ti_ cb_ ld_ le_ sm_ jb ta_ tl_ tk_ vl_ fn fk_ fi_ gr__6 fw_ fs_ fz_ fb_ fy_ fx_ fv_)) hP hD [123, 124, 127] rfl hk1 hP1 rfl rfl rfl
  generalize H1 = H at hP hS ⊢
  refine lv_pop hx hb dL_law_655 rfl ?_
  refine lv_goto (tgt := 1153) hx hb dL_law_656 (by decide) ?_
  exact K H _ ls ⟨ty, gr_3, fk, fx, ft_, fo_, fw, fh, la, lb, rt, nl_, np_, nk_, ns_, nv_, ni_, nf_, ud, zd, fd, ub, zb, fb, ui0, zi0, fi0, ui1, zi1, fi1, la_, lb_, lc_, ti_, cb_, ld_, le_, sm_, jb, ta_, tl_, tk_, vl_, fn, fk_, fi_, gr__6, fw_, fs_, fz_, fb_, fy_, fx_, fv_, hB_d, hB_b, hB_i0, hB_i1, hO_n, hO_k, hO_x, hO_b, hP, hD⟩ hS hl
set_option maxRecDepth 20000 in
theorem gL_law_X11_believe : GoodIn lw_tbl (wsV RL 86 RX11 yX11_believe wsX11_believe) := tz_good [(32, 7), (32, 8), (32, 9), (0, 2), (32, 10), (1, 10), (11, 15), (7, 3), (5, 21), (5, 22), (5, 23), (3, 4), (6, 0), (3, 15), (32, 11), (32, 12), (32, 13), (0, 2), (32, 14), (5, 20), (2, 7), (1, 17), (1, 6), (29, 9), (29, 10), (29, 11), (1, 16), (29, 12), (4, 3), (29, 13), (29, 14), (29, 15), (29, 16), (29, 17), (29, 18), (29, 19), (10, 9), (10, 10), (10, 11), (3, 22), (3, 21), (8, 8), (8, 9), (8, 10), (8, 11), (29, 20), (29, 21), (29, 22), (29, 23), (30, 0), (4, 4), (30, 1), (24, 1), (24, 2), (24, 3), (24, 4), (0, 17), (24, 5), (24, 6), (24, 7), (24, 2), (0, 14), (24, 9), (24, 10), (24, 11), (0, 23), (24, 12), (24, 13), (24, 14), (24, 15), (24, 16), (0, 20), (24, 17), (30, 1), (24, 19), (24, 20), (24, 21), (1, 5), (24, 22), (24, 23), (25, 0), (25, 1), (25, 2), (1, 2), (25, 3), (25, 4), (25, 5), (25, 6), (25, 7), (31, 11), (31, 12), (31, 13), (31, 14), (32, 15), (32, 16), (32, 17), (32, 18), (10, 8), (46, 0), (46, 1), (46, 2), (46, 3), (46, 4), (46, 5), (46, 6), (46, 7), (46, 8), (46, 9), (46, 10), (46, 11), (54, 0), (54, 1), (54, 2), (54, 3), (54, 4), (54, 5), (58, 0), (58, 1), (58, 2), (58, 3), (55, 0), (55, 1)] (by decide +kernel) (by decide +kernel)
set_option maxRecDepth 20000 in
theorem gL_law_X12_believe : GoodIn lw_tbl (wsV RL 89 RX12 yX12_believe wsX12_believe) := tz_good [(32, 19), (32, 20), (32, 21), (0, 5), (32, 22), (5, 4), (32, 23), (33, 0), (33, 1), (0, 5), (33, 2), (30, 20), (28, 10), (28, 11), (28, 12), (28, 13), (30, 16), (30, 17), (30, 18), (30, 19), (30, 15), (30, 21), (5, 9), (30, 22), (30, 23), (31, 0), (31, 1), (11, 4), (11, 5), (11, 6), (11, 7), (8, 17), (8, 18), (8, 19), (27, 1), (27, 2), (27, 3), (27, 4), (27, 5), (27, 6), (27, 7), (27, 8), (27, 9), (27, 10), (27, 11), (27, 12), (27, 13), (27, 14), (47, 0), (47, 1), (47, 2), (47, 3), (47, 4), (47, 5), (47, 6), (47, 7), (47, 8), (47, 9), (47, 10), (47, 11), (47, 12), (47, 13), (47, 14), (47, 15), (47, 16), (47, 17), (47, 18), (47, 19), (47, 20), (47, 21), (47, 22), (47, 23)] (by decide +kernel) (by decide +kernel)
theorem dL_law_659 : decode cL_law 659 = .ok (.aload_n 1, 1) := by decide +kernel
theorem dL_law_660 : decode cL_law 660 = .ok (.invokevirtual 86, 3) := by decide +kernel
theorem dL_law_663 : decode cL_law 663 = .ok (.pop, 1) := by decide +kernel
theorem dL_law_664 : decode cL_law 664 = .ok (.aload_n 2, 1) := by decide +kernel
theorem dL_law_665 : decode cL_law 665 = .ok (.invokevirtual 89, 3) := by decide +kernel
theorem dL_law_668 : decode cL_law 668 = .ok (.pop, 1) := by decide +kernel
theorem dL_law_669 : decode cL_law 669 = .ok (.goto 484, 3) := by decide +kernel
set_option maxHeartbeats 8000000 in
set_option maxRecDepth 100000 in
theorem lc_believe {p : Program} {l : Launch} {e : Env} {s : State} {m : MethodId} {below : List Frame} {meth : Method} {c : Code} {b L : Nat} {xs : Nat → Int32} (hL : L ≤ 3072) (C0 : lw_At p s m meth c b L xs) (hN : tz_N s) (A : Nat → Prop) (hA : ∀ q : Nat, s.heap.size ≤ q → A q) (hA2 : ∀ q : Nat, A q → s.heap.size ≤ q) (hbA : ¬ A b) (hV : tz_V A s s.heap) (dC : Nat → ClassId) (dI : Nat → Nat → Nat) (o : Nat) (aw : Nat) (ai : Nat) (ak : Nat) (sc : Nat) (rd : Nat) (fo : Nat) (tx : Nat) (ar : Nat) (at_ : Nat) (ao : Nat) (w0 : Nat) (w1 : Nat) (w2 : Nat) (w3 : Nat) (w4 : Nat) (w5 : Nat) (sw : Nat) (sh : Nat) (mo : Nat) (nw : Nat) (kp : Nat) (ik : Nat) (mr : Nat) (mw : Nat) (mq : Nat) (mz : Nat) (my : Nat) (mb : Nat) (mx : Nat) (mv : Nat) (ad : Nat → Nat) (ab : Nat → Nat) (ai0 : Nat → Nat) (ai1 : Nat → Nat) (cw : ClassId) (cai : ClassId) (ck : ClassId) (csw : ClassId) (csh : ClassId) (ctx : ClassId) (cr : ClassId) (ct_ : ClassId) (co_ : ClassId) (cn_ : ClassId) (ck_ : ClassId) (ci_ : ClassId) (cr_ : ClassId) (cw_ : ClassId) (cs_ : ClassId) (cz_ : ClassId) (cy_ : ClassId) (cb2_ : ClassId) (cx_ : ClassId) (cv_ : ClassId) (cd : Nat → ClassId) (cb : Nat → ClassId) (ci0 : Nat → ClassId) (ci1 : Nat → ClassId) (hK : va_K (dC, dI) vwCl (tz_T cw cai ck csw csh ctx cr ct_ co_ cn_ ck_ ci_ cr_ cw_ cs_ cz_ cy_ cb2_ cx_ cv_ cd cb ci0 ci1) s) (i : Nat) (hi : i + 6 ≤ L) (H : Heap) (locs : List Loc) (hI : tz_I dC dI o aw ai ak sc rd fo tx ar at_ ao w0 w1 w2 w3 w4 w5 sw sh mo nw kp ik mr mw mq mz my mb mx mv ad ab ai0 ai1 cw cai ck csw csh ctx cr ct_ co_ cn_ ck_ ci_ cr_ cw_ cs_ cz_ cy_ cb2_ cx_ cv_ cd cb ci0 ci1 A H) (hS : va_S A s.heap H locs) (ls : Array Slot) (hl : lv_has ls 4 [(3, .int (nI i)), (2, .ref mo), (1, .ref o), (0, .ref b)]) (K : ∀ (H : Heap) (locs : List Loc) (ls : Array Slot), tz_I dC dI o aw ai ak sc rd fo tx ar at_ ao w0 w1 w2 w3 w4 w5 sw sh mo nw kp ik mr mw mq mz my mb mx mv ad ab ai0 ai1 cw cai ck csw csh ctx cr ct_ co_ cn_ ck_ ci_ cr_ cw_ cs_ cz_ cy_ cb2_ cx_ cv_ cd cb ci0 ci1 A H → va_S A s.heap H locs → lv_has ls 4 [(3, .int (nI i)), (2, .ref mo), (1, .ref o), (0, .ref b)] → W p l e room_1 s m #[Value.ref b] below meth c H locs 136 3195 (lw_Z below #[Value.ref b] s) (F0 m 1153 ls [])) : W p l e room_1 s m #[Value.ref b] below meth c H locs 136 3195 (lw_Z below #[Value.ref b] s) (F0 m 659 ls []) := by
  obtain ⟨hx, hb, hr, hml, hown, hts, hX, hbl, hlocks, hgv⟩ := C0
  have hb : c.code = cL_law := hb
  have hown : s.vm.findClass RL = some m.cls := hown
  obtain ⟨ty, fr, fk, fx, ft_, fo_, fw, fh, la, lb, rt, nl_, np_, nk_, ns_, nv_, ni_, nf_, ud, zd, fd, ub, zb, fb, ui0, zi0, fi0, ui1, zi1, fi1, la_, lb_, lc_, ti_, cb_, ld_, le_, sm_, jb, ta_, tl_, tk_, vl_, fn, fk_, fi_, fr_, fw_, fs_, fz_, fb_, fy_, fx_, fv_, hB_d, hB_b, hB_i0, hB_i1, hO_n, hO_k, hO_x, hO_b, hP, hD⟩ := hI
  have hu_zd := hB_d.2
  have hu_zb := hB_b.2
  have hu_zi0 := hB_i0.2
  have hu_zi1 := hB_i1.2
  refine lv_aload_n hx hb dL_law_659 rfl (lv_at hl 2 rfl) ?_
  have hPc := hP.sub (ws' := [(o, .inr (11, [.ref aw, .ref (ab 0), .ref ai, .ref ak, .ref sc, .ref rd, .ref fo, .ref tx, .int ty, .ref ar, .ref at_, .ref ao])), (aw, .inl (cw, 6, .inr (.inr (.inr (.inr (tz_w w0 w1 w2 w3 w4 w5)))))), (w0, .inr (4, [])), (w1, .inr (1, [])), (w2, .inr (10, [])), (w3, .inr (3, [])), (w4, .inr (9, [])), (w5, .inr (8, [])), (sc, .inr (7, [.ref sw, .ref sh])), (sw, .inl (csw, 21, .inr (.inl fw))), (sh, .inl (csh, 21, .inl fh)), (at_, .inl (ct_, 5, .inl ft_)), ((ab 0), .inr (0, [.ref (ab 1), .ref (ab 3), .ref (ab 5), .ref (ab 7), .ref (ab 9), .int (nI ub)])), ((ab 1), .inr (6, [.int 1, .int 5, .ref (ab 2), .int (nI (zb 0))])), ((ab 2), .inl ((cb 0), 5, .inl (fb 0))), ((ab 3), .inr (6, [.int 4, .int 5, .ref (ab 4), .int (nI (zb 1))])), ((ab 4), .inl ((cb 1), 20, .inl (fb 1))), ((ab 5), .inr (6, [.int 4, .int 8, .ref (ab 6), .int (nI (zb 2))])), ((ab 6), .inl ((cb 2), 32, .inl (fb 2)))]) [0, 7, 8, 9, 10, 11, 12, 13, 14, 15, 16, 5, 45, 46, 47, 48, 49, 50, 51] rfl
  have hDc := hD.sub (ws' := [(o, .inr (11, [.ref aw, .ref (ab 0), .ref ai, .ref ak, .ref sc, .ref rd, .ref fo, .ref tx, .int ty, .ref ar, .ref at_, .ref ao])), (aw, .inl (cw, 6, .inr (.inr (.inr (.inr (tz_w w0 w1 w2 w3 w4 w5)))))), (w0, .inr (4, [])), (w1, .inr (1, [])), (w2, .inr (10, [])), (w3, .inr (3, [])), (w4, .inr (9, [])), (w5, .inr (8, [])), (sc, .inr (7, [.ref sw, .ref sh])), (sw, .inl (csw, 21, .inr (.inl fw))), (sh, .inl (csh, 21, .inl fh)), (at_, .inl (ct_, 5, .inl ft_)), ((ab 0), .inr (0, [.ref (ab 1), .ref (ab 3), .ref (ab 5), .ref (ab 7), .ref (ab 9), .int (nI ub)])), ((ab 1), .inr (6, [.int 1, .int 5, .ref (ab 2), .int (nI (zb 0))])), ((ab 2), .inl ((cb 0), 5, .inl (fb 0))), ((ab 3), .inr (6, [.int 4, .int 5, .ref (ab 4), .int (nI (zb 1))])), ((ab 4), .inl ((cb 1), 20, .inl (fb 1))), ((ab 5), .inr (6, [.int 4, .int 8, .ref (ab 6), .int (nI (zb 2))])), ((ab 6), .inl ((cb 2), 32, .inl (fb 2)))]) [0, 7, 8, 9, 10, 11, 12, 13, 14, 15, 16, 5, 45, 46, 47, 48, 49, 50, 51] (by decide) rfl
  have hKc := hK.sub (tys' := [(cw, (.object "ThriceCounted$Ones")), (csw, .long), (csh, .int), (ct_, .int), ((cb 0), .int), ((cb 1), .int), ((cb 2), .int)]) [6, 7, 8, 4, 22, 23, 24] rfl
  have hFc := va_free (wc := [(o, .inr (11, [.ref aw, .ref (ab 0), .ref ai, .ref ak, .ref sc, .ref rd, .ref fo, .ref tx, .int ty, .ref ar, .ref at_, .ref ao])), (aw, .inl (cw, 6, .inr (.inr (.inr (.inr (tz_w w0 w1 w2 w3 w4 w5)))))), (w0, .inr (4, [])), (w1, .inr (1, [])), (w2, .inr (10, [])), (w3, .inr (3, [])), (w4, .inr (9, [])), (w5, .inr (8, [])), (sc, .inr (7, [.ref sw, .ref sh])), (sw, .inl (csw, 21, .inr (.inl fw))), (sh, .inl (csh, 21, .inl fh)), (at_, .inl (ct_, 5, .inl ft_)), ((ab 0), .inr (0, [.ref (ab 1), .ref (ab 3), .ref (ab 5), .ref (ab 7), .ref (ab 9), .int (nI ub)])), ((ab 1), .inr (6, [.int 1, .int 5, .ref (ab 2), .int (nI (zb 0))])), ((ab 2), .inl ((cb 0), 5, .inl (fb 0))), ((ab 3), .inr (6, [.int 4, .int 5, .ref (ab 4), .int (nI (zb 1))])), ((ab 4), .inl ((cb 1), 20, .inl (fb 1))), ((ab 5), .inr (6, [.int 4, .int 8, .ref (ab 6), .int (nI (zb 2))])), ((ab 6), .inl ((cb 2), 32, .inl (fb 2)))]) hD hS hA [0, 7, 8, 9, 10, 11, 12, 13, 14, 15, 16, 5, 45, 46, 47, 48, 49, 50, 51] rfl
  refine va_calli (va_runV (As := []) (rest := []) ⟨hx, hb, hml, hown, hts⟩ (x_believe l dC dI o aw ab ai ak sc rd fo tx ty ar at_ ao cw w0 w1 w2 w3 w4 w5 sw sh csw fw csh fh ct_ ft_ ub zb cb fb H.size ⟨hB_b.1, show ub ≤ 8 by omega⟩) (cwV 0 hts gL_law_X11_believe rfl rfl rfl (by decide +kernel) ⟨Nat.le_of_ble_eq_true rfl, Nat.le_of_ble_eq_true rfl⟩) ⟨fun a U g mk q => by obtain ⟨q0, q1, qP, qK, qD⟩ := q; exact ⟨q0, q1, qP, va_K.moved (u := U) (U := U.calling g mk a) (Vm.Alike.refl U.vm) qK, qD⟩, va_recv hK hP (ci := 11) (q0 := 0) rfl rfl, fun U hU hW => ⟨rfl, by rw [hU], by rw [hU]; exact hPc, va_K.moved hW.alike hKc, hDc.weaken (fun _ _ _ _ => trivial)⟩⟩ rfl rfl hl.1 rfl (lv_room (Nat.le_of_ble_eq_true rfl)) dL_law_660 ⟨Nat.le_of_ble_eq_true rfl, Nat.le_of_ble_eq_true rfl⟩) hS (fun q _ h => hFc q h) hFc (fun r_1 u_ t H1 locs ht hvm hw_2 hB hz1 hk1 hS => ?_)
  obtain ⟨gw_3, gh_4, gt__5, hP1, hK1, hD1⟩ := hB
  rw [ht] at hP1
  have hK1 := va_K.moved hvm.symm hK1
  obtain ⟨hP, hD⟩ := tz_put (ws' := (tz_XW o aw ai ak sc rd fo tx ar at_ ao w0 w1 w2 w3 w4 w5 sw sh mo nw kp ik mr mw mq mz my mb mx mv ad ab ai0 ai1 cw cai ck csw csh ctx cr ct_ co_ cn_ ck_ ci_ cr_ cw_ cs_ cz_ cy_ cb2_ cx_ cv_ cd cb ci0 ci1 ty fr fk fx gt__5 fo_ gw_3 gh_4 la lb rt nl_ np_ nk_ ns_ nv_ ni_ nf_ ud zd fd ub zb fb ui0 zi0 fi0 ui1 zi1 fi1 la_ lb_ lc_ ti_ cb_ ld_ le_ sm_ jb ta_ tl_ tk_ vl_ fn fk_ fi_ fr_ fw_ fs_ fz_ fb_ fy_ fx_ fv_)) hP hD [0, 7, 8, 9, 10, 11, 12, 13, 14, 15, 16, 5, 45, 46, 47, 48, 49, 50, 51] rfl hk1 hP1 rfl rfl rfl
  generalize H1 = H at hP hS ⊢
  refine lv_pop hx hb dL_law_663 rfl ?_
  refine lv_aload_n hx hb dL_law_664 rfl (lv_at hl 1 rfl) ?_
  have hPc := hP.sub (ws' := [(mo, .inr (12, [.ref nw, .ref kp, .ref ik, .ref mr, .long la_, .long lb_, .ref mw, .long lc_, .int ti_, .int cb_, .long ld_, .long le_, .ref mq, .ref mz, .ref my, .int sm_, .ref mb, .int (nI jb), .int ta_, .int tl_, .int tk_, .int vl_, .ref mx, .ref mv])), (nw, .inl (cn_, 350, .inl fn)), (mw, .inl (cw_, 21, .inr (.inl fw_)))]) [123, 124, 128] rfl
  have hDc := hD.sub (ws' := [(mo, .inr (12, [.ref nw, .ref kp, .ref ik, .ref mr, .long la_, .long lb_, .ref mw, .long lc_, .int ti_, .int cb_, .long ld_, .long le_, .ref mq, .ref mz, .ref my, .int sm_, .ref mb, .int (nI jb), .int ta_, .int tl_, .int tk_, .int vl_, .ref mx, .ref mv])), (nw, .inl (cn_, 350, .inl fn)), (mw, .inl (cw_, 21, .inr (.inl fw_)))]) [123, 124, 128] (by decide) rfl
  have hKc := hK.sub (tys' := [(cn_, .int), (cw_, .long)]) [61, 65] rfl
  have hFc := va_free (wc := [(mo, .inr (12, [.ref nw, .ref kp, .ref ik, .ref mr, .long la_, .long lb_, .ref mw, .long lc_, .int ti_, .int cb_, .long ld_, .long le_, .ref mq, .ref mz, .ref my, .int sm_, .ref mb, .int (nI jb), .int ta_, .int tl_, .int tk_, .int vl_, .ref mx, .ref mv])), (nw, .inl (cn_, 350, .inl fn)), (mw, .inl (cw_, 21, .inr (.inl fw_)))]) hD hS hA [123, 124, 128] rfl
  refine va_calli (va_runV (As := []) (rest := []) ⟨hx, hb, hml, hown, hts⟩ (m_believe l dC dI mo nw kp ik mr la_ lb_ mw lc_ ti_ cb_ ld_ le_ mq mz my sm_ mb (nI jb) ta_ tl_ tk_ vl_ mx mv cn_ fn cw_ fw_ H.size hO_n) (cwV 0 hts gL_law_X12_believe rfl rfl rfl (by decide +kernel) ⟨Nat.le_of_ble_eq_true rfl, Nat.le_of_ble_eq_true rfl⟩) ⟨fun a U g mk q => by obtain ⟨q0, q1, qP, qK, qD⟩ := q; exact ⟨q0, q1, qP, va_K.moved (u := U) (U := U.calling g mk a) (Vm.Alike.refl U.vm) qK, qD⟩, va_recv hK hP (ci := 12) (q0 := 123) rfl rfl, fun U hU hW => ⟨rfl, by rw [hU], by rw [hU]; exact hPc, va_K.moved hW.alike hKc, hDc.weaken (fun _ _ _ _ => trivial)⟩⟩ rfl rfl hl.1 rfl (lv_room (Nat.le_of_ble_eq_true rfl)) dL_law_665 ⟨Nat.le_of_ble_eq_true rfl, Nat.le_of_ble_eq_true rfl⟩) hS (fun q _ h => hFc q h) hFc (fun r_6 u_ t H1 locs ht hvm hw_7 hB hz1 hk1 hS => ?_)
  obtain ⟨h_allWeights_8, h_trulyIs_9, h_canBe_10, gw__11, hP1, hK1, hD1⟩ := hB
  rw [ht] at hP1
  have hK1 := va_K.moved hvm.symm hK1
  obtain ⟨hP, hD⟩ := tz_put (ws' := (tz_XW o aw ai ak sc rd fo tx ar at_ ao w0 w1 w2 w3 w4 w5 sw sh mo nw kp ik mr mw mq mz my mb mx mv ad ab ai0 ai1 cw cai ck csw csh ctx cr ct_ co_ cn_ ck_ ci_ cr_ cw_ cs_ cz_ cy_ cb2_ cx_ cv_ cd cb ci0 ci1 ty fr fk fx gt__5 fo_ gw_3 gh_4 la lb rt nl_ np_ nk_ ns_ nv_ ni_ nf_ ud zd fd ub zb fb ui0 zi0 fi0 ui1 zi1 fi1 la_ lb_ h_allWeights_8 h_trulyIs_9 h_canBe_10 ld_ le_ sm_ jb ta_ tl_ tk_ vl_ fn fk_ fi_ fr_ gw__11 fs_ fz_ fb_ fy_ fx_ fv_)) hP hD [123, 124, 128] rfl hk1 hP1 rfl rfl rfl
  generalize H1 = H at hP hS ⊢
  refine lv_pop hx hb dL_law_668 rfl ?_
  refine lv_goto (tgt := 1153) hx hb dL_law_669 (by decide) ?_
  exact K H _ ls ⟨ty, fr, fk, fx, gt__5, fo_, gw_3, gh_4, la, lb, rt, nl_, np_, nk_, ns_, nv_, ni_, nf_, ud, zd, fd, ub, zb, fb, ui0, zi0, fi0, ui1, zi1, fi1, la_, lb_, h_allWeights_8, h_trulyIs_9, h_canBe_10, ld_, le_, sm_, jb, ta_, tl_, tk_, vl_, fn, fk_, fi_, fr_, gw__11, fs_, fz_, fb_, fy_, fx_, fv_, hB_d, hB_b, hB_i0, hB_i1, hO_n, hO_k, hO_x, hO_b, hP, hD⟩ hS hl
