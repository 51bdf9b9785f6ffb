set_option maxRecDepth 20000 in
theorem gL_law_X11_wrong : GoodIn lw_tbl (wsV RL 90 RX11 yX11_wrong wsX11_wrong) := tz_good [(33, 3), (33, 4), (33, 5), (0, 2), (33, 6), (1, 10), (11, 15), (1, 17), (1, 6), (2, 1), (10, 4), (10, 5), (10, 6), (3, 4), (10, 7), (3, 15), (7, 7), (7, 8), (7, 9), (0, 2), (7, 10), (7, 11), (7, 12), (7, 13), (7, 14), (2, 6), (10, 8), (10, 9), (10, 10), (10, 11), (3, 22), (3, 21), (8, 8), (8, 9), (8, 10), (8, 11), (29, 9), (29, 10), (29, 11), (1, 16), (29, 12), (4, 3), (29, 13), (29, 14), (29, 15), (29, 16), (29, 17), (29, 18), (29, 19), (29, 20), (5, 22), (5, 23), (6, 0), (29, 21), (29, 22), (29, 23), (30, 0), (4, 4), (30, 1), (24, 1), (24, 2), (24, 3), (24, 4), (0, 17), (24, 5), (24, 6), (24, 7), (24, 2), (0, 14), (24, 9), (24, 10), (24, 11), (0, 23), (24, 12), (24, 13), (24, 14), (24, 15), (24, 16), (0, 20), (24, 17), (30, 1), (24, 19), (24, 20), (24, 21), (1, 5), (24, 22), (24, 23), (25, 0), (25, 1), (25, 2), (1, 2), (25, 3), (25, 4), (25, 5), (25, 6), (25, 7), (30, 3), (30, 4), (30, 5), (30, 6), (30, 7), (30, 8), (30, 9), (30, 10), (6, 9), (6, 10), (6, 11), (2, 0), (6, 12), (4, 22), (4, 23), (6, 13), (6, 14), (6, 15), (46, 0), (46, 1), (46, 2), (46, 3), (46, 4), (46, 5), (46, 6), (46, 7), (46, 8), (46, 9), (46, 10), (46, 11), (54, 0), (54, 1), (54, 2), (54, 3), (54, 4), (54, 5), (58, 0), (58, 1), (58, 2), (58, 3), (55, 0), (55, 1), (57, 0), (57, 1)] (by decide +kernel) (by decide +kernel)
set_option maxRecDepth 20000 in
theorem gL_law_X12_wrong : GoodIn lw_tbl (wsV RL 93 RX12 yX12_wrong wsX12_wrong) := tz_good [(33, 7), (33, 8), (33, 9), (0, 5), (33, 10), (30, 15), (9, 19), (9, 20), (5, 9), (14, 3), (14, 4), (14, 5), (0, 5), (14, 6), (5, 4), (8, 17), (8, 18), (8, 19), (8, 20), (8, 21), (8, 22), (8, 23), (5, 7), (28, 10), (28, 11), (28, 12), (28, 13), (30, 16), (30, 17), (30, 18), (30, 19), (30, 20), (30, 21), (30, 22), (30, 23), (31, 0), (31, 1), (11, 4), (11, 5), (11, 6), (11, 7), (27, 1), (27, 2), (27, 3), (27, 4), (27, 5), (27, 6), (27, 7), (27, 8), (27, 9), (27, 10), (27, 11), (27, 12), (27, 13), (27, 14), (14, 19), (14, 20), (14, 21), (14, 22), (31, 2), (31, 3), (31, 4), (31, 5), (31, 6), (5, 8), (47, 0), (47, 1), (47, 2), (47, 3), (47, 4), (47, 5), (47, 6), (47, 7), (47, 8), (47, 9), (47, 10), (47, 11), (47, 12), (47, 13), (47, 14), (47, 15), (47, 16), (47, 17), (47, 18), (47, 19), (47, 20), (47, 21), (47, 22), (47, 23)] (by decide +kernel) (by decide +kernel)
theorem dL_law_672 : decode cL_law 672 = .ok (.aload_n 1, 1) := by decide +kernel
theorem dL_law_673 : decode cL_law 673 = .ok (.aload_n 0, 1) := by decide +kernel
theorem dL_law_674 : decode cL_law 674 = .ok (.iload_n 3, 1) := by decide +kernel
theorem dL_law_675 : decode cL_law 675 = .ok (.iconst 1, 1) := by decide +kernel
theorem dL_law_676 : decode cL_law 676 = .ok (.iadd, 1) := by decide +kernel
theorem dL_law_677 : decode cL_law 677 = .ok (.iaload, 1) := by decide +kernel
theorem dL_law_678 : decode cL_law 678 = .ok (.invokevirtual 90, 3) := by decide +kernel
theorem dL_law_681 : decode cL_law 681 = .ok (.pop, 1) := by decide +kernel
theorem dL_law_682 : decode cL_law 682 = .ok (.aload_n 2, 1) := by decide +kernel
theorem dL_law_683 : decode cL_law 683 = .ok (.aload_n 0, 1) := by decide +kernel
theorem dL_law_684 : decode cL_law 684 = .ok (.iload_n 3, 1) := by decide +kernel
theorem dL_law_685 : decode cL_law 685 = .ok (.iconst 1, 1) := by decide +kernel
theorem dL_law_686 : decode cL_law 686 = .ok (.iadd, 1) := by decide +kernel
theorem dL_law_687 : decode cL_law 687 = .ok (.iaload, 1) := by decide +kernel
theorem dL_law_688 : decode cL_law 688 = .ok (.invokevirtual 93, 3) := by decide +kernel
theorem dL_law_691 : decode cL_law 691 = .ok (.pop, 1) := by decide +kernel
theorem dL_law_692 : decode cL_law 692 = .ok (.goto 461, 3) := by decide +kernel
set_option maxHeartbeats 8000000 in
set_option maxRecDepth 100000 in
theorem lc_wrong {p : Program} {l : Launch} {e : Env} {s : State} {m : MethodId} {below : List Frame} {meth : Method} {c : Code} {b L : Nat} {xs : Nat → Int32} (hL : L ≤ 3072) (C0 : lw_At p s m meth c b L xs) (hN : tz_N s) (A : Nat → Prop) (hA : ∀ q : Nat, s.heap.size ≤ q → A q) (hA2 : ∀ q : Nat, A q → s.heap.size ≤ q) (hbA : ¬ A b) (hV : tz_V A s s.heap) (dC : Nat → ClassId) (dI : Nat → Nat → Nat) (o : Nat) (aw : Nat) (ai : Nat) (ak : Nat) (sc : Nat) (rd : Nat) (fo : Nat) (tx : Nat) (ar : Nat) (at_ : Nat) (ao : Nat) (w0 : Nat) (w1 : Nat) (w2 : Nat) (w3 : Nat) (w4 : Nat) (w5 : Nat) (sw : Nat) (sh : Nat) (mo : Nat) (nw : Nat) (kp : Nat) (ik : Nat) (mr : Nat) (mw : Nat) (mq : Nat) (mz : Nat) (my : Nat) (mb : Nat) (mx : Nat) (mv : Nat) (ad : Nat → Nat) (ab : Nat → Nat) (ai0 : Nat → Nat) (ai1 : Nat → Nat) (cw : ClassId) (cai : ClassId) (ck : ClassId) (csw : ClassId) (csh : ClassId) (ctx : ClassId) (cr : ClassId) (ct_ : ClassId) (co_ : ClassId) (cn_ : ClassId) (ck_ : ClassId) (ci_ : ClassId) (cr_ : ClassId) (cw_ : ClassId) (cs_ : ClassId) (cz_ : ClassId) (cy_ : ClassId) (cb2_ : ClassId) (cx_ : ClassId) (cv_ : ClassId) (cd : Nat → ClassId) (cb : Nat → ClassId) (ci0 : Nat → ClassId) (ci1 : Nat → ClassId) (hK : va_K (dC, dI) vwCl (tz_T cw cai ck csw csh ctx cr ct_ co_ cn_ ck_ ci_ cr_ cw_ cs_ cz_ cy_ cb2_ cx_ cv_ cd cb ci0 ci1) s) (i : Nat) (hi : i + 6 ≤ L) (H : Heap) (locs : List Loc) (hI : tz_I dC dI o aw ai ak sc rd fo tx ar at_ ao w0 w1 w2 w3 w4 w5 sw sh mo nw kp ik mr mw mq mz my mb mx mv ad ab ai0 ai1 cw cai ck csw csh ctx cr ct_ co_ cn_ ck_ ci_ cr_ cw_ cs_ cz_ cy_ cb2_ cx_ cv_ cd cb ci0 ci1 A H) (hS : va_S A s.heap H locs) (ls : Array Slot) (hl : lv_has ls 4 [(3, .int (nI i)), (2, .ref mo), (1, .ref o), (0, .ref b)]) (K : ∀ (H : Heap) (locs : List Loc) (ls : Array Slot), tz_I dC dI o aw ai ak sc rd fo tx ar at_ ao w0 w1 w2 w3 w4 w5 sw sh mo nw kp ik mr mw mq mz my mb mx mv ad ab ai0 ai1 cw cai ck csw csh ctx cr ct_ co_ cn_ ck_ ci_ cr_ cw_ cs_ cz_ cy_ cb2_ cx_ cv_ cd cb ci0 ci1 A H → va_S A s.heap H locs → lv_has ls 4 [(3, .int (nI i)), (2, .ref mo), (1, .ref o), (0, .ref b)] → W p l e room_1 s m #[Value.ref b] below meth c H locs 136 3195 (lw_Z below #[Value.ref b] s) (F0 m 1153 ls [])) : W p l e room_1 s m #[Value.ref b] below meth c H locs 136 3195 (lw_Z below #[Value.ref b] s) (F0 m 672 ls []) := by
  obtain ⟨hx, hb, hr, hml, hown, hts, hX, hbl, hlocks, hgv⟩ := C0
  have hb : c.code = cL_law := hb
  have hown : s.vm.findClass RL = some m.cls := hown
  obtain ⟨ty, fr, fk, fx, ft_, fo_, fw, fh, la, lb, rt, nl_, np_, nk_, ns_, nv_, ni_, nf_, ud, zd, fd, ub, zb, fb, ui0, zi0, fi0, ui1, zi1, fi1, la_, lb_, lc_, ti_, cb_, ld_, le_, sm_, jb, ta_, tl_, tk_, vl_, fn, fk_, fi_, fr_, fw_, fs_, fz_, fb_, fy_, fx_, fv_, hB_d, hB_b, hB_i0, hB_i1, hO_n, hO_k, hO_x, hO_b, hP, hD⟩ := hI
  have hu_zd := hB_d.2
  have hu_zb := hB_b.2
  have hu_zi0 := hB_i0.2
  have hu_zi1 := hB_i1.2
  refine lv_aload_n hx hb dL_law_672 rfl (lv_at hl 2 rfl) ?_
  refine lv_aload_n hx hb dL_law_673 rfl (lv_at hl 3 rfl) ?_
  refine lv_iload_n hx hb dL_law_674 rfl (lv_at hl 0 rfl) ?_
  refine lv_iconst (v := 1) hx hb dL_law_675 (by decide) ?_
  refine lv_iadd hx hb dL_law_676 ?_
  refine tz_i (nI (i + 1)) (nI_add i 1) ?_
  refine va_sld hx hb hX hbl hbA hS (vp_in_nI (n := (i + 1)) (N := L) (by omega) (by omega)) dL_law_677 ?_
  refine tz_i (xs (i + 1)) (congrArg xs (nI_clamp (by omega))) ?_
  have hPc := hP.sub (ws' := [(o, .inr (11, [.ref aw, .ref (ab 0), .ref ai, .ref ak, .ref sc, .ref rd, .ref fo, .ref tx, .int ty, .ref ar, .ref at_, .ref ao])), (ar, .inl (cr, 3, .inl fr)), (aw, .inl (cw, 6, .inr (.inr (.inr (.inr (tz_w w0 w1 w2 w3 w4 w5)))))), (w0, .inr (4, [])), (w1, .inr (1, [])), (w2, .inr (10, [])), (w3, .inr (3, [])), (w4, .inr (9, [])), (w5, .inr (8, [])), (sc, .inr (7, [.ref sw, .ref sh])), (sw, .inl (csw, 21, .inr (.inl fw))), (sh, .inl (csh, 21, .inl fh)), (fo, .inr (2, [.long la, .long lb])), ((ab 0), .inr (0, [.ref (ab 1), .ref (ab 3), .ref (ab 5), .ref (ab 7), .ref (ab 9), .int (nI ub)])), ((ab 1), .inr (6, [.int 1, .int 5, .ref (ab 2), .int (nI (zb 0))])), ((ab 2), .inl ((cb 0), 5, .inl (fb 0))), ((ab 3), .inr (6, [.int 4, .int 5, .ref (ab 4), .int (nI (zb 1))])), ((ab 4), .inl ((cb 1), 20, .inl (fb 1))), ((ab 5), .inr (6, [.int 4, .int 8, .ref (ab 6), .int (nI (zb 2))])), ((ab 6), .inl ((cb 2), 32, .inl (fb 2)))]) [0, 1, 7, 8, 9, 10, 11, 12, 13, 14, 15, 16, 17, 45, 46, 47, 48, 49, 50, 51] rfl
  have hDc := hD.sub (ws' := [(o, .inr (11, [.ref aw, .ref (ab 0), .ref ai, .ref ak, .ref sc, .ref rd, .ref fo, .ref tx, .int ty, .ref ar, .ref at_, .ref ao])), (ar, .inl (cr, 3, .inl fr)), (aw, .inl (cw, 6, .inr (.inr (.inr (.inr (tz_w w0 w1 w2 w3 w4 w5)))))), (w0, .inr (4, [])), (w1, .inr (1, [])), (w2, .inr (10, [])), (w3, .inr (3, [])), (w4, .inr (9, [])), (w5, .inr (8, [])), (sc, .inr (7, [.ref sw, .ref sh])), (sw, .inl (csw, 21, .inr (.inl fw))), (sh, .inl (csh, 21, .inl fh)), (fo, .inr (2, [.long la, .long lb])), ((ab 0), .inr (0, [.ref (ab 1), .ref (ab 3), .ref (ab 5), .ref (ab 7), .ref (ab 9), .int (nI ub)])), ((ab 1), .inr (6, [.int 1, .int 5, .ref (ab 2), .int (nI (zb 0))])), ((ab 2), .inl ((cb 0), 5, .inl (fb 0))), ((ab 3), .inr (6, [.int 4, .int 5, .ref (ab 4), .int (nI (zb 1))])), ((ab 4), .inl ((cb 1), 20, .inl (fb 1))), ((ab 5), .inr (6, [.int 4, .int 8, .ref (ab 6), .int (nI (zb 2))])), ((ab 6), .inl ((cb 2), 32, .inl (fb 2)))]) [0, 1, 7, 8, 9, 10, 11, 12, 13, 14, 15, 16, 17, 45, 46, 47, 48, 49, 50, 51] (by decide) rfl
  have hKc := hK.sub (tys' := [(cr, .int), (cw, (.object "ThriceCounted$Ones")), (csw, .long), (csh, .int), ((cb 0), .int), ((cb 1), .int), ((cb 2), .int)]) [0, 6, 7, 8, 22, 23, 24] rfl
  have hFc := va_free (wc := [(o, .inr (11, [.ref aw, .ref (ab 0), .ref ai, .ref ak, .ref sc, .ref rd, .ref fo, .ref tx, .int ty, .ref ar, .ref at_, .ref ao])), (ar, .inl (cr, 3, .inl fr)), (aw, .inl (cw, 6, .inr (.inr (.inr (.inr (tz_w w0 w1 w2 w3 w4 w5)))))), (w0, .inr (4, [])), (w1, .inr (1, [])), (w2, .inr (10, [])), (w3, .inr (3, [])), (w4, .inr (9, [])), (w5, .inr (8, [])), (sc, .inr (7, [.ref sw, .ref sh])), (sw, .inl (csw, 21, .inr (.inl fw))), (sh, .inl (csh, 21, .inl fh)), (fo, .inr (2, [.long la, .long lb])), ((ab 0), .inr (0, [.ref (ab 1), .ref (ab 3), .ref (ab 5), .ref (ab 7), .ref (ab 9), .int (nI ub)])), ((ab 1), .inr (6, [.int 1, .int 5, .ref (ab 2), .int (nI (zb 0))])), ((ab 2), .inl ((cb 0), 5, .inl (fb 0))), ((ab 3), .inr (6, [.int 4, .int 5, .ref (ab 4), .int (nI (zb 1))])), ((ab 4), .inl ((cb 1), 20, .inl (fb 1))), ((ab 5), .inr (6, [.int 4, .int 8, .ref (ab 6), .int (nI (zb 2))])), ((ab 6), .inl ((cb 2), 32, .inl (fb 2)))]) hD hS hA [0, 1, 7, 8, 9, 10, 11, 12, 13, 14, 15, 16, 17, 45, 46, 47, 48, 49, 50, 51] rfl
  refine va_calli (va_runV (As := [.int (xs (i + 1))]) (rest := []) ⟨hx, hb, hml, hown, hts⟩ (x_wrong l dC dI o aw ab ai ak sc rd fo tx ty ar at_ ao cr fr cw w0 w1 w2 w3 w4 w5 sw sh csw fw csh fh la lb ub zb cb fb (xs (i + 1)) H.size ⟨hB_b.1, show ub ≤ 8 by omega⟩) (cwV 1 hts gL_law_X11_wrong rfl rfl rfl (by decide +kernel) ⟨Nat.le_of_ble_eq_true rfl, Nat.le_of_ble_eq_true rfl⟩) ⟨fun a U g mk q => by obtain ⟨q0, q1, qP, qK, qD⟩ := q; exact ⟨q0, q1, qP, va_K.moved (u := U) (U := U.calling g mk a) (Vm.Alike.refl U.vm) qK, qD⟩, va_recv hK hP (ci := 11) (q0 := 0) rfl rfl, fun U hU hW => ⟨rfl, by rw [hU], by rw [hU]; exact hPc, va_K.moved hW.alike hKc, hDc.weaken (fun _ _ _ _ => trivial)⟩⟩ rfl rfl hl.1 rfl (lv_room (Nat.le_of_ble_eq_true rfl)) dL_law_678 ⟨Nat.le_of_ble_eq_true rfl, Nat.le_of_ble_eq_true rfl⟩) hS (fun q _ h => hFc q h) hFc (fun r_1 u_ t H1 locs ht hvm hw_2 hB hz1 hk1 hS => ?_)
  obtain ⟨gr_3, gw_4, gh_5, lg_6, lh_7, hP1, hK1, hD1⟩ := hB
  rw [ht] at hP1
  have hK1 := va_K.moved hvm.symm hK1
  obtain ⟨hP, hD⟩ := tz_put (ws' := (tz_XW o aw ai ak sc rd fo tx ar at_ ao w0 w1 w2 w3 w4 w5 sw sh mo nw kp ik mr mw mq mz my mb mx mv ad ab ai0 ai1 cw cai ck csw csh ctx cr ct_ co_ cn_ ck_ ci_ cr_ cw_ cs_ cz_ cy_ cb2_ cx_ cv_ cd cb ci0 ci1 ty gr_3 fk fx ft_ fo_ gw_4 gh_5 lg_6 lh_7 rt nl_ np_ nk_ ns_ nv_ ni_ nf_ ud zd fd ub zb fb ui0 zi0 fi0 ui1 zi1 fi1 la_ lb_ lc_ ti_ cb_ ld_ le_ sm_ jb ta_ tl_ tk_ vl_ fn fk_ fi_ fr_ fw_ fs_ fz_ fb_ fy_ fx_ fv_)) hP hD [0, 1, 7, 8, 9, 10, 11, 12, 13, 14, 15, 16, 17, 45, 46, 47, 48, 49, 50, 51] rfl hk1 hP1 rfl rfl rfl
  generalize H1 = H at hP hS ⊢
  refine lv_pop hx hb dL_law_681 rfl ?_
  refine lv_aload_n hx hb dL_law_682 rfl (lv_at hl 1 rfl) ?_
  refine lv_aload_n hx hb dL_law_683 rfl (lv_at hl 3 rfl) ?_
  refine lv_iload_n hx hb dL_law_684 rfl (lv_at hl 0 rfl) ?_
  refine lv_iconst (v := 1) hx hb dL_law_685 (by decide) ?_
  refine lv_iadd hx hb dL_law_686 ?_
  refine tz_i (nI (i + 1)) (nI_add i 1) ?_
  refine va_sld hx hb hX hbl hbA hS (vp_in_nI (n := (i + 1)) (N := L) (by omega) (by omega)) dL_law_687 ?_
  refine tz_i (xs (i + 1)) (congrArg xs (nI_clamp (by omega))) ?_
  have hPc := hP.sub (ws' := [(mo, .inr (12, [.ref nw, .ref kp, .ref ik, .ref mr, .long la_, .long lb_, .ref mw, .long lc_, .int ti_, .int cb_, .long ld_, .long le_, .ref mq, .ref mz, .ref my, .int sm_, .ref mb, .int (nI jb), .int ta_, .int tl_, .int tk_, .int vl_, .ref mx, .ref mv])), (nw, .inl (cn_, 350, .inl fn)), (mw, .inl (cw_, 21, .inr (.inl fw_))), (mr, .inl (cr_, 3, .inl fr_))]) [123, 124, 128, 127] rfl
  have hDc := hD.sub (ws' := [(mo, .inr (12, [.ref nw, .ref kp, .ref ik, .ref mr, .long la_, .long lb_, .ref mw, .long lc_, .int ti_, .int cb_, .long ld_, .long le_, .ref mq, .ref mz, .ref my, .int sm_, .ref mb, .int (nI jb), .int ta_, .int tl_, .int tk_, .int vl_, .ref mx, .ref mv])), (nw, .inl (cn_, 350, .inl fn)), (mw, .inl (cw_, 21, .inr (.inl fw_))), (mr, .inl (cr_, 3, .inl fr_))]) [123, 124, 128, 127] (by decide) rfl
  have hKc := hK.sub (tys' := [(cn_, .int), (cw_, .long), (cr_, .int)]) [61, 65, 64] rfl
  have hFc := va_free (wc := [(mo, .inr (12, [.ref nw, .ref kp, .ref ik, .ref mr, .long la_, .long lb_, .ref mw, .long lc_, .int ti_, .int cb_, .long ld_, .long le_, .ref mq, .ref mz, .ref my, .int sm_, .ref mb, .int (nI jb), .int ta_, .int tl_, .int tk_, .int vl_, .ref mx, .ref mv])), (nw, .inl (cn_, 350, .inl fn)), (mw, .inl (cw_, 21, .inr (.inl fw_))), (mr, .inl (cr_, 3, .inl fr_))]) hD hS hA [123, 124, 128, 127] rfl
  refine va_calli (va_runV (As := [.int (xs (i + 1))]) (rest := []) ⟨hx, hb, hml, hown, hts⟩ (m_wrong l dC dI mo nw kp ik mr la_ lb_ mw lc_ ti_ cb_ ld_ le_ mq mz my sm_ mb (nI jb) ta_ tl_ tk_ vl_ mx mv cn_ fn cw_ fw_ cr_ fr_ (xs (i + 1)) H.size hO_n) (cwV 1 hts gL_law_X12_wrong rfl rfl rfl (by decide +kernel) ⟨Nat.le_of_ble_eq_true rfl, Nat.le_of_ble_eq_true rfl⟩) ⟨fun a U g mk q => by obtain ⟨q0, q1, qP, qK, qD⟩ := q; exact ⟨q0, q1, qP, va_K.moved (u := U) (U := U.calling g mk a) (Vm.Alike.refl U.vm) qK, qD⟩, va_recv hK hP (ci := 12) (q0 := 123) rfl rfl, fun U hU hW => ⟨rfl, by rw [hU], by rw [hU]; exact hPc, va_K.moved hW.alike hKc, hDc.weaken (fun _ _ _ _ => trivial)⟩⟩ rfl rfl hl.1 rfl (lv_room (Nat.le_of_ble_eq_true rfl)) dL_law_688 ⟨Nat.le_of_ble_eq_true rfl, Nat.le_of_ble_eq_true rfl⟩) hS (fun q _ h => hFc q h) hFc (fun r_8 u_ t H1 locs ht hvm hw_9 hB hz1 hk1 hS => ?_)
  obtain ⟨h_allWeights_10, h_trulyIs_11, h_canBe_12, h_above_13, h_below_14, gw__15, gr__16, hP1, hK1, hD1⟩ := hB
  rw [ht] at hP1
  have hK1 := va_K.moved hvm.symm hK1
  obtain ⟨hP, hD⟩ := tz_put (ws' := (tz_XW o aw ai ak sc rd fo tx ar at_ ao w0 w1 w2 w3 w4 w5 sw sh mo nw kp ik mr mw mq mz my mb mx mv ad ab ai0 ai1 cw cai ck csw csh ctx cr ct_ co_ cn_ ck_ ci_ cr_ cw_ cs_ cz_ cy_ cb2_ cx_ cv_ cd cb ci0 ci1 ty gr_3 fk fx ft_ fo_ gw_4 gh_5 lg_6 lh_7 rt nl_ np_ nk_ ns_ nv_ ni_ nf_ ud zd fd ub zb fb ui0 zi0 fi0 ui1 zi1 fi1 h_above_13 h_below_14 h_allWeights_10 h_trulyIs_11 h_canBe_12 ld_ le_ sm_ jb ta_ tl_ tk_ vl_ fn fk_ fi_ gr__16 gw__15 fs_ fz_ fb_ fy_ fx_ fv_)) hP hD [123, 124, 128, 127] rfl hk1 hP1 rfl rfl rfl
  generalize H1 = H at hP hS ⊢
  refine lv_pop hx hb dL_law_691 rfl ?_
  refine lv_goto (tgt := 1153) hx hb dL_law_692 (by decide) ?_
  exact K H _ ls ⟨ty, gr_3, fk, fx, ft_, fo_, gw_4, gh_5, lg_6, lh_7, rt, nl_, np_, nk_, ns_, nv_, ni_, nf_, ud, zd, fd, ub, zb, fb, ui0, zi0, fi0, ui1, zi1, fi1, h_above_13, h_below_14, h_allWeights_10, h_trulyIs_11, h_canBe_12, ld_, le_, sm_, jb, ta_, tl_, tk_, vl_, fn, fk_, fi_, gr__16, gw__15, fs_, fz_, fb_, fy_, fx_, fv_, hB_d, hB_b, hB_i0, hB_i1, hO_n, hO_k, hO_x, hO_b, hP, hD⟩ hS hl
set_option maxRecDepth 20000 in
theorem gL_law_X11_enough : GoodIn lw_tbl (wsV RL 94 RX11 yX11_enough wsX11_enough) := tz_good [(33, 11), (33, 12), (33, 13), (0, 2), (33, 14), (1, 10), (5, 20), (1, 17), (1, 6), (33, 15), (10, 4), (10, 5), (10, 6), (3, 4), (10, 7), (3, 15), (11, 16), (11, 17), (11, 18), (0, 2), (11, 19), (7, 4), (7, 5), (7, 6), (7, 7), (7, 8), (7, 9), (7, 10), (7, 11), (7, 12), (7, 13), (7, 14), (2, 6), (29, 9), (29, 10), (29, 11), (1, 16), (29, 12), (4, 3), (29, 13), (29, 14), (29, 15), (29, 16), (29, 17), (29, 18), (29, 19), (10, 9), (10, 10), (10, 11), (3, 22), (3, 21), (8, 8), (8, 9), (8, 10), (8, 11), (29, 20), (5, 22), (5, 23), (6, 0), (29, 21), (29, 22), (29, 23), (30, 0), (4, 4), (30, 1), (24, 1), (24, 2), (24, 3), (24, 4), (0, 17), (24, 5), (24, 6), (24, 7), (24, 2), (0, 14), (24, 9), (24, 10), (24, 11), (0, 23), (24, 12), (24, 13), (24, 14), (24, 15), (24, 16), (0, 20), (24, 17), (30, 1), (24, 19), (24, 20), (24, 21), (1, 5), (24, 22), (24, 23), (25, 0), (25, 1), (25, 2), (1, 2), (25, 3), (25, 4), (25, 5), (25, 6), (25, 7), (31, 11), (31, 12), (31, 13), (31, 14), (30, 7), (30, 8), (30, 9), (30, 10), (30, 3), (30, 4), (30, 5), (30, 6), (33, 16), (33, 17), (33, 18), (33, 19), (33, 20), (46, 0), (46, 1), (46, 2), (46, 3), (46, 4), (46, 5), (46, 6), (46, 7), (46, 8), (46, 9), (46, 10), (46, 11), (54, 0), (54, 1), (54, 2), (54, 3), (54, 4), (54, 5), (58, 0), (58, 1), (58, 2), (58, 3), (55, 0), (55, 1)] (by decide +kernel) (by decide +kernel)
set_option maxRecDepth 20000 in
theorem gL_law_X12_enough : GoodIn lw_tbl (wsV RL 97 RX12 yX12_enough wsX12_enough) := tz_good [(33, 21), (33, 22), (33, 23), (0, 5), (34, 0), (34, 1), (30, 20), (10, 20), (10, 21), (10, 22), (0, 5), (10, 23), (5, 4), (8, 17), (8, 18), (8, 19), (13, 1), (13, 2), (13, 3), (13, 4), (8, 20), (8, 21), (8, 22), (8, 23), (5, 7), (30, 16), (30, 17), (30, 18), (30, 19), (30, 15), (30, 21), (5, 9), (30, 22), (30, 23), (31, 0), (31, 1), (11, 4), (11, 5), (11, 6), (11, 7), (28, 10), (28, 11), (28, 12), (28, 13), (27, 1), (27, 2), (27, 3), (27, 4), (27, 5), (27, 6), (27, 7), (27, 8), (27, 9), (27, 10), (27, 11), (27, 12), (27, 13), (27, 14), (34, 2), (34, 3), (34, 4), (34, 5), (8, 16), (34, 6), (34, 7), (34, 8), (47, 0), (47, 1), (47, 2), (47, 3), (47, 4), (47, 5), (47, 6), (47, 7), (47, 8), (47, 9), (47, 10), (47, 11), (47, 12), (47, 13), (47, 14), (47, 15), (47, 16), (47, 17), (47, 18), (47, 19), (47, 20), (47, 21), (47, 22), (47, 23)] (by decide +kernel) (by decide +kernel)
theorem dL_law_695 : decode cL_law 695 = .ok (.aload_n 1, 1) := by decide +kernel
theorem dL_law_696 : decode cL_law 696 = .ok (.aload_n 0, 1) := by decide +kernel
theorem dL_law_697 : decode cL_law 697 = .ok (.iload_n 3, 1) := by decide +kernel
theorem dL_law_698 : decode cL_law 698 = .ok (.iconst 1, 1) := by decide +kernel
theorem dL_law_699 : decode cL_law 699 = .ok (.iadd, 1) := by decide +kernel
theorem dL_law_700 : decode cL_law 700 = .ok (.iaload, 1) := by decide +kernel
theorem dL_law_701 : decode cL_law 701 = .ok (.aload_n 0, 1) := by decide +kernel
theorem dL_law_702 : decode cL_law 702 = .ok (.iload_n 3, 1) := by decide +kernel
theorem dL_law_703 : decode cL_law 703 = .ok (.iconst 2, 1) := by decide +kernel
theorem dL_law_704 : decode cL_law 704 = .ok (.iadd, 1) := by decide +kernel
theorem dL_law_705 : decode cL_law 705 = .ok (.iaload, 1) := by decide +kernel
theorem dL_law_706 : decode cL_law 706 = .ok (.aload_n 0, 1) := by decide +kernel
theorem dL_law_707 : decode cL_law 707 = .ok (.iload_n 3, 1) := by decide +kernel
theorem dL_law_708 : decode cL_law 708 = .ok (.iconst 3, 1) := by decide +kernel
theorem dL_law_709 : decode cL_law 709 = .ok (.iadd, 1) := by decide +kernel
theorem dL_law_710 : decode cL_law 710 = .ok (.iaload, 1) := by decide +kernel
theorem dL_law_711 : decode cL_law 711 = .ok (.invokevirtual 94, 3) := by decide +kernel
theorem dL_law_714 : decode cL_law 714 = .ok (.pop, 1) := by decide +kernel
theorem dL_law_715 : decode cL_law 715 = .ok (.aload_n 2, 1) := by decide +kernel
theorem dL_law_716 : decode cL_law 716 = .ok (.aload_n 0, 1) := by decide +kernel
theorem dL_law_717 : decode cL_law 717 = .ok (.iload_n 3, 1) := by decide +kernel
theorem dL_law_718 : decode cL_law 718 = .ok (.iconst 1, 1) := by decide +kernel
theorem dL_law_719 : decode cL_law 719 = .ok (.iadd, 1) := by decide +kernel
theorem dL_law_720 : decode cL_law 720 = .ok (.iaload, 1) := by decide +kernel
theorem dL_law_721 : decode cL_law 721 = .ok (.aload_n 0, 1) := by decide +kernel
theorem dL_law_722 : decode cL_law 722 = .ok (.iload_n 3, 1) := by decide +kernel
theorem dL_law_723 : decode cL_law 723 = .ok (.iconst 2, 1) := by decide +kernel
theorem dL_law_724 : decode cL_law 724 = .ok (.iadd, 1) := by decide +kernel
theorem dL_law_725 : decode cL_law 725 = .ok (.iaload, 1) := by decide +kernel
theorem dL_law_726 : decode cL_law 726 = .ok (.aload_n 0, 1) := by decide +kernel
theorem dL_law_727 : decode cL_law 727 = .ok (.iload_n 3, 1) := by decide +kernel
theorem dL_law_728 : decode cL_law 728 = .ok (.iconst 3, 1) := by decide +kernel
theorem dL_law_729 : decode cL_law 729 = .ok (.iadd, 1) := by decide +kernel
theorem dL_law_730 : decode cL_law 730 = .ok (.iaload, 1) := by decide +kernel
theorem dL_law_731 : decode cL_law 731 = .ok (.invokevirtual 97, 3) := by decide +kernel
theorem dL_law_734 : decode cL_law 734 = .ok (.pop, 1) := by decide +kernel
theorem dL_law_735 : decode cL_law 735 = .ok (.goto 418, 3) := by decide +kernel
set_option maxHeartbeats 8000000 in
set_option maxRecDepth 100000 in
theorem lc_enough {p : Program} {l : Launch} {e : Env} {s : State} {m : MethodId} {below : List Frame} {meth : Method} {c : Code} {b L : Nat} {xs : Nat → Int32} (hL : L ≤ 3072) (C0 : lw_At p s m meth c b L xs) (hN : tz_N s) (A : Nat → Prop) (hA : ∀ q : Nat, s.heap.size ≤ q → A q) (hA2 : ∀ q : Nat, A q → s.heap.size ≤ q) (hbA : ¬ A b) (hV : tz_V A s s.heap) (dC : Nat → ClassId) (dI : Nat → Nat → Nat) (o : Nat) (aw : Nat) (ai : Nat) (ak : Nat) (sc : Nat) (rd : Nat) (fo : Nat) (tx : Nat) (ar : Nat) (at_ : Nat) (ao : Nat) (w0 : Nat) (w1 : Nat) (w2 : Nat) (w3 : Nat) (w4 : Nat) (w5 : Nat) (sw : Nat) (sh : Nat) (mo : Nat) (nw : Nat) (kp : Nat) (ik : Nat) (mr : Nat) (mw : Nat) (mq : Nat) (mz : Nat) (my : Nat) (mb : Nat) (mx : Nat) (mv : Nat) (ad : Nat → Nat) (ab : Nat → Nat) (ai0 : Nat → Nat) (ai1 : Nat → Nat) (cw : ClassId) (cai : ClassId) (ck : ClassId) (csw : ClassId) (csh : ClassId) (ctx : ClassId) (cr : ClassId) (ct_ : ClassId) (co_ : ClassId) (cn_ : ClassId) (ck_ : ClassId) (ci_ : ClassId) (cr_ : ClassId) (cw_ : ClassId) (cs_ : ClassId) (cz_ : ClassId) (cy_ : ClassId) (cb2_ : ClassId) (cx_ : ClassId) (cv_ : ClassId) (cd : Nat → ClassId) (cb : Nat → ClassId) (ci0 : Nat → ClassId) (ci1 : Nat → ClassId) (hK : va_K (dC, dI) vwCl (tz_T cw cai ck csw csh ctx cr ct_ co_ cn_ ck_ ci_ cr_ cw_ cs_ cz_ cy_ cb2_ cx_ cv_ cd cb ci0 ci1) s) (i : Nat) (hi : i + 6 ≤ L) (H : Heap) (locs : List Loc) (hI : tz_I dC dI o aw ai ak sc rd fo tx ar at_ ao w0 w1 w2 w3 w4 w5 sw sh mo nw kp ik mr mw mq mz my mb mx mv ad ab ai0 ai1 cw cai ck csw csh ctx cr ct_ co_ cn_ ck_ ci_ cr_ cw_ cs_ cz_ cy_ cb2_ cx_ cv_ cd cb ci0 ci1 A H) (hS : va_S A s.heap H locs) (ls : Array Slot) (hl : lv_has ls 4 [(3, .int (nI i)), (2, .ref mo), (1, .ref o), (0, .ref b)]) (K : ∀ (H : Heap) (locs : List Loc) (ls : Array Slot), tz_I dC dI o aw ai ak sc rd fo tx ar at_ ao w0 w1 w2 w3 w4 w5 sw sh mo nw kp ik mr mw mq mz my mb mx mv ad ab ai0 ai1 cw cai ck csw csh ctx cr ct_ co_ cn_ ck_ ci_ cr_ cw_ cs_ cz_ cy_ cb2_ cx_ cv_ cd cb ci0 ci1 A H → va_S A s.heap H locs → lv_has ls 4 [(3, .int (nI i)), (2, .ref mo), (1, .ref o), (0, .ref b)] → W p l e room_1 s m #[Value.ref b] below meth c H locs 136 3195 (lw_Z below #[Value.ref b] s) (F0 m 1153 ls [])) : W p l e room_1 s m #[Value.ref b] below meth c H locs 136 3195 (lw_Z below #[Value.ref b] s) (F0 m 695 ls []) := by
  obtain ⟨hx, hb, hr, hml, hown, hts, hX, hbl, hlocks, hgv⟩ := C0
  have hb : c.code = cL_law := hb
  have hown : s.vm.findClass RL = some m.cls := hown
  obtain ⟨ty, fr, fk, fx, ft_, fo_, fw, fh, la, lb, rt, nl_, np_, nk_, ns_, nv_, ni_, nf_, ud, zd, fd, ub, zb, fb, ui0, zi0, fi0, ui1, zi1, fi1, la_, lb_, lc_, ti_, cb_, ld_, le_, sm_, jb, ta_, tl_, tk_, vl_, fn, fk_, fi_, fr_, fw_, fs_, fz_, fb_, fy_, fx_, fv_, hB_d, hB_b, hB_i0, hB_i1, hO_n, hO_k, hO_x, hO_b, hP, hD⟩ := hI
  have hu_zd := hB_d.2
  have hu_zb := hB_b.2
  have hu_zi0 := hB_i0.2
  have hu_zi1 := hB_i1.2
  refine lv_aload_n hx hb dL_law_695 rfl (lv_at hl 2 rfl) ?_
  refine lv_aload_n hx hb dL_law_696 rfl (lv_at hl 3 rfl) ?_
  refine lv_iload_n hx hb dL_law_697 rfl (lv_at hl 0 rfl) ?_
  refine lv_iconst (v := 1) hx hb dL_law_698 (by decide) ?_
  refine lv_iadd hx hb dL_law_699 ?_
  refine tz_i (nI (i + 1)) (nI_add i 1) ?_
  refine va_sld hx hb hX hbl hbA hS (vp_in_nI (n := (i + 1)) (N := L) (by omega) (by omega)) dL_law_700 ?_
  refine tz_i (xs (i + 1)) (congrArg xs (nI_clamp (by omega))) ?_
  refine lv_aload_n hx hb dL_law_701 rfl (lv_at hl 3 rfl) ?_
  refine lv_iload_n hx hb dL_law_702 rfl (lv_at hl 0 rfl) ?_
  refine lv_iconst (v := 2) hx hb dL_law_703 (by decide) ?_
  refine lv_iadd hx hb dL_law_704 ?_
  refine tz_i (nI (i + 2)) (nI_add i 2) ?_
  refine va_sld hx hb hX hbl hbA hS (vp_in_nI (n := (i + 2)) (N := L) (by omega) (by omega)) dL_law_705 ?_
  refine tz_i (xs (i + 2)) (congrArg xs (nI_clamp (by omega))) ?_
  refine lv_aload_n hx hb dL_law_706 rfl (lv_at hl 3 rfl) ?_
  refine lv_iload_n hx hb dL_law_707 rfl (lv_at hl 0 rfl) ?_
  refine lv_iconst (v := 3) hx hb dL_law_708 (by decide) ?_
  refine lv_iadd hx hb dL_law_709 ?_
  refine tz_i (nI (i + 3)) (nI_add i 3) ?_
  refine va_sld hx hb hX hbl hbA hS (vp_in_nI (n := (i + 3)) (N := L) (by omega) (by omega)) dL_law_710 ?_
  refine tz_i (xs (i + 3)) (congrArg xs (nI_clamp (by omega))) ?_
  have hPc := hP.sub (ws' := [(o, .inr (11, [.ref aw, .ref (ab 0), .ref ai, .ref ak, .ref sc, .ref rd, .ref fo, .ref tx, .int ty, .ref ar, .ref at_, .ref ao])), (ar, .inl (cr, 3, .inl fr)), (aw, .inl (cw, 6, .inr (.inr (.inr (.inr (tz_w w0 w1 w2 w3 w4 w5)))))), (w0, .inr (4, [])), (w1, .inr (1, [])), (w2, .inr (10, [])), (w3, .inr (3, [])), (w4, .inr (9, [])), (w5, .inr (8, [])), (sc, .inr (7, [.ref sw, .ref sh])), (sw, .inl (csw, 21, .inr (.inl fw))), (sh, .inl (csh, 21, .inl fh)), ((ab 0), .inr (0, [.ref (ab 1), .ref (ab 3), .ref (ab 5), .ref (ab 7), .ref (ab 9), .int (nI ub)])), ((ab 1), .inr (6, [.int 1, .int 5, .ref (ab 2), .int (nI (zb 0))])), ((ab 2), .inl ((cb 0), 5, .inl (fb 0))), ((ab 3), .inr (6, [.int 4, .int 5, .ref (ab 4), .int (nI (zb 1))])), ((ab 4), .inl ((cb 1), 20, .inl (fb 1))), ((ab 5), .inr (6, [.int 4, .int 8, .ref (ab 6), .int (nI (zb 2))])), ((ab 6), .inl ((cb 2), 32, .inl (fb 2)))]) [0, 1, 7, 8, 9, 10, 11, 12, 13, 14, 15, 16, 45, 46, 47, 48, 49, 50, 51] rfl
  have hDc := hD.sub (ws' := [(o, .inr (11, [.ref aw, .ref (ab 0), .ref ai, .ref ak, .ref sc, .ref rd, .ref fo, .ref tx, .int ty, .ref ar, .ref at_, .ref ao])), (ar, .inl (cr, 3, .inl fr)), (aw, .inl (cw, 6, .inr (.inr (.inr (.inr (tz_w w0 w1 w2 w3 w4 w5)))))), (w0, .inr (4, [])), (w1, .inr (1, [])), (w2, .inr (10, [])), (w3, .inr (3, [])), (w4, .inr (9, [])), (w5, .inr (8, [])), (sc, .inr (7, [.ref sw, .ref sh])), (sw, .inl (csw, 21, .inr (.inl fw))), (sh, .inl (csh, 21, .inl fh)), ((ab 0), .inr (0, [.ref (ab 1), .ref (ab 3), .ref (ab 5), .ref (ab 7), .ref (ab 9), .int (nI ub)])), ((ab 1), .inr (6, [.int 1, .int 5, .ref (ab 2), .int (nI (zb 0))])), ((ab 2), .inl ((cb 0), 5, .inl (fb 0))), ((ab 3), .inr (6, [.int 4, .int 5, .ref (ab 4), .int (nI (zb 1))])), ((ab 4), .inl ((cb 1), 20, .inl (fb 1))), ((ab 5), .inr (6, [.int 4, .int 8, .ref (ab 6), .int (nI (zb 2))])), ((ab 6), .inl ((cb 2), 32, .inl (fb 2)))]) [0, 1, 7, 8, 9, 10, 11, 12, 13, 14, 15, 16, 45, 46, 47, 48, 49, 50, 51] (by decide) rfl
  have hKc := hK.sub (tys' := [(cr, .int), (cw, (.object "ThriceCounted$Ones")), (csw, .long), (csh, .int), ((cb 0), .int), ((cb 1), .int), ((cb 2), .int)]) [0, 6, 7, 8, 22, 23, 24] rfl
  have hFc := va_free (wc := [(o, .inr (11, [.ref aw, .ref (ab 0), .ref ai, .ref ak, .ref sc, .ref rd, .ref fo, .ref tx, .int ty, .ref ar, .ref at_, .ref ao])), (ar, .inl (cr, 3, .inl fr)), (aw, .inl (cw, 6, .inr (.inr (.inr (.inr (tz_w w0 w1 w2 w3 w4 w5)))))), (w0, .inr (4, [])), (w1, .inr (1, [])), (w2, .inr (10, [])), (w3, .inr (3, [])), (w4, .inr (9, [])), (w5, .inr (8, [])), (sc, .inr (7, [.ref sw, .ref sh])), (sw, .inl (csw, 21, .inr (.inl fw))), (sh, .inl (csh, 21, .inl fh)), ((ab 0), .inr (0, [.ref (ab 1), .ref (ab 3), .ref (ab 5), .ref (ab 7), .ref (ab 9), .int (nI ub)])), ((ab 1), .inr (6, [.int 1, .int 5, .ref (ab 2), .int (nI (zb 0))])), ((ab 2), .inl ((cb 0), 5, .inl (fb 0))), ((ab 3), .inr (6, [.int 4, .int 5, .ref (ab 4), .int (nI (zb 1))])), ((ab 4), .inl ((cb 1), 20, .inl (fb 1))), ((ab 5), .inr (6, [.int 4, .int 8, .ref (ab 6), .int (nI (zb 2))])), ((ab 6), .inl ((cb 2), 32, .inl (fb 2)))]) hD hS hA [0, 1, 7, 8, 9, 10, 11, 12, 13, 14, 15, 16, 45, 46, 47, 48, 49, 50, 51] rfl
  refine va_calli (va_runV (As := [.int (xs (i + 1)), .int (xs (i + 2)), .int (xs (i + 3))]) (rest := []) ⟨hx, hb, hml, hown, hts⟩ (x_enough l dC dI o aw ab ai ak sc rd fo tx ty ar at_ ao cr fr cw w0 w1 w2 w3 w4 w5 sw sh csw fw csh fh ub zb cb fb (xs (i + 1)) (xs (i + 2)) (xs (i + 3)) H.size ⟨hB_b.1, show ub ≤ 8 by omega⟩) (cwV 3 hts gL_law_X11_enough rfl rfl rfl (by decide +kernel) ⟨Nat.le_of_ble_eq_true rfl, Nat.le_of_ble_eq_true rfl⟩) ⟨fun a U g mk q => by obtain ⟨q0, q1, qP, qK, qD⟩ := q; exact ⟨q0, q1, qP, va_K.moved (u := U) (U := U.calling g mk a) (Vm.Alike.refl U.vm) qK, qD⟩, va_recv hK hP (ci := 11) (q0 := 0) rfl rfl, fun U hU hW => ⟨rfl, by rw [hU], by rw [hU]; exact hPc, va_K.moved hW.alike hKc, hDc.weaken (fun _ _ _ _ => trivial)⟩⟩ rfl rfl hl.1 rfl (lv_room (Nat.le_of_ble_eq_true rfl)) dL_law_711 ⟨Nat.le_of_ble_eq_true rfl, Nat.le_of_ble_eq_true rfl⟩) hS (fun q _ h => hFc q h) hFc (fun r_1 u_ t H1 locs ht hvm hw_2 hB hz1 hk1 hS => ?_)
  obtain ⟨gr_3, gw_4, gh_5, hP1, hK1, hD1⟩ := hB
  rw [ht] at hP1
  have hK1 := va_K.moved hvm.symm hK1
  obtain ⟨hP, hD⟩ := tz_put (ws' := (tz_XW o aw ai ak sc rd fo tx ar at_ ao w0 w1 w2 w3 w4 w5 sw sh mo nw kp ik mr mw mq mz my mb mx mv ad ab ai0 ai1 cw cai ck csw csh ctx cr ct_ co_ cn_ ck_ ci_ cr_ cw_ cs_ cz_ cy_ cb2_ cx_ cv_ cd cb ci0 ci1 ty gr_3 fk fx ft_ fo_ gw_4 gh_5 la lb rt nl_ np_ nk_ ns_ nv_ ni_ nf_ ud zd fd ub zb fb ui0 zi0 fi0 ui1 zi1 fi1 la_ lb_ lc_ ti_ cb_ ld_ le_ sm_ jb ta_ tl_ tk_ vl_ fn fk_ fi_ fr_ fw_ fs_ fz_ fb_ fy_ fx_ fv_)) hP hD [0, 1, 7, 8, 9, 10, 11, 12, 13, 14, 15, 16, 45, 46, 47, 48, 49, 50, 51] rfl hk1 hP1 rfl rfl rfl
  generalize H1 = H at hP hS ⊢
  refine lv_pop hx hb dL_law_714 rfl ?_
  refine lv_aload_n hx hb dL_law_715 rfl (lv_at hl 1 rfl) ?_
  refine lv_aload_n hx hb dL_law_716 rfl (lv_at hl 3 rfl) ?_
  refine lv_iload_n hx hb dL_law_717 rfl (lv_at hl 0 rfl) ?_
  refine lv_iconst (v := 1) hx hb dL_law_718 (by decide) ?_
  refine lv_iadd hx hb dL_law_719 ?_
  refine tz_i (nI (i + 1)) (nI_add i 1) ?_
  refine va_sld hx hb hX hbl hbA hS (vp_in_nI (n := (i + 1)) (N := L) (by omega) (by omega)) dL_law_720 ?_
  refine tz_i (xs (i + 1)) (congrArg xs (nI_clamp (by omega))) ?_
  refine lv_aload_n hx hb dL_law_721 rfl (lv_at hl 3 rfl) ?_
  refine lv_iload_n hx hb dL_law_722 rfl (lv_at hl 0 rfl) ?_
  refine lv_iconst (v := 2) hx hb dL_law_723 (by decide) ?_
  refine lv_iadd hx hb dL_law_724 ?_
  refine tz_i (nI (i + 2)) (nI_add i 2) ?_
  refine va_sld hx hb hX hbl hbA hS (vp_in_nI (n := (i + 2)) (N := L) (by omega) (by omega)) dL_law_725 ?_
  refine tz_i (xs (i + 2)) (congrArg xs (nI_clamp (by omega))) ?_
  refine lv_aload_n hx hb dL_law_726 rfl (lv_at hl 3 rfl) ?_
  refine lv_iload_n hx hb dL_law_727 rfl (lv_at hl 0 rfl) ?_
  refine lv_iconst (v := 3) hx hb dL_law_728 (by decide) ?_
  refine lv_iadd hx hb dL_law_729 ?_
  refine tz_i (nI (i + 3)) (nI_add i 3) ?_
  refine va_sld hx hb hX hbl hbA hS (vp_in_nI (n := (i + 3)) (N := L) (by omega) (by omega)) dL_law_730 ?_
  refine tz_i (xs (i + 3)) (congrArg xs (nI_clamp (by omega))) ?_
  have hPc := hP.sub (ws' := [(mo, .inr (12, [.ref nw, .ref kp, .ref ik, .ref mr, .long la_, .long lb_, .ref mw, .long lc_, .int ti_, .int cb_, .long ld_, .long le_, .ref mq, .ref mz, .ref my, .int sm_, .ref mb, .int (nI jb), .int ta_, .int tl_, .int tk_, .int vl_, .ref mx, .ref mv])), (nw, .inl (cn_, 350, .inl fn)), (mw, .inl (cw_, 21, .inr (.inl fw_))), (mr, .inl (cr_, 3, .inl fr_))]) [123, 124, 128, 127] rfl
  have hDc := hD.sub (ws' := [(mo, .inr (12, [.ref nw, .ref kp, .ref ik, .ref mr, .long la_, .long lb_, .ref mw, .long lc_, .int ti_, .int cb_, .long ld_, .long le_, .ref mq, .ref mz, .ref my, .int sm_, .ref mb, .int (nI jb), .int ta_, .int tl_, .int tk_, .int vl_, .ref mx, .ref mv])), (nw, .inl (cn_, 350, .inl fn)), (mw, .inl (cw_, 21, .inr (.inl fw_))), (mr, .inl (cr_, 3, .inl fr_))]) [123, 124, 128, 127] (by decide) rfl
  have hKc := hK.sub (tys' := [(cn_, .int), (cw_, .long), (cr_, .int)]) [61, 65, 64] rfl
  have hFc := va_free (wc := [(mo, .inr (12, [.ref nw, .ref kp, .ref ik, .ref mr, .long la_, .long lb_, .ref mw, .long lc_, .int ti_, .int cb_, .long ld_, .long le_, .ref mq, .ref mz, .ref my, .int sm_, .ref mb, .int (nI jb), .int ta_, .int tl_, .int tk_, .int vl_, .ref mx, .ref mv])), (nw, .inl (cn_, 350, .inl fn)), (mw, .inl (cw_, 21, .inr (.inl fw_))), (mr, .inl (cr_, 3, .inl fr_))]) hD hS hA [123, 124, 128, 127] rfl
  refine va_calli (va_runV (As := [.int (xs (i + 1)), .int (xs (i + 2)), .int (xs (i + 3))]) (rest := []) ⟨hx, hb, hml, hown, hts⟩ (m_enough l dC dI mo nw kp ik mr la_ lb_ mw lc_ ti_ cb_ ld_ le_ mq mz my sm_ mb (nI jb) ta_ tl_ tk_ vl_ mx mv cn_ fn cw_ fw_ cr_ fr_ (xs (i + 1)) (xs (i + 2)) (xs (i + 3)) H.size hO_n) (cwV 3 hts gL_law_X12_enough rfl rfl rfl (by decide +kernel) ⟨Nat.le_of_ble_eq_true rfl, Nat.le_of_ble_eq_true rfl⟩) ⟨fun a U g mk q => by obtain ⟨q0, q1, qP, qK, qD⟩ := q; exact ⟨q0, q1, qP, va_K.moved (u := U) (U := U.calling g mk a) (Vm.Alike.refl U.vm) qK, qD⟩, va_recv hK hP (ci := 12) (q0 := 123) rfl rfl, fun U hU hW => ⟨rfl, by rw [hU], by rw [hU]; exact hPc, va_K.moved hW.alike hKc, hDc.weaken (fun _ _ _ _ => trivial)⟩⟩ rfl rfl hl.1 rfl (lv_room (Nat.le_of_ble_eq_true rfl)) dL_law_731 ⟨Nat.le_of_ble_eq_true rfl, Nat.le_of_ble_eq_true rfl⟩) hS (fun q _ h => hFc q h) hFc (fun r_6 u_ t H1 locs ht hvm hw_7 hB hz1 hk1 hS => ?_)
  obtain ⟨h_allWeights_8, h_trulyIs_9, h_canBe_10, gw__11, gr__12, hP1, hK1, hD1⟩ := hB
  rw [ht] at hP1
  have hK1 := va_K.moved hvm.symm hK1
  obtain ⟨hP, hD⟩ := tz_put (ws' := (tz_XW o aw ai ak sc rd fo tx ar at_ ao w0 w1 w2 w3 w4 w5 sw sh mo nw kp ik mr mw mq mz my mb mx mv ad ab ai0 ai1 cw cai ck csw csh ctx cr ct_ co_ cn_ ck_ ci_ cr_ cw_ cs_ cz_ cy_ cb2_ cx_ cv_ cd cb ci0 ci1 ty gr_3 fk fx ft_ fo_ gw_4 gh_5 la lb rt nl_ np_ nk_ ns_ nv_ ni_ nf_ ud zd fd ub zb fb ui0 zi0 fi0 ui1 zi1 fi1 la_ lb_ h_allWeights_8 h_trulyIs_9 h_canBe_10 ld_ le_ sm_ jb ta_ tl_ tk_ vl_ fn fk_ fi_ gr__12 gw__11 fs_ fz_ fb_ fy_ fx_ fv_)) hP hD [123, 124, 128, 127] rfl hk1 hP1 rfl rfl rfl
  generalize H1 = H at hP hS ⊢
  refine lv_pop hx hb dL_law_734 rfl ?_
  refine lv_goto (tgt := 1153) hx hb dL_law_735 (by decide) ?_
  exact K H _ ls ⟨ty, gr_3, fk, fx, ft_, fo_, gw_4, gh_5, la, lb, rt, nl_, np_, nk_, ns_, nv_, ni_, nf_, ud, zd, fd, ub, zb, fb, ui0, zi0, fi0, ui1, zi1, fi1, la_, lb_, h_allWeights_8, h_trulyIs_9, h_canBe_10, ld_, le_, sm_, jb, ta_, tl_, tk_, vl_, fn, fk_, fi_, gr__12, gw__11, fs_, fz_, fb_, fy_, fx_, fv_, hB_d, hB_b, hB_i0, hB_i1, hO_n, hO_k, hO_x, hO_b, hP, hD⟩ hS hl
set_option maxRecDepth 20000 in
theorem gL_law_X11_plan : GoodIn lw_tbl (wsV RL 98 RX11 yX11_plan wsX11_plan) := tz_good [(34, 9), (34, 10), (34, 11), (0, 2), (34, 12), (1, 10), (5, 20), (1, 17), (1, 6), (2, 1), (10, 4), (10, 5), (10, 6), (3, 4), (10, 7), (3, 15), (7, 4), (7, 5), (0, 2), (7, 6), (7, 7), (7, 8), (7, 9), (7, 10), (7, 11), (7, 12), (7, 13), (7, 14), (2, 6), (29, 9), (29, 10), (29, 11), (1, 16), (29, 12), (4, 3), (29, 13), (29, 14), (29, 15), (29, 16), (29, 17), (29, 18), (29, 19), (10, 9), (10, 10), (10, 11), (3, 22), (3, 21), (8, 8), (8, 9), (8, 10), (8, 11), (29, 20), (5, 22), (5, 23), (6, 0), (29, 21), (29, 22), (29, 23), (30, 0), (4, 4), (30, 1), (24, 1), (24, 2), (24, 3), (24, 4), (0, 17), (24, 5), (24, 6), (24, 7), (24, 2), (0, 14), (24, 9), (24, 10), (24, 11), (0, 23), (24, 12), (24, 13), (24, 14), (24, 15), (24, 16), (0, 20), (24, 17), (30, 1), (24, 19), (24, 20), (24, 21), (1, 5), (24, 22), (24, 23), (25, 0), (25, 1), (25, 2), (1, 2), (25, 3), (25, 4), (25, 5), (25, 6), (25, 7), (31, 11), (31, 12), (31, 13), (31, 14), (30, 7), (30, 8), (30, 9), (30, 10), (30, 3), (30, 4), (30, 5), (30, 6), (34, 13), (34, 14), (34, 15), (34, 16), (34, 17), (34, 18), (34, 19), (34, 20), (11, 16), (11, 17), (11, 18), (11, 19), (25, 8), (25, 9), (25, 10), (25, 11), (25, 12), (25, 13), (25, 14), (25, 10), (25, 16), (25, 17), (25, 18), (25, 19), (25, 8), (25, 21), (25, 22), (25, 23), (26, 0), (26, 1), (26, 2), (26, 3), (34, 21), (34, 22), (34, 23), (35, 0), (33, 16), (33, 17), (33, 18), (33, 19), (33, 20), (35, 1), (35, 2), (2, 0), (35, 3), (6, 9), (6, 10), (6, 11), (6, 12), (4, 22), (4, 23), (6, 13), (6, 14), (6, 15), (46, 0), (46, 1), (46, 2), (46, 3), (46, 4), (46, 5), (46, 6), (46, 7), (46, 8), (46, 9), (46, 10), (46, 11), (54, 0), (54, 1), (54, 2), (54, 3), (54, 4), (54, 5), (58, 0), (58, 1), (58, 2), (58, 3), (55, 0), (55, 1), (57, 0), (57, 1)] (by decide +kernel) (by decide +kernel)
set_option maxRecDepth 20000 in
theorem gL_law_X12_plan : GoodIn lw_tbl (wsV RL 101 RX12 yX12_plan wsX12_plan) := tz_good [(35, 4), (35, 5), (35, 6), (0, 5), (35, 7), (35, 8), (30, 20), (35, 9), (35, 10), (10, 20), (10, 21), (10, 22), (0, 5), (10, 23), (5, 4), (8, 17), (8, 18), (8, 19), (8, 20), (8, 21), (8, 22), (8, 23), (5, 7), (30, 16), (30, 17), (30, 18), (30, 19), (30, 15), (30, 21), (5, 9), (30, 22), (30, 23), (31, 0), (31, 1), (11, 4), (11, 5), (11, 6), (11, 7), (28, 10), (28, 11), (28, 12), (28, 13), (27, 1), (27, 2), (27, 3), (27, 4), (27, 5), (27, 6), (27, 7), (27, 8), (27, 9), (27, 10), (27, 11), (27, 12), (27, 13), (27, 14), (14, 19), (14, 20), (14, 21), (14, 22), (35, 11), (35, 12), (35, 13), (35, 14), (34, 6), (34, 7), (34, 8), (35, 15), (35, 16), (35, 17), (31, 2), (31, 3), (31, 4), (31, 5), (31, 6), (5, 8), (47, 0), (47, 1), (47, 2), (47, 3), (47, 4), (47, 5), (47, 6), (47, 7), (47, 8), (47, 9), (47, 10), (47, 11), (47, 12), (47, 13), (47, 14), (47, 15), (47, 16), (47, 17), (47, 18), (47, 19), (47, 20), (47, 21), (47, 22), (47, 23)] (by decide +kernel) (by decide +kernel)
theorem dL_law_738 : decode cL_law 738 = .ok (.aload_n 1, 1) := by decide +kernel
theorem dL_law_739 : decode cL_law 739 = .ok (.aload_n 0, 1) := by decide +kernel
theorem dL_law_740 : decode cL_law 740 = .ok (.iload_n 3, 1) := by decide +kernel
theorem dL_law_741 : decode cL_law 741 = .ok (.iconst 1, 1) := by decide +kernel
theorem dL_law_742 : decode cL_law 742 = .ok (.iadd, 1) := by decide +kernel
theorem dL_law_743 : decode cL_law 743 = .ok (.iaload, 1) := by decide +kernel
theorem dL_law_744 : decode cL_law 744 = .ok (.aload_n 0, 1) := by decide +kernel
theorem dL_law_745 : decode cL_law 745 = .ok (.iload_n 3, 1) := by decide +kernel
theorem dL_law_746 : decode cL_law 746 = .ok (.iconst 2, 1) := by decide +kernel
theorem dL_law_747 : decode cL_law 747 = .ok (.iadd, 1) := by decide +kernel
theorem dL_law_748 : decode cL_law 748 = .ok (.iaload, 1) := by decide +kernel
theorem dL_law_749 : decode cL_law 749 = .ok (.invokevirtual 98, 3) := by decide +kernel
theorem dL_law_752 : decode cL_law 752 = .ok (.pop, 1) := by decide +kernel
theorem dL_law_753 : decode cL_law 753 = .ok (.aload_n 2, 1) := by decide +kernel
theorem dL_law_754 : decode cL_law 754 = .ok (.aload_n 0, 1) := by decide +kernel
theorem dL_law_755 : decode cL_law 755 = .ok (.iload_n 3, 1) := by decide +kernel
theorem dL_law_756 : decode cL_law 756 = .ok (.iconst 1, 1) := by decide +kernel
theorem dL_law_757 : decode cL_law 757 = .ok (.iadd, 1) := by decide +kernel
theorem dL_law_758 : decode cL_law 758 = .ok (.iaload, 1) := by decide +kernel
theorem dL_law_759 : decode cL_law 759 = .ok (.aload_n 0, 1) := by decide +kernel
theorem dL_law_760 : decode cL_law 760 = .ok (.iload_n 3, 1) := by decide +kernel
theorem dL_law_761 : decode cL_law 761 = .ok (.iconst 2, 1) := by decide +kernel
theorem dL_law_762 : decode cL_law 762 = .ok (.iadd, 1) := by decide +kernel
theorem dL_law_763 : decode cL_law 763 = .ok (.iaload, 1) := by decide +kernel
theorem dL_law_764 : decode cL_law 764 = .ok (.invokevirtual 101, 3) := by decide +kernel
theorem dL_law_767 : decode cL_law 767 = .ok (.pop, 1) := by decide +kernel
theorem dL_law_768 : decode cL_law 768 = .ok (.goto 385, 3) := by decide +kernel
set_option maxHeartbeats 8000000 in
set_option maxRecDepth 100000 in
theorem lc_plan {p : Program} {l : Launch} {e : Env} {s : State} {m : MethodId} {below : List Frame} {meth : Method} {c : Code} {b L : Nat} {xs : Nat → Int32} (hL : L ≤ 3072) (C0 : lw_At p s m meth c b L xs) (hN : tz_N s) (A : Nat → Prop) (hA : ∀ q : Nat, s.heap.size ≤ q → A q) (hA2 : ∀ q : Nat, A q → s.heap.size ≤ q) (hbA : ¬ A b) (hV : tz_V A s s.heap) (dC : Nat → ClassId) (dI : Nat → Nat → Nat) (o : Nat) (aw : Nat) (ai : Nat) (ak : Nat) (sc : Nat) (rd : Nat) (fo : Nat) (tx : Nat) (ar : Nat) (at_ : Nat) (ao : Nat) (w0 : Nat) (w1 : Nat) (w2 : Nat) (w3 : Nat) (w4 : Nat) (w5 : Nat) (sw : Nat) (sh : Nat) (mo : Nat) (nw : Nat) (kp : Nat) (ik : Nat) (mr : Nat) (mw : Nat) (mq : Nat) (mz : Nat) (my : Nat) (mb : Nat) (mx : Nat) (mv : Nat) (ad : Nat → Nat) (ab : Nat → Nat) (ai0 : Nat → Nat) (ai1 : Nat → Nat) (cw : ClassId) (cai : ClassId) (ck : ClassId) (csw : ClassId) (csh : ClassId) (ctx : ClassId) (cr : ClassId) (ct_ : ClassId) (co_ : ClassId) (cn_ : ClassId) (ck_ : ClassId) (ci_ : ClassId) (cr_ : ClassId) (cw_ : ClassId) (cs_ : ClassId) (cz_ : ClassId) (cy_ : ClassId) (cb2_ : ClassId) (cx_ : ClassId) (cv_ : ClassId) (cd : Nat → ClassId) (cb : Nat → ClassId) (ci0 : Nat → ClassId) (ci1 : Nat → ClassId) (hK : va_K (dC, dI) vwCl (tz_T cw cai ck csw csh ctx cr ct_ co_ cn_ ck_ ci_ cr_ cw_ cs_ cz_ cy_ cb2_ cx_ cv_ cd cb ci0 ci1) s) (i : Nat) (hi : i + 6 ≤ L) (H : Heap) (locs : List Loc) (hI : tz_I dC dI o aw ai ak sc rd fo tx ar at_ ao w0 w1 w2 w3 w4 w5 sw sh mo nw kp ik mr mw mq mz my mb mx mv ad ab ai0 ai1 cw cai ck csw csh ctx cr ct_ co_ cn_ ck_ ci_ cr_ cw_ cs_ cz_ cy_ cb2_ cx_ cv_ cd cb ci0 ci1 A H) (hS : va_S A s.heap H locs) (ls : Array Slot) (hl : lv_has ls 4 [(3, .int (nI i)), (2, .ref mo), (1, .ref o), (0, .ref b)]) (K : ∀ (H : Heap) (locs : List Loc) (ls : Array Slot), tz_I dC dI o aw ai ak sc rd fo tx ar at_ ao w0 w1 w2 w3 w4 w5 sw sh mo nw kp ik mr mw mq mz my mb mx mv ad ab ai0 ai1 cw cai ck csw csh ctx cr ct_ co_ cn_ ck_ ci_ cr_ cw_ cs_ cz_ cy_ cb2_ cx_ cv_ cd cb ci0 ci1 A H → va_S A s.heap H locs → lv_has ls 4 [(3, .int (nI i)), (2, .ref mo), (1, .ref o), (0, .ref b)] → W p l e room_1 s m #[Value.ref b] below meth c H locs 136 3195 (lw_Z below #[Value.ref b] s) (F0 m 1153 ls [])) : W p l e room_1 s m #[Value.ref b] below meth c H locs 136 3195 (lw_Z below #[Value.ref b] s) (F0 m 738 ls []) := by
  obtain ⟨hx, hb, hr, hml, hown, hts, hX, hbl, hlocks, hgv⟩ := C0
  have hb : c.code = cL_law := hb
  have hown : s.vm.findClass RL = some m.cls := hown
  obtain ⟨ty, fr, fk, fx, ft_, fo_, fw, fh, la, lb, rt, nl_, np_, nk_, ns_, nv_, ni_, nf_, ud, zd, fd, ub, zb, fb, ui0, zi0, fi0, ui1, zi1, fi1, la_, lb_, lc_, ti_, cb_, ld_, le_, sm_, jb, ta_, tl_, tk_, vl_, fn, fk_, fi_, fr_, fw_, fs_, fz_, fb_, fy_, fx_, fv_, hB_d, hB_b, hB_i0, hB_i1, hO_n, hO_k, hO_x, hO_b, hP, hD⟩ := hI
  have hu_zd := hB_d.2
  have hu_zb := hB_b.2
  have hu_zi0 := hB_i0.2
  have hu_zi1 := hB_i1.2
  refine lv_aload_n hx hb dL_law_738 rfl (lv_at hl 2 rfl) ?_
  refine lv_aload_n hx hb dL_law_739 rfl (lv_at hl 3 rfl) ?_
  refine lv_iload_n hx hb dL_law_740 rfl (lv_at hl 0 rfl) ?_
  refine lv_iconst (v := 1) hx hb dL_law_741 (by decide) ?_
  refine lv_iadd hx hb dL_law_742 ?_
  refine tz_i (nI (i + 1)) (nI_add i 1) ?_
  refine va_sld hx hb hX hbl hbA hS (vp_in_nI (n := (i + 1)) (N := L) (by omega) (by omega)) dL_law_743 ?_
  refine tz_i (xs (i + 1)) (congrArg xs (nI_clamp (by omega))) ?_
  refine lv_aload_n hx hb dL_law_744 rfl (lv_at hl 3 rfl) ?_
  refine lv_iload_n hx hb dL_law_745 rfl (lv_at hl 0 rfl) ?_
  refine lv_iconst (v := 2) hx hb dL_law_746 (by decide) ?_
  refine lv_iadd hx hb dL_law_747 ?_
  refine tz_i (nI (i + 2)) (nI_add i 2) ?_
  refine va_sld hx hb hX hbl hbA hS (vp_in_nI (n := (i + 2)) (N := L) (by omega) (by omega)) dL_law_748 ?_
  refine tz_i (xs (i + 2)) (congrArg xs (nI_clamp (by omega))) ?_
  have hPc := hP.sub (ws' := [(o, .inr (11, [.ref aw, .ref (ab 0), .ref ai, .ref ak, .ref sc, .ref rd, .ref fo, .ref tx, .int ty, .ref ar, .ref at_, .ref ao])), (ar, .inl (cr, 3, .inl fr)), (aw, .inl (cw, 6, .inr (.inr (.inr (.inr (tz_w w0 w1 w2 w3 w4 w5)))))), (w0, .inr (4, [])), (w1, .inr (1, [])), (w2, .inr (10, [])), (w3, .inr (3, [])), (w4, .inr (9, [])), (w5, .inr (8, [])), (sc, .inr (7, [.ref sw, .ref sh])), (sw, .inl (csw, 21, .inr (.inl fw))), (sh, .inl (csh, 21, .inl fh)), (fo, .inr (2, [.long la, .long lb])), ((ab 0), .inr (0, [.ref (ab 1), .ref (ab 3), .ref (ab 5), .ref (ab 7), .ref (ab 9), .int (nI ub)])), ((ab 1), .inr (6, [.int 1, .int 5, .ref (ab 2), .int (nI (zb 0))])), ((ab 2), .inl ((cb 0), 5, .inl (fb 0))), ((ab 3), .inr (6, [.int 4, .int 5, .ref (ab 4), .int (nI (zb 1))])), ((ab 4), .inl ((cb 1), 20, .inl (fb 1))), ((ab 5), .inr (6, [.int 4, .int 8, .ref (ab 6), .int (nI (zb 2))])), ((ab 6), .inl ((cb 2), 32, .inl (fb 2)))]) [0, 1, 7, 8, 9, 10, 11, 12, 13, 14, 15, 16, 17, 45, 46, 47, 48, 49, 50, 51] rfl
  have hDc := hD.sub (ws' := [(o, .inr (11, [.ref aw, .ref (ab 0), .ref ai, .ref ak, .ref sc, .ref rd, .ref fo, .ref tx, .int ty, .ref ar, .ref at_, .ref ao])), (ar, .inl (cr, 3, .inl fr)), (aw, .inl (cw, 6, .inr (.inr (.inr (.inr (tz_w w0 w1 w2 w3 w4 w5)))))), (w0, .inr (4, [])), (w1, .inr (1, [])), (w2, .inr (10, [])), (w3, .inr (3, [])), (w4, .inr (9, [])), (w5, .inr (8, [])), (sc, .inr (7, [.ref sw, .ref sh])), (sw, .inl (csw, 21, .inr (.inl fw))), (sh, .inl (csh, 21, .inl fh)), (fo, .inr (2, [.long la, .long lb])), ((ab 0), .inr (0, [.ref (ab 1), .ref (ab 3), .ref (ab 5), .ref (ab 7), .ref (ab 9), .int (nI ub)])), ((ab 1), .inr (6, [.int 1, .int 5, .ref (ab 2), .int (nI (zb 0))])), ((ab 2), .inl ((cb 0), 5, .inl (fb 0))), ((ab 3), .inr (6, [.int 4, .int 5, .ref (ab 4), .int (nI (zb 1))])), ((ab 4), .inl ((cb 1), 20, .inl (fb 1))), ((ab 5), .inr (6, [.int 4, .int 8, .ref (ab 6), .int (nI (zb 2))])), ((ab 6), .inl ((cb 2), 32, .inl (fb 2)))]) [0, 1, 7, 8, 9, 10, 11, 12, 13, 14, 15, 16, 17, 45, 46, 47, 48, 49, 50, 51] (by decide) rfl
  have hKc := hK.sub (tys' := [(cr, .int), (cw, (.object "ThriceCounted$Ones")), (csw, .long), (csh, .int), ((cb 0), .int), ((cb 1), .int), ((cb 2), .int)]) [0, 6, 7, 8, 22, 23, 24] rfl
  have hFc := va_free (wc := [(o, .inr (11, [.ref aw, .ref (ab 0), .ref ai, .ref ak, .ref sc, .ref rd, .ref fo, .ref tx, .int ty, .ref ar, .ref at_, .ref ao])), (ar, .inl (cr, 3, .inl fr)), (aw, .inl (cw, 6, .inr (.inr (.inr (.inr (tz_w w0 w1 w2 w3 w4 w5)))))), (w0, .inr (4, [])), (w1, .inr (1, [])), (w2, .inr (10, [])), (w3, .inr (3, [])), (w4, .inr (9, [])), (w5, .inr (8, [])), (sc, .inr (7, [.ref sw, .ref sh])), (sw, .inl (csw, 21, .inr (.inl fw))), (sh, .inl (csh, 21, .inl fh)), (fo, .inr (2, [.long la, .long lb])), ((ab 0), .inr (0, [.ref (ab 1), .ref (ab 3), .ref (ab 5), .ref (ab 7), .ref (ab 9), .int (nI ub)])), ((ab 1), .inr (6, [.int 1, .int 5, .ref (ab 2), .int (nI (zb 0))])), ((ab 2), .inl ((cb 0), 5, .inl (fb 0))), ((ab 3), .inr (6, [.int 4, .int 5, .ref (ab 4), .int (nI (zb 1))])), ((ab 4), .inl ((cb 1), 20, .inl (fb 1))), ((ab 5), .inr (6, [.int 4, .int 8, .ref (ab 6), .int (nI (zb 2))])), ((ab 6), .inl ((cb 2), 32, .inl (fb 2)))]) hD hS hA [0, 1, 7, 8, 9, 10, 11, 12, 13, 14, 15, 16, 17, 45, 46, 47, 48, 49, 50, 51] rfl
  refine va_calli (va_runV (As := [.int (xs (i + 1)), .int (xs (i + 2))]) (rest := []) ⟨hx, hb, hml, hown, hts⟩ (x_plan l dC dI o aw ab ai ak sc rd fo tx ty ar at_ ao cr fr cw w0 w1 w2 w3 w4 w5 sw sh csw fw csh fh la lb ub zb cb fb (xs (i + 1)) (xs (i + 2)) H.size ⟨hB_b.1, show ub ≤ 8 by omega⟩) (cwV 2 hts gL_law_X11_plan rfl rfl rfl (by decide +kernel) ⟨Nat.le_of_ble_eq_true rfl, Nat.le_of_ble_eq_true rfl⟩) ⟨fun a U g mk q => by obtain ⟨q0, q1, qP, qK, qD⟩ := q; exact ⟨q0, q1, qP, va_K.moved (u := U) (U := U.calling g mk a) (Vm.Alike.refl U.vm) qK, qD⟩, va_recv hK hP (ci := 11) (q0 := 0) rfl rfl, fun U hU hW => ⟨rfl, by rw [hU], by rw [hU]; exact hPc, va_K.moved hW.alike hKc, hDc.weaken (fun _ _ _ _ => trivial)⟩⟩ rfl rfl hl.1 rfl (lv_room (Nat.le_of_ble_eq_true rfl)) dL_law_749 ⟨Nat.le_of_ble_eq_true rfl, Nat.le_of_ble_eq_true rfl⟩) hS (fun q _ h => hFc q h) hFc (fun r_1 u_ t H1 locs ht hvm hw_2 hB hz1 hk1 hS => ?_)
  obtain ⟨gr_3, gw_4, gh_5, lg_6, lh_7, hP1, hK1, hD1⟩ := hB
  rw [ht] at hP1
  have hK1 := va_K.moved hvm.symm hK1
  obtain ⟨hP, hD⟩ := tz_put (ws' := (tz_XW o aw ai ak sc rd fo tx ar at_ ao w0 w1 w2 w3 w4 w5 sw sh mo nw kp ik mr mw mq mz my mb mx mv ad ab ai0 ai1 cw cai ck csw csh ctx cr ct_ co_ cn_ ck_ ci_ cr_ cw_ cs_ cz_ cy_ cb2_ cx_ cv_ cd cb ci0 ci1 ty gr_3 fk fx ft_ fo_ gw_4 gh_5 lg_6 lh_7 rt nl_ np_ nk_ ns_ nv_ ni_ nf_ ud zd fd ub zb fb ui0 zi0 fi0 ui1 zi1 fi1 la_ lb_ lc_ ti_ cb_ ld_ le_ sm_ jb ta_ tl_ tk_ vl_ fn fk_ fi_ fr_ fw_ fs_ fz_ fb_ fy_ fx_ fv_)) hP hD [0, 1, 7, 8, 9, 10, 11, 12, 13, 14, 15, 16, 17, 45, 46, 47, 48, 49, 50, 51] rfl hk1 hP1 rfl rfl rfl
  generalize H1 = H at hP hS ⊢
  refine lv_pop hx hb dL_law_752 rfl ?_
  refine lv_aload_n hx hb dL_law_753 rfl (lv_at hl 1 rfl) ?_
  refine lv_aload_n hx hb dL_law_754 rfl (lv_at hl 3 rfl) ?_
  refine lv_iload_n hx hb dL_law_755 rfl (lv_at hl 0 rfl) ?_
  refine lv_iconst (v := 1) hx hb dL_law_756 (by decide) ?_
  refine lv_iadd hx hb dL_law_757 ?_
  refine tz_i (nI (i + 1)) (nI_add i 1) ?_
  refine va_sld hx hb hX hbl hbA hS (vp_in_nI (n := (i + 1)) (N := L) (by omega) (by omega)) dL_law_758 ?_
  refine tz_i (xs (i + 1)) (congrArg xs (nI_clamp (by omega))) ?_
  refine lv_aload_n hx hb dL_law_759 rfl (lv_at hl 3 rfl) ?_
  refine lv_iload_n hx hb dL_law_760 rfl (lv_at hl 0 rfl) ?_
  refine lv_iconst (v := 2) hx hb dL_law_761 (by decide) ?_
  refine lv_iadd hx hb dL_law_762 ?_
  refine tz_i (nI (i + 2)) (nI_add i 2) ?_
  refine va_sld hx hb hX hbl hbA hS (vp_in_nI (n := (i + 2)) (N := L) (by omega) (by omega)) dL_law_763 ?_
  refine tz_i (xs (i + 2)) (congrArg xs (nI_clamp (by omega))) ?_
  have hPc := hP.sub (ws' := [(mo, .inr (12, [.ref nw, .ref kp, .ref ik, .ref mr, .long la_, .long lb_, .ref mw, .long lc_, .int ti_, .int cb_, .long ld_, .long le_, .ref mq, .ref mz, .ref my, .int sm_, .ref mb, .int (nI jb), .int ta_, .int tl_, .int tk_, .int vl_, .ref mx, .ref mv])), (nw, .inl (cn_, 350, .inl fn)), (mw, .inl (cw_, 21, .inr (.inl fw_))), (mr, .inl (cr_, 3, .inl fr_))]) [123, 124, 128, 127] rfl
  have hDc := hD.sub (ws' := [(mo, .inr (12, [.ref nw, .ref kp, .ref ik, .ref mr, .long la_, .long lb_, .ref mw, .long lc_, .int ti_, .int cb_, .long ld_, .long le_, .ref mq, .ref mz, .ref my, .int sm_, .ref mb, .int (nI jb), .int ta_, .int tl_, .int tk_, .int vl_, .ref mx, .ref mv])), (nw, .inl (cn_, 350, .inl fn)), (mw, .inl (cw_, 21, .inr (.inl fw_))), (mr, .inl (cr_, 3, .inl fr_))]) [123, 124, 128, 127] (by decide) rfl
  have hKc := hK.sub (tys' := [(cn_, .int), (cw_, .long), (cr_, .int)]) [61, 65, 64] rfl
  have hFc := va_free (wc := [(mo, .inr (12, [.ref nw, .ref kp, .ref ik, .ref mr, .long la_, .long lb_, .ref mw, .long lc_, .int ti_, .int cb_, .long ld_, .long le_, .ref mq, .ref mz, .ref my, .int sm_, .ref mb, .int (nI jb), .int ta_, .int tl_, .int tk_, .int vl_, .ref mx, .ref mv])), (nw, .inl (cn_, 350, .inl fn)), (mw, .inl (cw_, 21, .inr (.inl fw_))), (mr, .inl (cr_, 3, .inl fr_))]) hD hS hA [123, 124, 128, 127] rfl
  refine va_calli (va_runV (As := [.int (xs (i + 1)), .int (xs (i + 2))]) (rest := []) ⟨hx, hb, hml, hown, hts⟩ (m_plan l dC dI mo nw kp ik mr la_ lb_ mw lc_ ti_ cb_ ld_ le_ mq mz my sm_ mb (nI jb) ta_ tl_ tk_ vl_ mx mv cn_ fn cw_ fw_ cr_ fr_ (xs (i + 1)) (xs (i + 2)) H.size hO_n) (cwV 2 hts gL_law_X12_plan rfl rfl rfl (by decide +kernel) ⟨Nat.le_of_ble_eq_true rfl, Nat.le_of_ble_eq_true rfl⟩) ⟨fun a U g mk q => by obtain ⟨q0, q1, qP, qK, qD⟩ := q; exact ⟨q0, q1, qP, va_K.moved (u := U) (U := U.calling g mk a) (Vm.Alike.refl U.vm) qK, qD⟩, va_recv hK hP (ci := 12) (q0 := 123) rfl rfl, fun U hU hW => ⟨rfl, by rw [hU], by rw [hU]; exact hPc, va_K.moved hW.alike hKc, hDc.weaken (fun _ _ _ _ => trivial)⟩⟩ rfl rfl hl.1 rfl (lv_room (Nat.le_of_ble_eq_true rfl)) dL_law_764 ⟨Nat.le_of_ble_eq_true rfl, Nat.le_of_ble_eq_true rfl⟩) hS (fun q _ h => hFc q h) hFc (fun r_8 u_ t H1 locs ht hvm hw_9 hB hz1 hk1 hS => ?_)
  obtain ⟨h_allWeights_10, h_trulyIs_11, h_canBe_12, h_above_13, h_below_14, h_trulyThen_15, h_allThen_16, gw__17, gr__18, hP1, hK1, hD1⟩ := hB
  rw [ht] at hP1
  have hK1 := va_K.moved hvm.symm hK1
  obtain ⟨hP, hD⟩ := tz_put (ws' := (tz_XW o aw ai ak sc rd fo tx ar at_ ao w0 w1 w2 w3 w4 w5 sw sh mo nw kp ik mr mw mq mz my mb mx mv ad ab ai0 ai1 cw cai ck csw csh ctx cr ct_ co_ cn_ ck_ ci_ cr_ cw_ cs_ cz_ cy_ cb2_ cx_ cv_ cd cb ci0 ci1 ty gr_3 fk fx ft_ fo_ gw_4 gh_5 lg_6 lh_7 rt nl_ np_ nk_ ns_ nv_ ni_ nf_ ud zd fd ub zb fb ui0 zi0 fi0 ui1 zi1 fi1 h_above_13 h_below_14 h_allWeights_10 h_trulyIs_11 h_canBe_12 h_trulyThen_15 h_allThen_16 sm_ jb ta_ tl_ tk_ vl_ fn fk_ fi_ gr__18 gw__17 fs_ fz_ fb_ fy_ fx_ fv_)) hP hD [123, 124, 128, 127] rfl hk1 hP1 rfl rfl rfl
  generalize H1 = H at hP hS ⊢
  refine lv_pop hx hb dL_law_767 rfl ?_
  refine lv_goto (tgt := 1153) hx hb dL_law_768 (by decide) ?_
  exact K H _ ls ⟨ty, gr_3, fk, fx, ft_, fo_, gw_4, gh_5, lg_6, lh_7, rt, nl_, np_, nk_, ns_, nv_, ni_, nf_, ud, zd, fd, ub, zb, fb, ui0, zi0, fi0, ui1, zi1, fi1, h_above_13, h_below_14, h_allWeights_10, h_trulyIs_11, h_canBe_12, h_trulyThen_15, h_allThen_16, sm_, jb, ta_, tl_, tk_, vl_, fn, fk_, fi_, gr__18, gw__17, fs_, fz_, fb_, fy_, fx_, fv_, hB_d, hB_b, hB_i0, hB_i1, hO_n, hO_k, hO_x, hO_b, hP, hD⟩ hS hl
set_option maxRecDepth 20000 in
theorem gL_law_X11_open : GoodIn lw_tbl (wsV RL 102 RX11 yX11_open wsX11_open) := tz_good [(35, 18), (35, 19), (35, 20), (0, 2), (35, 21), (1, 10), (5, 20), (2, 7), (32, 11), (32, 12), (32, 13), (0, 2), (32, 14), (1, 17), (1, 6), (5, 21), (5, 22), (5, 23), (3, 4), (6, 0), (3, 15), (29, 9), (29, 10), (29, 11), (1, 16), (29, 12), (4, 3), (29, 13), (29, 14), (29, 15), (29, 16), (29, 17), (29, 18), (29, 19), (10, 9), (10, 10), (10, 11), (3, 22), (3, 21), (8, 8), (8, 9), (8, 10), (8, 11), (29, 20), (29, 21), (29, 22), (29, 23), (30, 0), (4, 4), (30, 1), (24, 1), (24, 2), (24, 3), (24, 4), (0, 17), (24, 5), (24, 6), (24, 7), (24, 2), (0, 14), (24, 9), (24, 10), (24, 11), (0, 23), (24, 12), (24, 13), (24, 14), (24, 15), (24, 16), (0, 20), (24, 17), (30, 1), (24, 19), (24, 20), (24, 21), (1, 5), (24, 22), (24, 23), (25, 0), (25, 1), (25, 2), (1, 2), (25, 3), (25, 4), (25, 5), (25, 6), (25, 7), (31, 11), (31, 12), (31, 13), (31, 14), (10, 8), (46, 0), (46, 1), (46, 2), (46, 3), (46, 4), (46, 5), (46, 6), (46, 7), (46, 8), (46, 9), (46, 10), (46, 11), (54, 0), (54, 1), (54, 2), (54, 3), (54, 4), (54, 5), (58, 0), (58, 1), (58, 2), (58, 3), (55, 0), (55, 1)] (by decide +kernel) (by decide +kernel)
set_option maxRecDepth 20000 in
theorem gL_law_X12_open : GoodIn lw_tbl (wsV RL 105 RX12 yX12_open wsX12_open) := tz_good [(35, 22), (35, 23), (36, 0), (0, 5), (36, 1), (5, 4), (30, 20), (30, 16), (30, 17), (30, 18), (0, 5), (30, 19), (30, 15), (30, 21), (5, 9), (30, 22), (30, 23), (31, 0), (31, 1), (11, 4), (11, 5), (11, 6), (11, 7), (8, 17), (8, 18), (8, 19), (28, 10), (28, 11), (28, 12), (28, 13), (27, 1), (27, 2), (27, 3), (27, 4), (27, 5), (27, 6), (27, 7), (27, 8), (27, 9), (27, 10), (27, 11), (27, 12), (27, 13), (27, 14), (47, 0), (47, 1), (47, 2), (47, 3), (47, 4), (47, 5), (47, 6), (47, 7), (47, 8), (47, 9), (47, 10), (47, 11), (47, 12), (47, 13), (47, 14), (47, 15), (47, 16), (47, 17), (47, 18), (47, 19), (47, 20), (47, 21), (47, 22), (47, 23)] (by decide +kernel) (by decide +kernel)
theorem dL_law_771 : decode cL_law 771 = .ok (.aload_n 1, 1) := by decide +kernel
theorem dL_law_772 : decode cL_law 772 = .ok (.invokevirtual 102, 3) := by decide +kernel
theorem dL_law_775 : decode cL_law 775 = .ok (.pop, 1) := by decide +kernel
theorem dL_law_776 : decode cL_law 776 = .ok (.aload_n 2, 1) := by decide +kernel
theorem dL_law_777 : decode cL_law 777 = .ok (.invokevirtual 105, 3) := by decide +kernel
theorem dL_law_780 : decode cL_law 780 = .ok (.pop, 1) := by decide +kernel
theorem dL_law_781 : decode cL_law 781 = .ok (.goto 372, 3) := by decide +kernel
set_option maxHeartbeats 8000000 in
set_option maxRecDepth 100000 in
theorem lc_open {p : Program} {l : Launch} {e : Env} {s : State} {m : MethodId} {below : List Frame} {meth : Method} {c : Code} {b L : Nat} {xs : Nat → Int32} (hL : L ≤ 3072) (C0 : lw_At p s m meth c b L xs) (hN : tz_N s) (A : Nat → Prop) (hA : ∀ q : Nat, s.heap.size ≤ q → A q) (hA2 : ∀ q : Nat, A q → s.heap.size ≤ q) (hbA : ¬ A b) (hV : tz_V A s s.heap) (dC : Nat → ClassId) (dI : Nat → Nat → Nat) (o : Nat) (aw : Nat) (ai : Nat) (ak : Nat) (sc : Nat) (rd : Nat) (fo : Nat) (tx : Nat) (ar : Nat) (at_ : Nat) (ao : Nat) (w0 : Nat) (w1 : Nat) (w2 : Nat) (w3 : Nat) (w4 : Nat) (w5 : Nat) (sw : Nat) (sh : Nat) (mo : Nat) (nw : Nat) (kp : Nat) (ik : Nat) (mr : Nat) (mw : Nat) (mq : Nat) (mz : Nat) (my : Nat) (mb : Nat) (mx : Nat) (mv : Nat) (ad : Nat → Nat) (ab : Nat → Nat) (ai0 : Nat → Nat) (ai1 : Nat → Nat) (cw : ClassId) (cai : ClassId) (ck : ClassId) (csw : ClassId) (csh : ClassId) (ctx : ClassId) (cr : ClassId) (ct_ : ClassId) (co_ : ClassId) (cn_ : ClassId) (ck_ : ClassId) (ci_ : ClassId) (cr_ : ClassId) (cw_ : ClassId) (cs_ : ClassId) (cz_ : ClassId) (cy_ : ClassId) (cb2_ : ClassId) (cx_ : ClassId) (cv_ : ClassId) (cd : Nat → ClassId) (cb : Nat → ClassId) (ci0 : Nat → ClassId) (ci1 : Nat → ClassId) (hK : va_K (dC, dI) vwCl (tz_T cw cai ck csw csh ctx cr ct_ co_ cn_ ck_ ci_ cr_ cw_ cs_ cz_ cy_ cb2_ cx_ cv_ cd cb ci0 ci1) s) (i : Nat) (hi : i + 6 ≤ L) (H : Heap) (locs : List Loc) (hI : tz_I dC dI o aw ai ak sc rd fo tx ar at_ ao w0 w1 w2 w3 w4 w5 sw sh mo nw kp ik mr mw mq mz my mb mx mv ad ab ai0 ai1 cw cai ck csw csh ctx cr ct_ co_ cn_ ck_ ci_ cr_ cw_ cs_ cz_ cy_ cb2_ cx_ cv_ cd cb ci0 ci1 A H) (hS : va_S A s.heap H locs) (ls : Array Slot) (hl : lv_has ls 4 [(3, .int (nI i)), (2, .ref mo), (1, .ref o), (0, .ref b)]) (K : ∀ (H : Heap) (locs : List Loc) (ls : Array Slot), tz_I dC dI o aw ai ak sc rd fo tx ar at_ ao w0 w1 w2 w3 w4 w5 sw sh mo nw kp ik mr mw mq mz my mb mx mv ad ab ai0 ai1 cw cai ck csw csh ctx cr ct_ co_ cn_ ck_ ci_ cr_ cw_ cs_ cz_ cy_ cb2_ cx_ cv_ cd cb ci0 ci1 A H → va_S A s.heap H locs → lv_has ls 4 [(3, .int (nI i)), (2, .ref mo), (1, .ref o), (0, .ref b)] → W p l e room_1 s m #[Value.ref b] below meth c H locs 136 3195 (lw_Z below #[Value.ref b] s) (F0 m 1153 ls [])) : W p l e room_1 s m #[Value.ref b] below meth c H locs 136 3195 (lw_Z below #[Value.ref b] s) (F0 m 771 ls []) := by
  obtain ⟨hx, hb, hr, hml, hown, hts, hX, hbl, hlocks, hgv⟩ := C0
  have hb : c.code = cL_law := hb
  have hown : s.vm.findClass RL = some m.cls := hown
  obtain ⟨ty, fr, fk, fx, ft_, fo_, fw, fh, la, lb, rt, nl_, np_, nk_, ns_, nv_, ni_, nf_, ud, zd, fd, ub, zb, fb, ui0, zi0, fi0, ui1, zi1, fi1, la_, lb_, lc_, ti_, cb_, ld_, le_, sm_, jb, ta_, tl_, tk_, vl_, fn, fk_, fi_, fr_, fw_, fs_, fz_, fb_, fy_, fx_, fv_, hB_d, hB_b, hB_i0, hB_i1, hO_n, hO_k, hO_x, hO_b, hP, hD⟩ := hI
  have hu_zd := hB_d.2
  have hu_zb := hB_b.2
  have hu_zi0 := hB_i0.2
  have hu_zi1 := hB_i1.2
  refine lv_aload_n hx hb dL_law_771 rfl (lv_at hl 2 rfl) ?_
  have hPc := hP.sub (ws' := [(o, .inr (11, [.ref aw, .ref (ab 0), .ref ai, .ref ak, .ref sc, .ref rd, .ref fo, .ref tx, .int ty, .ref ar, .ref at_, .ref ao])), (aw, .inl (cw, 6, .inr (.inr (.inr (.inr (tz_w w0 w1 w2 w3 w4 w5)))))), (w0, .inr (4, [])), (w1, .inr (1, [])), (w2, .inr (10, [])), (w3, .inr (3, [])), (w4, .inr (9, [])), (w5, .inr (8, [])), (sc, .inr (7, [.ref sw, .ref sh])), (sw, .inl (csw, 21, .inr (.inl fw))), (sh, .inl (csh, 21, .inl fh)), (at_, .inl (ct_, 5, .inl ft_)), ((ab 0), .inr (0, [.ref (ab 1), .ref (ab 3), .ref (ab 5), .ref (ab 7), .ref (ab 9), .int (nI ub)])), ((ab 1), .inr (6, [.int 1, .int 5, .ref (ab 2), .int (nI (zb 0))])), ((ab 2), .inl ((cb 0), 5, .inl (fb 0))), ((ab 3), .inr (6, [.int 4, .int 5, .ref (ab 4), .int (nI (zb 1))])), ((ab 4), .inl ((cb 1), 20, .inl (fb 1))), ((ab 5), .inr (6, [.int 4, .int 8, .ref (ab 6), .int (nI (zb 2))])), ((ab 6), .inl ((cb 2), 32, .inl (fb 2)))]) [0, 7, 8, 9, 10, 11, 12, 13, 14, 15, 16, 5, 45, 46, 47, 48, 49, 50, 51] rfl
  have hDc := hD.sub (ws' := [(o, .inr (11, [.ref aw, .ref (ab 0), .ref ai, .ref ak, .ref sc, .ref rd, .ref fo, .ref tx, .int ty, .ref ar, .ref at_, .ref ao])), (aw, .inl (cw, 6, .inr (.inr (.inr (.inr (tz_w w0 w1 w2 w3 w4 w5)))))), (w0, .inr (4, [])), (w1, .inr (1, [])), (w2, .inr (10, [])), (w3, .inr (3, [])), (w4, .inr (9, [])), (w5, .inr (8, [])), (sc, .inr (7, [.ref sw, .ref sh])), (sw, .inl (csw, 21, .inr (.inl fw))), (sh, .inl (csh, 21, .inl fh)), (at_, .inl (ct_, 5, .inl ft_)), ((ab 0), .inr (0, [.ref (ab 1), .ref (ab 3), .ref (ab 5), .ref (ab 7), .ref (ab 9), .int (nI ub)])), ((ab 1), .inr (6, [.int 1, .int 5, .ref (ab 2), .int (nI (zb 0))])), ((ab 2), .inl ((cb 0), 5, .inl (fb 0))), ((ab 3), .inr (6, [.int 4, .int 5, .ref (ab 4), .int (nI (zb 1))])), ((ab 4), .inl ((cb 1), 20, .inl (fb 1))), ((ab 5), .inr (6, [.int 4, .int 8, .ref (ab 6), .int (nI (zb 2))])), ((ab 6), .inl ((cb 2), 32, .inl (fb 2)))]) [0, 7, 8, 9, 10, 11, 12, 13, 14, 15, 16, 5, 45, 46, 47, 48, 49, 50, 51] (by decide) rfl
  have hKc := hK.sub (tys' := [(cw, (.object "ThriceCounted$Ones")), (csw, .long), (csh, .int), (ct_, .int), ((cb 0), .int), ((cb 1), .int), ((cb 2), .int)]) [6, 7, 8, 4, 22, 23, 24] rfl
  have hFc := va_free (wc := [(o, .inr (11, [.ref aw, .ref (ab 0), .ref ai, .ref ak, .ref sc, .ref rd, .ref fo, .ref tx, .int ty, .ref ar, .ref at_, .ref ao])), (aw, .inl (cw, 6, .inr (.inr (.inr (.inr (tz_w w0 w1 w2 w3 w4 w5)))))), (w0, .inr (4, [])), (w1, .inr (1, [])), (w2, .inr (10, [])), (w3, .inr (3, [])), (w4, .inr (9, [])), (w5, .inr (8, [])), (sc, .inr (7, [.ref sw, .ref sh])), (sw, .inl (csw, 21, .inr (.inl fw))), (sh, .inl (csh, 21, .inl fh)), (at_, .inl (ct_, 5, .inl ft_)), ((ab 0), .inr (0, [.ref (ab 1), .ref (ab 3), .ref (ab 5), .ref (ab 7), .ref (ab 9), .int (nI ub)])), ((ab 1), .inr (6, [.int 1, .int 5, .ref (ab 2), .int (nI (zb 0))])), ((ab 2), .inl ((cb 0), 5, .inl (fb 0))), ((ab 3), .inr (6, [.int 4, .int 5, .ref (ab 4), .int (nI (zb 1))])), ((ab 4), .inl ((cb 1), 20, .inl (fb 1))), ((ab 5), .inr (6, [.int 4, .int 8, .ref (ab 6), .int (nI (zb 2))])), ((ab 6), .inl ((cb 2), 32, .inl (fb 2)))]) hD hS hA [0, 7, 8, 9, 10, 11, 12, 13, 14, 15, 16, 5, 45, 46, 47, 48, 49, 50, 51] rfl
  refine va_calli (va_runV (As := []) (rest := []) ⟨hx, hb, hml, hown, hts⟩ (x_open l dC dI o aw ab ai ak sc rd fo tx ty ar at_ ao cw w0 w1 w2 w3 w4 w5 sw sh csw fw csh fh ct_ ft_ ub zb cb fb H.size ⟨hB_b.1, show ub ≤ 8 by omega⟩) (cwV 0 hts gL_law_X11_open rfl rfl rfl (by decide +kernel) ⟨Nat.le_of_ble_eq_true rfl, Nat.le_of_ble_eq_true rfl⟩) ⟨fun a U g mk q => by obtain ⟨q0, q1, qP, qK, qD⟩ := q; exact ⟨q0, q1, qP, va_K.moved (u := U) (U := U.calling g mk a) (Vm.Alike.refl U.vm) qK, qD⟩, va_recv hK hP (ci := 11) (q0 := 0) rfl rfl, fun U hU hW => ⟨rfl, by rw [hU], by rw [hU]; exact hPc, va_K.moved hW.alike hKc, hDc.weaken (fun _ _ _ _ => trivial)⟩⟩ rfl rfl hl.1 rfl (lv_room (Nat.le_of_ble_eq_true rfl)) dL_law_772 ⟨Nat.le_of_ble_eq_true rfl, Nat.le_of_ble_eq_true rfl⟩) hS (fun q _ h => hFc q h) hFc (fun r_1 u_ t H1 locs ht hvm hw_2 hB hz1 hk1 hS => ?_)
  obtain ⟨gw_3, gh_4, gt__5, hP1, hK1, hD1⟩ := hB
  rw [ht] at hP1
  have hK1 := va_K.moved hvm.symm hK1
  obtain ⟨hP, hD⟩ := tz_put (ws' := (tz_XW o aw ai ak sc rd fo tx ar at_ ao w0 w1 w2 w3 w4 w5 sw sh mo nw kp ik mr mw mq mz my mb mx mv ad ab ai0 ai1 cw cai ck csw csh ctx cr ct_ co_ cn_ ck_ ci_ cr_ cw_ cs_ cz_ cy_ cb2_ cx_ cv_ cd cb ci0 ci1 ty fr fk fx gt__5 fo_ gw_3 gh_4 la lb rt nl_ np_ nk_ ns_ nv_ ni_ nf_ ud zd fd ub zb fb ui0 zi0 fi0 ui1 zi1 fi1 la_ lb_ lc_ ti_ cb_ ld_ le_ sm_ jb ta_ tl_ tk_ vl_ fn fk_ fi_ fr_ fw_ fs_ fz_ fb_ fy_ fx_ fv_)) hP hD [0, 7, 8, 9, 10, 11, 12, 13, 14, 15, 16, 5, 45, 46, 47, 48, 49, 50, 51] rfl hk1 hP1 rfl rfl rfl
  generalize H1 = H at hP hS ⊢
  refine lv_pop hx hb dL_law_775 rfl ?_
  refine lv_aload_n hx hb dL_law_776 rfl (lv_at hl 1 rfl) ?_
  have hPc := hP.sub (ws' := [(mo, .inr (12, [.ref nw, .ref kp, .ref ik, .ref mr, .long la_, .long lb_, .ref mw, .long lc_, .int ti_, .int cb_, .long ld_, .long le_, .ref mq, .ref mz, .ref my, .int sm_, .ref mb, .int (nI jb), .int ta_, .int tl_, .int tk_, .int vl_, .ref mx, .ref mv])), (nw, .inl (cn_, 350, .inl fn)), (mw, .inl (cw_, 21, .inr (.inl fw_)))]) [123, 124, 128] rfl
  have hDc := hD.sub (ws' := [(mo, .inr (12, [.ref nw, .ref kp, .ref ik, .ref mr, .long la_, .long lb_, .ref mw, .long lc_, .int ti_, .int cb_, .long ld_, .long le_, .ref mq, .ref mz, .ref my, .int sm_, .ref mb, .int (nI jb), .int ta_, .int tl_, .int tk_, .int vl_, .ref mx, .ref mv])), (nw, .inl (cn_, 350, .inl fn)), (mw, .inl (cw_, 21, .inr (.inl fw_)))]) [123, 124, 128] (by decide) rfl
  have hKc := hK.sub (tys' := [(cn_, .int), (cw_, .long)]) [61, 65] rfl
  have hFc := va_free (wc := [(mo, .inr (12, [.ref nw, .ref kp, .ref ik, .ref mr, .long la_, .long lb_, .ref mw, .long lc_, .int ti_, .int cb_, .long ld_, .long le_, .ref mq, .ref mz, .ref my, .int sm_, .ref mb, .int (nI jb), .int ta_, .int tl_, .int tk_, .int vl_, .ref mx, .ref mv])), (nw, .inl (cn_, 350, .inl fn)), (mw, .inl (cw_, 21, .inr (.inl fw_)))]) hD hS hA [123, 124, 128] rfl
  refine va_calli (va_runV (As := []) (rest := []) ⟨hx, hb, hml, hown, hts⟩ (m_open l dC dI mo nw kp ik mr la_ lb_ mw lc_ ti_ cb_ ld_ le_ mq mz my sm_ mb (nI jb) ta_ tl_ tk_ vl_ mx mv cn_ fn cw_ fw_ H.size hO_n) (cwV 0 hts gL_law_X12_open rfl rfl rfl (by decide +kernel) ⟨Nat.le_of_ble_eq_true rfl, Nat.le_of_ble_eq_true rfl⟩) ⟨fun a U g mk q => by obtain ⟨q0, q1, qP, qK, qD⟩ := q; exact ⟨q0, q1, qP, va_K.moved (u := U) (U := U.calling g mk a) (Vm.Alike.refl U.vm) qK, qD⟩, va_recv hK hP (ci := 12) (q0 := 123) rfl rfl, fun U hU hW => ⟨rfl, by rw [hU], by rw [hU]; exact hPc, va_K.moved hW.alike hKc, hDc.weaken (fun _ _ _ _ => trivial)⟩⟩ rfl rfl hl.1 rfl (lv_room (Nat.le_of_ble_eq_true rfl)) dL_law_777 ⟨Nat.le_of_ble_eq_true rfl, Nat.le_of_ble_eq_true rfl⟩) hS (fun q _ h => hFc q h) hFc (fun r_6 u_ t H1 locs ht hvm hw_7 hB hz1 hk1 hS => ?_)
  obtain ⟨h_allWeights_8, h_trulyIs_9, h_canBe_10, gw__11, hP1, hK1, hD1⟩ := hB
  rw [ht] at hP1
  have hK1 := va_K.moved hvm.symm hK1
  obtain ⟨hP, hD⟩ := tz_put (ws' := (tz_XW o aw ai ak sc rd fo tx ar at_ ao w0 w1 w2 w3 w4 w5 sw sh mo nw kp ik mr mw mq mz my mb mx mv ad ab ai0 ai1 cw cai ck csw csh ctx cr ct_ co_ cn_ ck_ ci_ cr_ cw_ cs_ cz_ cy_ cb2_ cx_ cv_ cd cb ci0 ci1 ty fr fk fx gt__5 fo_ gw_3 gh_4 la lb rt nl_ np_ nk_ ns_ nv_ ni_ nf_ ud zd fd ub zb fb ui0 zi0 fi0 ui1 zi1 fi1 la_ lb_ h_allWeights_8 h_trulyIs_9 h_canBe_10 ld_ le_ sm_ jb ta_ tl_ tk_ vl_ fn fk_ fi_ fr_ gw__11 fs_ fz_ fb_ fy_ fx_ fv_)) hP hD [123, 124, 128] rfl hk1 hP1 rfl rfl rfl
  generalize H1 = H at hP hS ⊢
  refine lv_pop hx hb dL_law_780 rfl ?_
  refine lv_goto (tgt := 1153) hx hb dL_law_781 (by decide) ?_
  exact K H _ ls ⟨ty, fr, fk, fx, gt__5, fo_, gw_3, gh_4, la, lb, rt, nl_, np_, nk_, ns_, nv_, ni_, nf_, ud, zd, fd, ub, zb, fb, ui0, zi0, fi0, ui1, zi1, fi1, la_, lb_, h_allWeights_8, h_trulyIs_9, h_canBe_10, ld_, le_, sm_, jb, ta_, tl_, tk_, vl_, fn, fk_, fi_, fr_, gw__11, fs_, fz_, fb_, fy_, fx_, fv_, hB_d, hB_b, hB_i0, hB_i1, hO_n, hO_k, hO_x, hO_b, hP, hD⟩ hS hl
set_option maxRecDepth 20000 in
theorem gL_law_X11_sum : GoodIn lw_tbl (wsV RL 106 RX11 yX11_sum wsX11_sum) := tz_good [(36, 2), (36, 3), (36, 4), (0, 2), (36, 5), (1, 10), (5, 20), (2, 7), (32, 11), (32, 12), (32, 13), (0, 2), (32, 14), (1, 17), (1, 6), (5, 21), (5, 22), (5, 23), (3, 4), (6, 0), (3, 15), (29, 9), (29, 10), (29, 11), (1, 16), (29, 12), (4, 3), (29, 13), (29, 14), (29, 15), (29, 16), (29, 17), (29, 18), (29, 19), (10, 9), (10, 10), (10, 11), (3, 22), (3, 21), (8, 8), (8, 9), (8, 10), (8, 11), (29, 20), (29, 21), (29, 22), (29, 23), (30, 0), (4, 4), (30, 1), (24, 1), (24, 2), (24, 3), (24, 4), (0, 17), (24, 5), (24, 6), (24, 7), (24, 2), (0, 14), (24, 9), (24, 10), (24, 11), (0, 23), (24, 12), (24, 13), (24, 14), (24, 15), (24, 16), (0, 20), (24, 17), (30, 1), (24, 19), (24, 20), (24, 21), (1, 5), (24, 22), (24, 23), (25, 0), (25, 1), (25, 2), (1, 2), (25, 3), (25, 4), (25, 5), (25, 6), (25, 7), (31, 11), (31, 12), (31, 13), (31, 14), (46, 0), (46, 1), (46, 2), (46, 3), (46, 4), (46, 5), (46, 6), (46, 7), (46, 8), (46, 9), (46, 10), (46, 11), (54, 0), (54, 1), (54, 2), (54, 3), (54, 4), (54, 5), (58, 0), (58, 1), (58, 2), (58, 3), (55, 0), (55, 1)] (by decide +kernel) (by decide +kernel)
set_option maxRecDepth 20000 in
theorem gL_law_X12_sum : GoodIn lw_tbl (wsV RL 109 RX12 yX12_sum wsX12_sum) := tz_good [(36, 6), (36, 7), (36, 8), (0, 5), (36, 9), (5, 4), (30, 20), (30, 16), (30, 17), (30, 18), (0, 5), (30, 19), (30, 15), (30, 21), (5, 9), (30, 22), (30, 23), (31, 0), (31, 1), (11, 4), (11, 5), (11, 6), (11, 7), (8, 17), (8, 18), (8, 19), (28, 10), (28, 11), (28, 12), (28, 13), (27, 1), (27, 2), (27, 3), (27, 4), (27, 5), (27, 6), (27, 7), (27, 8), (27, 9), (27, 10), (27, 11), (27, 12), (27, 13), (27, 14), (47, 0), (47, 1), (47, 2), (47, 3), (47, 4), (47, 5), (47, 6), (47, 7), (47, 8), (47, 9), (47, 10), (47, 11), (47, 12), (47, 13), (47, 14), (47, 15), (47, 16), (47, 17), (47, 18), (47, 19), (47, 20), (47, 21), (47, 22), (47, 23)] (by decide +kernel) (by decide +kernel)
theorem dL_law_784 : decode cL_law 784 = .ok (.aload_n 1, 1) := by decide +kernel
theorem dL_law_785 : decode cL_law 785 = .ok (.invokevirtual 106, 3) := by decide +kernel
theorem dL_law_788 : decode cL_law 788 = .ok (.pop, 1) := by decide +kernel
theorem dL_law_789 : decode cL_law 789 = .ok (.aload_n 2, 1) := by decide +kernel
theorem dL_law_790 : decode cL_law 790 = .ok (.invokevirtual 109, 3) := by decide +kernel
theorem dL_law_793 : decode cL_law 793 = .ok (.pop, 1) := by decide +kernel
theorem dL_law_794 : decode cL_law 794 = .ok (.goto 359, 3) := by decide +kernel
set_option maxHeartbeats 8000000 in
set_option maxRecDepth 100000 in
theorem lc_sum {p : Program} {l : Launch} {e : Env} {s : State} {m : MethodId} {below : List Frame} {meth : Method} {c : Code} {b L : Nat} {xs : Nat → Int32} (hL : L ≤ 3072) (C0 : lw_At p s m meth c b L xs) (hN : tz_N s) (A : Nat → Prop) (hA : ∀ q : Nat, s.heap.size ≤ q → A q) (hA2 : ∀ q : Nat, A q → s.heap.size ≤ q) (hbA : ¬ A b) (hV : tz_V A s s.heap) (dC : Nat → ClassId) (dI : Nat → Nat → Nat) (o : Nat) (aw : Nat) (ai : Nat) (ak : Nat) (sc : Nat) (rd : Nat) (fo : Nat) (tx : Nat) (ar : Nat) (at_ : Nat) (ao : Nat) (w0 : Nat) (w1 : Nat) (w2 : Nat) (w3 : Nat) (w4 : Nat) (w5 : Nat) (sw : Nat) (sh : Nat) (mo : Nat) (nw : Nat) (kp : Nat) (ik : Nat) (mr : Nat) (mw : Nat) (mq : Nat) (mz : Nat) (my : Nat) (mb : Nat) (mx : Nat) (mv : Nat) (ad : Nat → Nat) (ab : Nat → Nat) (ai0 : Nat → Nat) (ai1 : Nat → Nat) (cw : ClassId) (cai : ClassId) (ck : ClassId) (csw : ClassId) (csh : ClassId) (ctx : ClassId) (cr : ClassId) (ct_ : ClassId) (co_ : ClassId) (cn_ : ClassId) (ck_ : ClassId) (ci_ : ClassId) (cr_ : ClassId) (cw_ : ClassId) (cs_ : ClassId) (cz_ : ClassId) (cy_ : ClassId) (cb2_ : ClassId) (cx_ : ClassId) (cv_ : ClassId) (cd : Nat → ClassId) (cb : Nat → ClassId) (ci0 : Nat → ClassId) (ci1 : Nat → ClassId) (hK : va_K (dC, dI) vwCl (tz_T cw cai ck csw csh ctx cr ct_ co_ cn_ ck_ ci_ cr_ cw_ cs_ cz_ cy_ cb2_ cx_ cv_ cd cb ci0 ci1) s) (i : Nat) (hi : i + 6 ≤ L) (H : Heap) (locs : List Loc) (hI : tz_I dC dI o aw ai ak sc rd fo tx ar at_ ao w0 w1 w2 w3 w4 w5 sw sh mo nw kp ik mr mw mq mz my mb mx mv ad ab ai0 ai1 cw cai ck csw csh ctx cr ct_ co_ cn_ ck_ ci_ cr_ cw_ cs_ cz_ cy_ cb2_ cx_ cv_ cd cb ci0 ci1 A H) (hS : va_S A s.heap H locs) (ls : Array Slot) (hl : lv_has ls 4 [(3, .int (nI i)), (2, .ref mo), (1, .ref o), (0, .ref b)]) (K : ∀ (H : Heap) (locs : List Loc) (ls : Array Slot), tz_I dC dI o aw ai ak sc rd fo tx ar at_ ao w0 w1 w2 w3 w4 w5 sw sh mo nw kp ik mr mw mq mz my mb mx mv ad ab ai0 ai1 cw cai ck csw csh ctx cr ct_ co_ cn_ ck_ ci_ cr_ cw_ cs_ cz_ cy_ cb2_ cx_ cv_ cd cb ci0 ci1 A H → va_S A s.heap H locs → lv_has ls 4 [(3, .int (nI i)), (2, .ref mo), (1, .ref o), (0, .ref b)] → W p l e room_1 s m #[Value.ref b] below meth c H locs 136 3195 (lw_Z below #[Value.ref b] s) (F0 m 1153 ls [])) : W p l e room_1 s m #[Value.ref b] below meth c H locs 136 3195 (lw_Z below #[Value.ref b] s) (F0 m 784 ls []) := by
  obtain ⟨hx, hb, hr, hml, hown, hts, hX, hbl, hlocks, hgv⟩ := C0
  have hb : c.code = cL_law := hb
  have hown : s.vm.findClass RL = some m.cls := hown
  obtain ⟨ty, fr, fk, fx, ft_, fo_, fw, fh, la, lb, rt, nl_, np_, nk_, ns_, nv_, ni_, nf_, ud, zd, fd, ub, zb, fb, ui0, zi0, fi0, ui1, zi1, fi1, la_, lb_, lc_, ti_, cb_, ld_, le_, sm_, jb, ta_, tl_, tk_, vl_, fn, fk_, fi_, fr_, fw_, fs_, fz_, fb_, fy_, fx_, fv_, hB_d, hB_b, hB_i0, hB_i1, hO_n, hO_k, hO_x, hO_b, hP, hD⟩ := hI
  have hu_zd := hB_d.2
  have hu_zb := hB_b.2
  have hu_zi0 := hB_i0.2
  have hu_zi1 := hB_i1.2
  refine lv_aload_n hx hb dL_law_784 rfl (lv_at hl 2 rfl) ?_
  have hPc := hP.sub (ws' := [(o, .inr (11, [.ref aw, .ref (ab 0), .ref ai, .ref ak, .ref sc, .ref rd, .ref fo, .ref tx, .int ty, .ref ar, .ref at_, .ref ao])), (aw, .inl (cw, 6, .inr (.inr (.inr (.inr (tz_w w0 w1 w2 w3 w4 w5)))))), (w0, .inr (4, [])), (w1, .inr (1, [])), (w2, .inr (10, [])), (w3, .inr (3, [])), (w4, .inr (9, [])), (w5, .inr (8, [])), (sc, .inr (7, [.ref sw, .ref sh])), (sw, .inl (csw, 21, .inr (.inl fw))), (sh, .inl (csh, 21, .inl fh)), (at_, .inl (ct_, 5, .inl ft_)), ((ab 0), .inr (0, [.ref (ab 1), .ref (ab 3), .ref (ab 5), .ref (ab 7), .ref (ab 9), .int (nI ub)])), ((ab 1), .inr (6, [.int 1, .int 5, .ref (ab 2), .int (nI (zb 0))])), ((ab 2), .inl ((cb 0), 5, .inl (fb 0))), ((ab 3), .inr (6, [.int 4, .int 5, .ref (ab 4), .int (nI (zb 1))])), ((ab 4), .inl ((cb 1), 20, .inl (fb 1))), ((ab 5), .inr (6, [.int 4, .int 8, .ref (ab 6), .int (nI (zb 2))])), ((ab 6), .inl ((cb 2), 32, .inl (fb 2)))]) [0, 7, 8, 9, 10, 11, 12, 13, 14, 15, 16, 5, 45, 46, 47, 48, 49, 50, 51] rfl
  have hDc := hD.sub (ws' := [(o, .inr (11, [.ref aw, .ref (ab 0), .ref ai, .ref ak, .ref sc, .ref rd, .ref fo, .ref tx, .int ty, .ref ar, .ref at_, .ref ao])), (aw, .inl (cw, 6, .inr (.inr (.inr (.inr (tz_w w0 w1 w2 w3 w4 w5)))))), (w0, .inr (4, [])), (w1, .inr (1, [])), (w2, .inr (10, [])), (w3, .inr (3, [])), (w4, .inr (9, [])), (w5, .inr (8, [])), (sc, .inr (7, [.ref sw, .ref sh])), (sw, .inl (csw, 21, .inr (.inl fw))), (sh, .inl (csh, 21, .inl fh)), (at_, .inl (ct_, 5, .inl ft_)), ((ab 0), .inr (0, [.ref (ab 1), .ref (ab 3), .ref (ab 5), .ref (ab 7), .ref (ab 9), .int (nI ub)])), ((ab 1), .inr (6, [.int 1, .int 5, .ref (ab 2), .int (nI (zb 0))])), ((ab 2), .inl ((cb 0), 5, .inl (fb 0))), ((ab 3), .inr (6, [.int 4, .int 5, .ref (ab 4), .int (nI (zb 1))])), ((ab 4), .inl ((cb 1), 20, .inl (fb 1))), ((ab 5), .inr (6, [.int 4, .int 8, .ref (ab 6), .int (nI (zb 2))])), ((ab 6), .inl ((cb 2), 32, .inl (fb 2)))]) [0, 7, 8, 9, 10, 11, 12, 13, 14, 15, 16, 5, 45, 46, 47, 48, 49, 50, 51] (by decide) rfl
  have hKc := hK.sub (tys' := [(cw, (.object "ThriceCounted$Ones")), (csw, .long), (csh, .int), (ct_, .int), ((cb 0), .int), ((cb 1), .int), ((cb 2), .int)]) [6, 7, 8, 4, 22, 23, 24] rfl
  have hFc := va_free (wc := [(o, .inr (11, [.ref aw, .ref (ab 0), .ref ai, .ref ak, .ref sc, .ref rd, .ref fo, .ref tx, .int ty, .ref ar, .ref at_, .ref ao])), (aw, .inl (cw, 6, .inr (.inr (.inr (.inr (tz_w w0 w1 w2 w3 w4 w5)))))), (w0, .inr (4, [])), (w1, .inr (1, [])), (w2, .inr (10, [])), (w3, .inr (3, [])), (w4, .inr (9, [])), (w5, .inr (8, [])), (sc, .inr (7, [.ref sw, .ref sh])), (sw, .inl (csw, 21, .inr (.inl fw))), (sh, .inl (csh, 21, .inl fh)), (at_, .inl (ct_, 5, .inl ft_)), ((ab 0), .inr (0, [.ref (ab 1), .ref (ab 3), .ref (ab 5), .ref (ab 7), .ref (ab 9), .int (nI ub)])), ((ab 1), .inr (6, [.int 1, .int 5, .ref (ab 2), .int (nI (zb 0))])), ((ab 2), .inl ((cb 0), 5, .inl (fb 0))), ((ab 3), .inr (6, [.int 4, .int 5, .ref (ab 4), .int (nI (zb 1))])), ((ab 4), .inl ((cb 1), 20, .inl (fb 1))), ((ab 5), .inr (6, [.int 4, .int 8, .ref (ab 6), .int (nI (zb 2))])), ((ab 6), .inl ((cb 2), 32, .inl (fb 2)))]) hD hS hA [0, 7, 8, 9, 10, 11, 12, 13, 14, 15, 16, 5, 45, 46, 47, 48, 49, 50, 51] rfl
  refine va_calli (va_runV (As := []) (rest := []) ⟨hx, hb, hml, hown, hts⟩ (x_sum l dC dI o aw ab ai ak sc rd fo tx ty ar at_ ao cw w0 w1 w2 w3 w4 w5 sw sh csw fw csh fh ct_ ft_ ub zb cb fb H.size ⟨hB_b.1, show ub ≤ 8 by omega⟩) (cwV 0 hts gL_law_X11_sum rfl rfl rfl (by decide +kernel) ⟨Nat.le_of_ble_eq_true rfl, Nat.le_of_ble_eq_true rfl⟩) ⟨fun a U g mk q => by obtain ⟨q0, q1, qP, qK, qD⟩ := q; exact ⟨q0, q1, qP, va_K.moved (u := U) (U := U.calling g mk a) (Vm.Alike.refl U.vm) qK, qD⟩, va_recv hK hP (ci := 11) (q0 := 0) rfl rfl, fun U hU hW => ⟨rfl, by rw [hU], by rw [hU]; exact hPc, va_K.moved hW.alike hKc, hDc.weaken (fun _ _ _ _ => trivial)⟩⟩ rfl rfl hl.1 rfl (lv_room (Nat.le_of_ble_eq_true rfl)) dL_law_785 ⟨Nat.le_of_ble_eq_true rfl, Nat.le_of_ble_eq_true rfl⟩) hS (fun q _ h => hFc q h) hFc (fun r_1 u_ t H1 locs ht hvm hw_2 hB hz1 hk1 hS => ?_)
  obtain ⟨gw_3, gh_4, gt__5, hP1, hK1, hD1⟩ := hB
  rw [ht] at hP1
  have hK1 := va_K.moved hvm.symm hK1
  obtain ⟨hP, hD⟩ := tz_put (ws' := (tz_XW o aw ai ak sc rd fo tx ar at_ ao w0 w1 w2 w3 w4 w5 sw sh mo nw kp ik mr mw mq mz my mb mx mv ad ab ai0 ai1 cw cai ck csw csh ctx cr ct_ co_ cn_ ck_ ci_ cr_ cw_ cs_ cz_ cy_ cb2_ cx_ cv_ cd cb ci0 ci1 ty fr fk fx gt__5 fo_ gw_3 gh_4 la lb rt nl_ np_ nk_ ns_ nv_ ni_ nf_ ud zd fd ub zb fb ui0 zi0 fi0 ui1 zi1 fi1 la_ lb_ lc_ ti_ cb_ ld_ le_ sm_ jb ta_ tl_ tk_ vl_ fn fk_ fi_ fr_ fw_ fs_ fz_ fb_ fy_ fx_ fv_)) hP hD [0, 7, 8, 9, 10, 11, 12, 13, 14, 15, 16, 5, 45, 46, 47, 48, 49, 50, 51] rfl hk1 hP1 rfl rfl rfl
  generalize H1 = H at hP hS ⊢
  refine lv_pop hx hb dL_law_788 rfl ?_
  refine lv_aload_n hx hb dL_law_789 rfl (lv_at hl 1 rfl) ?_
  have hPc := hP.sub (ws' := [(mo, .inr (12, [.ref nw, .ref kp, .ref ik, .ref mr, .long la_, .long lb_, .ref mw, .long lc_, .int ti_, .int cb_, .long ld_, .long le_, .ref mq, .ref mz, .ref my, .int sm_, .ref mb, .int (nI jb), .int ta_, .int tl_, .int tk_, .int vl_, .ref mx, .ref mv])), (nw, .inl (cn_, 350, .inl fn)), (mw, .inl (cw_, 21, .inr (.inl fw_)))]) [123, 124, 128] rfl
  have hDc := hD.sub (ws' := [(mo, .inr (12, [.ref nw, .ref kp, .ref ik, .ref mr, .long la_, .long lb_, .ref mw, .long lc_, .int ti_, .int cb_, .long ld_, .long le_, .ref mq, .ref mz, .ref my, .int sm_, .ref mb, .int (nI jb), .int ta_, .int tl_, .int tk_, .int vl_, .ref mx, .ref mv])), (nw, .inl (cn_, 350, .inl fn)), (mw, .inl (cw_, 21, .inr (.inl fw_)))]) [123, 124, 128] (by decide) rfl
  have hKc := hK.sub (tys' := [(cn_, .int), (cw_, .long)]) [61, 65] rfl
  have hFc := va_free (wc := [(mo, .inr (12, [.ref nw, .ref kp, .ref ik, .ref mr, .long la_, .long lb_, .ref mw, .long lc_, .int ti_, .int cb_, .long ld_, .long le_, .ref mq, .ref mz, .ref my, .int sm_, .ref mb, .int (nI jb), .int ta_, .int tl_, .int tk_, .int vl_, .ref mx, .ref mv])), (nw, .inl (cn_, 350, .inl fn)), (mw, .inl (cw_, 21, .inr (.inl fw_)))]) hD hS hA [123, 124, 128] rfl
  refine va_calli (va_runV (As := []) (rest := []) ⟨hx, hb, hml, hown, hts⟩ (m_sum l dC dI mo nw kp ik mr la_ lb_ mw lc_ ti_ cb_ ld_ le_ mq mz my sm_ mb (nI jb) ta_ tl_ tk_ vl_ mx mv cn_ fn cw_ fw_ H.size hO_n) (cwV 0 hts gL_law_X12_sum rfl rfl rfl (by decide +kernel) ⟨Nat.le_of_ble_eq_true rfl, Nat.le_of_ble_eq_true rfl⟩) ⟨fun a U g mk q => by obtain ⟨q0, q1, qP, qK, qD⟩ := q; exact ⟨q0, q1, qP, va_K.moved (u := U) (U := U.calling g mk a) (Vm.Alike.refl U.vm) qK, qD⟩, va_recv hK hP (ci := 12) (q0 := 123) rfl rfl, fun U hU hW => ⟨rfl, by rw [hU], by rw [hU]; exact hPc, va_K.moved hW.alike hKc, hDc.weaken (fun _ _ _ _ => trivial)⟩⟩ rfl rfl hl.1 rfl (lv_room (Nat.le_of_ble_eq_true rfl)) dL_law_790 ⟨Nat.le_of_ble_eq_true rfl, Nat.le_of_ble_eq_true rfl⟩) hS (fun q _ h => hFc q h) hFc (fun r_6 u_ t H1 locs ht hvm hw_7 hB hz1 hk1 hS => ?_)
  obtain ⟨h_allWeights_8, h_trulyIs_9, h_canBe_10, gw__11, hP1, hK1, hD1⟩ := hB
  rw [ht] at hP1
  have hK1 := va_K.moved hvm.symm hK1
  obtain ⟨hP, hD⟩ := tz_put (ws' := (tz_XW o aw ai ak sc rd fo tx ar at_ ao w0 w1 w2 w3 w4 w5 sw sh mo nw kp ik mr mw mq mz my mb mx mv ad ab ai0 ai1 cw cai ck csw csh ctx cr ct_ co_ cn_ ck_ ci_ cr_ cw_ cs_ cz_ cy_ cb2_ cx_ cv_ cd cb ci0 ci1 ty fr fk fx gt__5 fo_ gw_3 gh_4 la lb rt nl_ np_ nk_ ns_ nv_ ni_ nf_ ud zd fd ub zb fb ui0 zi0 fi0 ui1 zi1 fi1 la_ lb_ h_allWeights_8 h_trulyIs_9 h_canBe_10 ld_ le_ sm_ jb ta_ tl_ tk_ vl_ fn fk_ fi_ fr_ gw__11 fs_ fz_ fb_ fy_ fx_ fv_)) hP hD [123, 124, 128] rfl hk1 hP1 rfl rfl rfl
  generalize H1 = H at hP hS ⊢
  refine lv_pop hx hb dL_law_793 rfl ?_
  refine lv_goto (tgt := 1153) hx hb dL_law_794 (by decide) ?_
  exact K H _ ls ⟨ty, fr, fk, fx, gt__5, fo_, gw_3, gh_4, la, lb, rt, nl_, np_, nk_, ns_, nv_, ni_, nf_, ud, zd, fd, ub, zb, fb, ui0, zi0, fi0, ui1, zi1, fi1, la_, lb_, h_allWeights_8, h_trulyIs_9, h_canBe_10, ld_, le_, sm_, jb, ta_, tl_, tk_, vl_, fn, fk_, fi_, fr_, gw__11, fs_, fz_, fb_, fy_, fx_, fv_, hB_d, hB_b, hB_i0, hB_i1, hO_n, hO_k, hO_x, hO_b, hP, hD⟩ hS hl
set_option maxRecDepth 20000 in
theorem gL_law_X11_cause : GoodIn lw_tbl (wsV RL 110 RX11 yX11_cause wsX11_cause) := tz_good [(36, 10), (36, 11), (36, 12), (0, 2), (36, 13), (1, 10), (36, 14), (7, 4), (7, 5), (0, 2), (7, 6), (7, 7), (7, 8), (7, 9), (7, 10), (7, 11), (7, 12), (7, 13), (7, 14), (2, 6), (7, 15), (7, 16), (7, 17), (3, 4), (7, 18), (3, 15), (3, 20), (36, 15), (36, 16), (36, 17), (1, 9), (36, 18), (3, 8), (7, 23), (8, 0), (8, 1), (8, 2), (8, 3), (8, 4), (8, 5), (8, 6), (8, 7), (3, 22), (3, 21), (8, 8), (8, 9), (8, 10), (8, 11), (46, 0), (46, 1), (46, 2), (46, 3), (46, 4), (46, 5), (46, 6), (46, 7), (46, 8), (46, 9), (46, 10), (46, 11), (54, 0), (54, 1), (54, 2), (54, 3), (54, 4), (54, 5), (58, 0), (58, 1), (58, 2), (58, 3)] (by decide +kernel) (by decide +kernel)
set_option maxRecDepth 20000 in
theorem gL_law_X12_cause : GoodIn lw_tbl (wsV RL 113 RX12 yX12_cause wsX12_cause) := tz_good [(36, 19), (36, 20), (36, 21), (0, 5), (36, 22), (36, 23), (37, 0), (37, 1), (35, 8), (8, 16), (5, 4), (8, 17), (8, 18), (0, 5), (8, 19), (8, 20), (8, 21), (8, 22), (8, 23), (5, 7), (9, 0), (9, 1), (9, 2), (9, 3), (47, 0), (47, 1), (47, 2), (47, 3), (47, 4), (47, 5), (47, 6), (47, 7), (47, 8), (47, 9), (47, 10), (47, 11), (47, 12), (47, 13), (47, 14), (47, 15), (47, 16), (47, 17), (47, 18), (47, 19), (47, 20), (47, 21), (47, 22), (47, 23)] (by decide +kernel) (by decide +kernel)
theorem dL_law_797 : decode cL_law 797 = .ok (.aload_n 1, 1) := by decide +kernel
theorem dL_law_798 : decode cL_law 798 = .ok (.aload_n 0, 1) := by decide +kernel
theorem dL_law_799 : decode cL_law 799 = .ok (.iload_n 3, 1) := by decide +kernel
theorem dL_law_800 : decode cL_law 800 = .ok (.iconst 1, 1) := by decide +kernel
theorem dL_law_801 : decode cL_law 801 = .ok (.iadd, 1) := by decide +kernel
theorem dL_law_802 : decode cL_law 802 = .ok (.iaload, 1) := by decide +kernel
theorem dL_law_803 : decode cL_law 803 = .ok (.aload_n 0, 1) := by decide +kernel
theorem dL_law_804 : decode cL_law 804 = .ok (.iload_n 3, 1) := by decide +kernel
theorem dL_law_805 : decode cL_law 805 = .ok (.iconst 2, 1) := by decide +kernel
theorem dL_law_806 : decode cL_law 806 = .ok (.iadd, 1) := by decide +kernel
theorem dL_law_807 : decode cL_law 807 = .ok (.iaload, 1) := by decide +kernel
theorem dL_law_808 : decode cL_law 808 = .ok (.aload_n 0, 1) := by decide +kernel
theorem dL_law_809 : decode cL_law 809 = .ok (.iload_n 3, 1) := by decide +kernel
theorem dL_law_810 : decode cL_law 810 = .ok (.iconst 3, 1) := by decide +kernel
theorem dL_law_811 : decode cL_law 811 = .ok (.iadd, 1) := by decide +kernel
theorem dL_law_812 : decode cL_law 812 = .ok (.iaload, 1) := by decide +kernel
theorem dL_law_813 : decode cL_law 813 = .ok (.aload_n 0, 1) := by decide +kernel
theorem dL_law_814 : decode cL_law 814 = .ok (.iload_n 3, 1) := by decide +kernel
theorem dL_law_815 : decode cL_law 815 = .ok (.iconst 4, 1) := by decide +kernel
theorem dL_law_816 : decode cL_law 816 = .ok (.iadd, 1) := by decide +kernel
theorem dL_law_817 : decode cL_law 817 = .ok (.iaload, 1) := by decide +kernel
theorem dL_law_818 : decode cL_law 818 = .ok (.invokevirtual 110, 3) := by decide +kernel
theorem dL_law_821 : decode cL_law 821 = .ok (.pop, 1) := by decide +kernel
theorem dL_law_822 : decode cL_law 822 = .ok (.aload_n 2, 1) := by decide +kernel
theorem dL_law_823 : decode cL_law 823 = .ok (.aload_n 0, 1) := by decide +kernel
theorem dL_law_824 : decode cL_law 824 = .ok (.iload_n 3, 1) := by decide +kernel
theorem dL_law_825 : decode cL_law 825 = .ok (.iconst 1, 1) := by decide +kernel
theorem dL_law_826 : decode cL_law 826 = .ok (.iadd, 1) := by decide +kernel
theorem dL_law_827 : decode cL_law 827 = .ok (.iaload, 1) := by decide +kernel
theorem dL_law_828 : decode cL_law 828 = .ok (.aload_n 0, 1) := by decide +kernel
theorem dL_law_829 : decode cL_law 829 = .ok (.iload_n 3, 1) := by decide +kernel
theorem dL_law_830 : decode cL_law 830 = .ok (.iconst 2, 1) := by decide +kernel
theorem dL_law_831 : decode cL_law 831 = .ok (.iadd, 1) := by decide +kernel
theorem dL_law_832 : decode cL_law 832 = .ok (.iaload, 1) := by decide +kernel
theorem dL_law_833 : decode cL_law 833 = .ok (.aload_n 0, 1) := by decide +kernel
theorem dL_law_834 : decode cL_law 834 = .ok (.iload_n 3, 1) := by decide +kernel
theorem dL_law_835 : decode cL_law 835 = .ok (.iconst 3, 1) := by decide +kernel
theorem dL_law_836 : decode cL_law 836 = .ok (.iadd, 1) := by decide +kernel
theorem dL_law_837 : decode cL_law 837 = .ok (.iaload, 1) := by decide +kernel
theorem dL_law_838 : decode cL_law 838 = .ok (.aload_n 0, 1) := by decide +kernel
theorem dL_law_839 : decode cL_law 839 = .ok (.iload_n 3, 1) := by decide +kernel
theorem dL_law_840 : decode cL_law 840 = .ok (.iconst 4, 1) := by decide +kernel
theorem dL_law_841 : decode cL_law 841 = .ok (.iadd, 1) := by decide +kernel
theorem dL_law_842 : decode cL_law 842 = .ok (.iaload, 1) := by decide +kernel
theorem dL_law_843 : decode cL_law 843 = .ok (.invokevirtual 113, 3) := by decide +kernel
theorem dL_law_846 : decode cL_law 846 = .ok (.pop, 1) := by decide +kernel
theorem dL_law_847 : decode cL_law 847 = .ok (.goto 306, 3) := by decide +kernel
set_option maxHeartbeats 8000000 in
set_option maxRecDepth 100000 in
theorem lc_cause {p : Program} {l : Launch} {e : Env} {s : State} {m : MethodId} {below : List Frame} {meth : Method} {c : Code} {b L : Nat} {xs : Nat → Int32} (hL : L ≤ 3072) (C0 : lw_At p s m meth c b L xs) (hN : tz_N s) (A : Nat → Prop) (hA : ∀ q : Nat, s.heap.size ≤ q → A q) (hA2 : ∀ q : Nat, A q → s.heap.size ≤ q) (hbA : ¬ A b) (hV : tz_V A s s.heap) (dC : Nat → ClassId) (dI : Nat → Nat → Nat) (o : Nat) (aw : Nat) (ai : Nat) (ak : Nat) (sc : Nat) (rd : Nat) (fo : Nat) (tx : Nat) (ar : Nat) (at_ : Nat) (ao : Nat) (w0 : Nat) (w1 : Nat) (w2 : Nat) (w3 : Nat) (w4 : Nat) (w5 : Nat) (sw : Nat) (sh : Nat) (mo : Nat) (nw : Nat) (kp : Nat) (ik : Nat) (mr : Nat) (mw : Nat) (mq : Nat) (mz : Nat) (my : Nat) (mb : Nat) (mx : Nat) (mv : Nat) (ad : Nat → Nat) (ab : Nat → Nat) (ai0 : Nat → Nat) (ai1 : Nat → Nat) (cw : ClassId) (cai : ClassId) (ck : ClassId) (csw : ClassId) (csh : ClassId) (ctx : ClassId) (cr : ClassId) (ct_ : ClassId) (co_ : ClassId) (cn_ : ClassId) (ck_ : ClassId) (ci_ : ClassId) (cr_ : ClassId) (cw_ : ClassId) (cs_ : ClassId) (cz_ : ClassId) (cy_ : ClassId) (cb2_ : ClassId) (cx_ : ClassId) (cv_ : ClassId) (cd : Nat → ClassId) (cb : Nat → ClassId) (ci0 : Nat → ClassId) (ci1 : Nat → ClassId) (hK : va_K (dC, dI) vwCl (tz_T cw cai ck csw csh ctx cr ct_ co_ cn_ ck_ ci_ cr_ cw_ cs_ cz_ cy_ cb2_ cx_ cv_ cd cb ci0 ci1) s) (i : Nat) (hi : i + 6 ≤ L) (H : Heap) (locs : List Loc) (hI : tz_I dC dI o aw ai ak sc rd fo tx ar at_ ao w0 w1 w2 w3 w4 w5 sw sh mo nw kp ik mr mw mq mz my mb mx mv ad ab ai0 ai1 cw cai ck csw csh ctx cr ct_ co_ cn_ ck_ ci_ cr_ cw_ cs_ cz_ cy_ cb2_ cx_ cv_ cd cb ci0 ci1 A H) (hS : va_S A s.heap H locs) (ls : Array Slot) (hl : lv_has ls 4 [(3, .int (nI i)), (2, .ref mo), (1, .ref o), (0, .ref b)]) (K : ∀ (H : Heap) (locs : List Loc) (ls : Array Slot), tz_I dC dI o aw ai ak sc rd fo tx ar at_ ao w0 w1 w2 w3 w4 w5 sw sh mo nw kp ik mr mw mq mz my mb mx mv ad ab ai0 ai1 cw cai ck csw csh ctx cr ct_ co_ cn_ ck_ ci_ cr_ cw_ cs_ cz_ cy_ cb2_ cx_ cv_ cd cb ci0 ci1 A H → va_S A s.heap H locs → lv_has ls 4 [(3, .int (nI i)), (2, .ref mo), (1, .ref o), (0, .ref b)] → W p l e room_1 s m #[Value.ref b] below meth c H locs 136 3195 (lw_Z below #[Value.ref b] s) (F0 m 1153 ls [])) : W p l e room_1 s m #[Value.ref b] below meth c H locs 136 3195 (lw_Z below #[Value.ref b] s) (F0 m 797 ls []) := by
  obtain ⟨hx, hb, hr, hml, hown, hts, hX, hbl, hlocks, hgv⟩ := C0
  have hb : c.code = cL_law := hb
  have hown : s.vm.findClass RL = some m.cls := hown
  obtain ⟨ty, fr, fk, fx, ft_, fo_, fw, fh, la, lb, rt, nl_, np_, nk_, ns_, nv_, ni_, nf_, ud, zd, fd, ub, zb, fb, ui0, zi0, fi0, ui1, zi1, fi1, la_, lb_, lc_, ti_, cb_, ld_, le_, sm_, jb, ta_, tl_, tk_, vl_, fn, fk_, fi_, fr_, fw_, fs_, fz_, fb_, fy_, fx_, fv_, hB_d, hB_b, hB_i0, hB_i1, hO_n, hO_k, hO_x, hO_b, hP, hD⟩ := hI
  have hu_zd := hB_d.2
  have hu_zb := hB_b.2
  have hu_zi0 := hB_i0.2
  have hu_zi1 := hB_i1.2
  refine lv_aload_n hx hb dL_law_797 rfl (lv_at hl 2 rfl) ?_
  refine lv_aload_n hx hb dL_law_798 rfl (lv_at hl 3 rfl) ?_
  refine lv_iload_n hx hb dL_law_799 rfl (lv_at hl 0 rfl) ?_
  refine lv_iconst (v := 1) hx hb dL_law_800 (by decide) ?_
  refine lv_iadd hx hb dL_law_801 ?_
  refine tz_i (nI (i + 1)) (nI_add i 1) ?_
  refine va_sld hx hb hX hbl hbA hS (vp_in_nI (n := (i + 1)) (N := L) (by omega) (by omega)) dL_law_802 ?_
  refine tz_i (xs (i + 1)) (congrArg xs (nI_clamp (by omega))) ?_
  refine lv_aload_n hx hb dL_law_803 rfl (lv_at hl 3 rfl) ?_
  refine lv_iload_n hx hb dL_law_804 rfl (lv_at hl 0 rfl) ?_
  refine lv_iconst (v := 2) hx hb dL_law_805 (by decide) ?_
  refine lv_iadd hx hb dL_law_806 ?_
  refine tz_i (nI (i + 2)) (nI_add i 2) ?_
  refine va_sld hx hb hX hbl hbA hS (vp_in_nI (n := (i + 2)) (N := L) (by omega) (by omega)) dL_law_807 ?_
  refine tz_i (xs (i + 2)) (congrArg xs (nI_clamp (by omega))) ?_
  refine lv_aload_n hx hb dL_law_808 rfl (lv_at hl 3 rfl) ?_
  refine lv_iload_n hx hb dL_law_809 rfl (lv_at hl 0 rfl) ?_
  refine lv_iconst (v := 3) hx hb dL_law_810 (by decide) ?_
  refine lv_iadd hx hb dL_law_811 ?_
  refine tz_i (nI (i + 3)) (nI_add i 3) ?_
  refine va_sld hx hb hX hbl hbA hS (vp_in_nI (n := (i + 3)) (N := L) (by omega) (by omega)) dL_law_812 ?_
  refine tz_i (xs (i + 3)) (congrArg xs (nI_clamp (by omega))) ?_
  refine lv_aload_n hx hb dL_law_813 rfl (lv_at hl 3 rfl) ?_
  refine lv_iload_n hx hb dL_law_814 rfl (lv_at hl 0 rfl) ?_
  refine lv_iconst (v := 4) hx hb dL_law_815 (by decide) ?_
  refine lv_iadd hx hb dL_law_816 ?_
  refine tz_i (nI (i + 4)) (nI_add i 4) ?_
  refine va_sld hx hb hX hbl hbA hS (vp_in_nI (n := (i + 4)) (N := L) (by omega) (by omega)) dL_law_817 ?_
  refine tz_i (xs (i + 4)) (congrArg xs (nI_clamp (by omega))) ?_
  have hPc := hP.sub (ws' := [(o, .inr (11, [.ref aw, .ref (ab 0), .ref ai, .ref ak, .ref sc, .ref rd, .ref fo, .ref tx, .int ty, .ref ar, .ref at_, .ref ao])), (ar, .inl (cr, 3, .inl fr)), ((ab 0), .inr (0, [.ref (ab 1), .ref (ab 3), .ref (ab 5), .ref (ab 7), .ref (ab 9), .int (nI ub)])), ((ab 1), .inr (6, [.int 1, .int 5, .ref (ab 2), .int (nI (zb 0))])), ((ab 2), .inl ((cb 0), 5, .inl (fb 0))), ((ab 3), .inr (6, [.int 4, .int 5, .ref (ab 4), .int (nI (zb 1))])), ((ab 4), .inl ((cb 1), 20, .inl (fb 1))), ((ab 5), .inr (6, [.int 4, .int 8, .ref (ab 6), .int (nI (zb 2))])), ((ab 6), .inl ((cb 2), 32, .inl (fb 2))), ((ab 7), .inr (6, [.int 4, .int 6, .ref (ab 8), .int (nI (zb 3))])), ((ab 8), .inl ((cb 3), 24, .inl (fb 3))), ((ab 9), .inl ((cb 12), 8, .inr (.inr (.inr (.inr (tz_ear ab)))))), ((ab 10), .inr (6, [.int 4, .int 8, .ref (ab 11), .int (nI (zb 4))])), ((ab 11), .inl ((cb 4), 32, .inl (fb 4))), ((ab 12), .inr (6, [.int 4, .int 8, .ref (ab 13), .int (nI (zb 5))])), ((ab 13), .inl ((cb 5), 32, .inl (fb 5))), ((ab 14), .inr (6, [.int 4, .int 8, .ref (ab 15), .int (nI (zb 6))])), ((ab 15), .inl ((cb 6), 32, .inl (fb 6))), ((ab 16), .inr (6, [.int 4, .int 8, .ref (ab 17), .int (nI (zb 7))])), ((ab 17), .inl ((cb 7), 32, .inl (fb 7))), ((ab 18), .inr (6, [.int 4, .int 8, .ref (ab 19), .int (nI (zb 8))])), ((ab 19), .inl ((cb 8), 32, .inl (fb 8))), ((ab 20), .inr (6, [.int 4, .int 8, .ref (ab 21), .int (nI (zb 9))])), ((ab 21), .inl ((cb 9), 32, .inl (fb 9))), ((ab 22), .inr (6, [.int 4, .int 8, .ref (ab 23), .int (nI (zb 10))])), ((ab 23), .inl ((cb 10), 32, .inl (fb 10))), ((ab 24), .inr (6, [.int 4, .int 8, .ref (ab 25), .int (nI (zb 11))])), ((ab 25), .inl ((cb 11), 32, .inl (fb 11)))]) [0, 1, 45, 46, 47, 48, 49, 50, 51, 52, 53, 54, 55, 56, 57, 58, 59, 60, 61, 62, 63, 64, 65, 66, 67, 68, 69, 70] rfl
  have hDc := hD.sub (ws' := [(o, .inr (11, [.ref aw, .ref (ab 0), .ref ai, .ref ak, .ref sc, .ref rd, .ref fo, .ref tx, .int ty, .ref ar, .ref at_, .ref ao])), (ar, .inl (cr, 3, .inl fr)), ((ab 0), .inr (0, [.ref (ab 1), .ref (ab 3), .ref (ab 5), .ref (ab 7), .ref (ab 9), .int (nI ub)])), ((ab 1), .inr (6, [.int 1, .int 5, .ref (ab 2), .int (nI (zb 0))])), ((ab 2), .inl ((cb 0), 5, .inl (fb 0))), ((ab 3), .inr (6, [.int 4, .int 5, .ref (ab 4), .int (nI (zb 1))])), ((ab 4), .inl ((cb 1), 20, .inl (fb 1))), ((ab 5), .inr (6, [.int 4, .int 8, .ref (ab 6), .int (nI (zb 2))])), ((ab 6), .inl ((cb 2), 32, .inl (fb 2))), ((ab 7), .inr (6, [.int 4, .int 6, .ref (ab 8), .int (nI (zb 3))])), ((ab 8), .inl ((cb 3), 24, .inl (fb 3))), ((ab 9), .inl ((cb 12), 8, .inr (.inr (.inr (.inr (tz_ear ab)))))), ((ab 10), .inr (6, [.int 4, .int 8, .ref (ab 11), .int (nI (zb 4))])), ((ab 11), .inl ((cb 4), 32, .inl (fb 4))), ((ab 12), .inr (6, [.int 4, .int 8, .ref (ab 13), .int (nI (zb 5))])), ((ab 13), .inl ((cb 5), 32, .inl (fb 5))), ((ab 14), .inr (6, [.int 4, .int 8, .ref (ab 15), .int (nI (zb 6))])), ((ab 15), .inl ((cb 6), 32, .inl (fb 6))), ((ab 16), .inr (6, [.int 4, .int 8, .ref (ab 17), .int (nI (zb 7))])), ((ab 17), .inl ((cb 7), 32, .inl (fb 7))), ((ab 18), .inr (6, [.int 4, .int 8, .ref (ab 19), .int (nI (zb 8))])), ((ab 19), .inl ((cb 8), 32, .inl (fb 8))), ((ab 20), .inr (6, [.int 4, .int 8, .ref (ab 21), .int (nI (zb 9))])), ((ab 21), .inl ((cb 9), 32, .inl (fb 9))), ((ab 22), .inr (6, [.int 4, .int 8, .ref (ab 23), .int (nI (zb 10))])), ((ab 23), .inl ((cb 10), 32, .inl (fb 10))), ((ab 24), .inr (6, [.int 4, .int 8, .ref (ab 25), .int (nI (zb 11))])), ((ab 25), .inl ((cb 11), 32, .inl (fb 11)))]) [0, 1, 45, 46, 47, 48, 49, 50, 51, 52, 53, 54, 55, 56, 57, 58, 59, 60, 61, 62, 63, 64, 65, 66, 67, 68, 69, 70] (by decide) rfl
  have hKc := hK.sub (tys' := [(cr, .int), ((cb 0), .int), ((cb 1), .int), ((cb 2), .int), ((cb 3), .int), ((cb 12), (.object "ThriceCounted$Rows")), ((cb 4), .int), ((cb 5), .int), ((cb 6), .int), ((cb 7), .int), ((cb 8), .int), ((cb 9), .int), ((cb 10), .int), ((cb 11), .int)]) [0, 22, 23, 24, 25, 26, 27, 28, 29, 30, 31, 32, 33, 34] rfl
  have hFc := va_free (wc := [(o, .inr (11, [.ref aw, .ref (ab 0), .ref ai, .ref ak, .ref sc, .ref rd, .ref fo, .ref tx, .int ty, .ref ar, .ref at_, .ref ao])), (ar, .inl (cr, 3, .inl fr)), ((ab 0), .inr (0, [.ref (ab 1), .ref (ab 3), .ref (ab 5), .ref (ab 7), .ref (ab 9), .int (nI ub)])), ((ab 1), .inr (6, [.int 1, .int 5, .ref (ab 2), .int (nI (zb 0))])), ((ab 2), .inl ((cb 0), 5, .inl (fb 0))), ((ab 3), .inr (6, [.int 4, .int 5, .ref (ab 4), .int (nI (zb 1))])), ((ab 4), .inl ((cb 1), 20, .inl (fb 1))), ((ab 5), .inr (6, [.int 4, .int 8, .ref (ab 6), .int (nI (zb 2))])), ((ab 6), .inl ((cb 2), 32, .inl (fb 2))), ((ab 7), .inr (6, [.int 4, .int 6, .ref (ab 8), .int (nI (zb 3))])), ((ab 8), .inl ((cb 3), 24, .inl (fb 3))), ((ab 9), .inl ((cb 12), 8, .inr (.inr (.inr (.inr (tz_ear ab)))))), ((ab 10), .inr (6, [.int 4, .int 8, .ref (ab 11), .int (nI (zb 4))])), ((ab 11), .inl ((cb 4), 32, .inl (fb 4))), ((ab 12), .inr (6, [.int 4, .int 8, .ref (ab 13), .int (nI (zb 5))])), ((ab 13), .inl ((cb 5), 32, .inl (fb 5))), ((ab 14), .inr (6, [.int 4, .int 8, .ref (ab 15), .int (nI (zb 6))])), ((ab 15), .inl ((cb 6), 32, .inl (fb 6))), ((ab 16), .inr (6, [.int 4, .int 8, .ref (ab 17), .int (nI (zb 7))])), ((ab 17), .inl ((cb 7), 32, .inl (fb 7))), ((ab 18), .inr (6, [.int 4, .int 8, .ref (ab 19), .int (nI (zb 8))])), ((ab 19), .inl ((cb 8), 32, .inl (fb 8))), ((ab 20), .inr (6, [.int 4, .int 8, .ref (ab 21), .int (nI (zb 9))])), ((ab 21), .inl ((cb 9), 32, .inl (fb 9))), ((ab 22), .inr (6, [.int 4, .int 8, .ref (ab 23), .int (nI (zb 10))])), ((ab 23), .inl ((cb 10), 32, .inl (fb 10))), ((ab 24), .inr (6, [.int 4, .int 8, .ref (ab 25), .int (nI (zb 11))])), ((ab 25), .inl ((cb 11), 32, .inl (fb 11)))]) hD hS hA [0, 1, 45, 46, 47, 48, 49, 50, 51, 52, 53, 54, 55, 56, 57, 58, 59, 60, 61, 62, 63, 64, 65, 66, 67, 68, 69, 70] rfl
  refine va_calli (va_runV (As := [.int (xs (i + 1)), .int (xs (i + 2)), .int (xs (i + 3)), .int (xs (i + 4))]) (rest := []) ⟨hx, hb, hml, hown, hts⟩ (x_cause l dC dI o aw ab ai ak sc rd fo tx ty ar at_ ao cr fr ub zb cb fb (xs (i + 1)) (xs (i + 2)) (xs (i + 3)) (xs (i + 4)) H.size ⟨hB_b.1, show ub ≤ 8 by omega⟩) (cwV 4 hts gL_law_X11_cause rfl rfl rfl (by decide +kernel) ⟨Nat.le_of_ble_eq_true rfl, Nat.le_of_ble_eq_true rfl⟩) ⟨fun a U g mk q => by obtain ⟨q0, q1, qP, qK, qD⟩ := q; exact ⟨q0, q1, qP, va_K.moved (u := U) (U := U.calling g mk a) (Vm.Alike.refl U.vm) qK, qD⟩, va_recv hK hP (ci := 11) (q0 := 0) rfl rfl, fun U hU hW => ⟨rfl, by rw [hU], by rw [hU]; exact hPc, va_K.moved hW.alike hKc, hDc.weaken (fun _ _ _ _ => trivial)⟩⟩ rfl rfl hl.1 rfl (lv_room (Nat.le_of_ble_eq_true rfl)) dL_law_818 ⟨Nat.le_of_ble_eq_true rfl, Nat.le_of_ble_eq_true rfl⟩) hS (fun q _ h => hFc q h) hFc (fun r_1 u_ t H1 locs ht hvm hw_2 hB hz1 hk1 hS => ?_)
  obtain ⟨gr_3, zg_4, fg_5, ug_6, hf_7, hP1, hK1, hD1⟩ := hB
  have hz_zg_4_0 : zg_4 0 ≤ 5 := hf_7.1 0
  have hz_zg_4_1 : zg_4 1 ≤ 5 := hf_7.1 1
  have hz_zg_4_2 : zg_4 2 ≤ 8 := hf_7.1 2
  have hz_zg_4_3 : zg_4 3 ≤ 6 := hf_7.1 3
  have hz_zg_4_4 : zg_4 4 ≤ 8 := hf_7.1 4
  have hz_zg_4_5 : zg_4 5 ≤ 8 := hf_7.1 5
  have hz_zg_4_6 : zg_4 6 ≤ 8 := hf_7.1 6
  have hz_zg_4_7 : zg_4 7 ≤ 8 := hf_7.1 7
  have hz_zg_4_8 : zg_4 8 ≤ 8 := hf_7.1 8
  have hz_zg_4_9 : zg_4 9 ≤ 8 := hf_7.1 9
  have hz_zg_4_10 : zg_4 10 ≤ 8 := hf_7.1 10
  have hz_zg_4_11 : zg_4 11 ≤ 8 := hf_7.1 11
  have hu_zg_4 := hf_7.2
  rw [ht] at hP1
  have hK1 := va_K.moved hvm.symm hK1
  obtain ⟨hP, hD⟩ := tz_put (ws' := (tz_XW o aw ai ak sc rd fo tx ar at_ ao w0 w1 w2 w3 w4 w5 sw sh mo nw kp ik mr mw mq mz my mb mx mv ad ab ai0 ai1 cw cai ck csw csh ctx cr ct_ co_ cn_ ck_ ci_ cr_ cw_ cs_ cz_ cy_ cb2_ cx_ cv_ cd cb ci0 ci1 ty gr_3 fk fx ft_ fo_ fw fh la lb rt nl_ np_ nk_ ns_ nv_ ni_ nf_ ud zd fd ug_6 zg_4 fg_5 ui0 zi0 fi0 ui1 zi1 fi1 la_ lb_ lc_ ti_ cb_ ld_ le_ sm_ jb ta_ tl_ tk_ vl_ fn fk_ fi_ fr_ fw_ fs_ fz_ fb_ fy_ fx_ fv_)) hP hD [0, 1, 45, 46, 47, 48, 49, 50, 51, 52, 53, 54, 55, 56, 57, 58, 59, 60, 61, 62, 63, 64, 65, 66, 67, 68, 69, 70] rfl hk1 hP1 rfl rfl rfl
  generalize H1 = H at hP hS ⊢
  refine lv_pop hx hb dL_law_821 rfl ?_
  refine lv_aload_n hx hb dL_law_822 rfl (lv_at hl 1 rfl) ?_
  refine lv_aload_n hx hb dL_law_823 rfl (lv_at hl 3 rfl) ?_
  refine lv_iload_n hx hb dL_law_824 rfl (lv_at hl 0 rfl) ?_
  refine lv_iconst (v := 1) hx hb dL_law_825 (by decide) ?_
  refine lv_iadd hx hb dL_law_826 ?_
  refine tz_i (nI (i + 1)) (nI_add i 1) ?_
  refine va_sld hx hb hX hbl hbA hS (vp_in_nI (n := (i + 1)) (N := L) (by omega) (by omega)) dL_law_827 ?_
  refine tz_i (xs (i + 1)) (congrArg xs (nI_clamp (by omega))) ?_
  refine lv_aload_n hx hb dL_law_828 rfl (lv_at hl 3 rfl) ?_
  refine lv_iload_n hx hb dL_law_829 rfl (lv_at hl 0 rfl) ?_
  refine lv_iconst (v := 2) hx hb dL_law_830 (by decide) ?_
  refine lv_iadd hx hb dL_law_831 ?_
  refine tz_i (nI (i + 2)) (nI_add i 2) ?_
  refine va_sld hx hb hX hbl hbA hS (vp_in_nI (n := (i + 2)) (N := L) (by omega) (by omega)) dL_law_832 ?_
  refine tz_i (xs (i + 2)) (congrArg xs (nI_clamp (by omega))) ?_
  refine lv_aload_n hx hb dL_law_833 rfl (lv_at hl 3 rfl) ?_
  refine lv_iload_n hx hb dL_law_834 rfl (lv_at hl 0 rfl) ?_
  refine lv_iconst (v := 3) hx hb dL_law_835 (by decide) ?_
  refine lv_iadd hx hb dL_law_836 ?_
  refine tz_i (nI (i + 3)) (nI_add i 3) ?_
  refine va_sld hx hb hX hbl hbA hS (vp_in_nI (n := (i + 3)) (N := L) (by omega) (by omega)) dL_law_837 ?_
  refine tz_i (xs (i + 3)) (congrArg xs (nI_clamp (by omega))) ?_
  refine lv_aload_n hx hb dL_law_838 rfl (lv_at hl 3 rfl) ?_
  refine lv_iload_n hx hb dL_law_839 rfl (lv_at hl 0 rfl) ?_
  refine lv_iconst (v := 4) hx hb dL_law_840 (by decide) ?_
  refine lv_iadd hx hb dL_law_841 ?_
  refine tz_i (nI (i + 4)) (nI_add i 4) ?_
  refine va_sld hx hb hX hbl hbA hS (vp_in_nI (n := (i + 4)) (N := L) (by omega) (by omega)) dL_law_842 ?_
  refine tz_i (xs (i + 4)) (congrArg xs (nI_clamp (by omega))) ?_
  have hPc := hP.sub (ws' := [(mo, .inr (12, [.ref nw, .ref kp, .ref ik, .ref mr, .long la_, .long lb_, .ref mw, .long lc_, .int ti_, .int cb_, .long ld_, .long le_, .ref mq, .ref mz, .ref my, .int sm_, .ref mb, .int (nI jb), .int ta_, .int tl_, .int tk_, .int vl_, .ref mx, .ref mv])), (nw, .inl (cn_, 350, .inl fn)), (mr, .inl (cr_, 3, .inl fr_))]) [123, 124, 127] rfl
  have hDc := hD.sub (ws' := [(mo, .inr (12, [.ref nw, .ref kp, .ref ik, .ref mr, .long la_, .long lb_, .ref mw, .long lc_, .int ti_, .int cb_, .long ld_, .long le_, .ref mq, .ref mz, .ref my, .int sm_, .ref mb, .int (nI jb), .int ta_, .int tl_, .int tk_, .int vl_, .ref mx, .ref mv])), (nw, .inl (cn_, 350, .inl fn)), (mr, .inl (cr_, 3, .inl fr_))]) [123, 124, 127] (by decide) rfl
  have hKc := hK.sub (tys' := [(cn_, .int), (cr_, .int)]) [61, 64] rfl
  have hFc := va_free (wc := [(mo, .inr (12, [.ref nw, .ref kp, .ref ik, .ref mr, .long la_, .long lb_, .ref mw, .long lc_, .int ti_, .int cb_, .long ld_, .long le_, .ref mq, .ref mz, .ref my, .int sm_, .ref mb, .int (nI jb), .int ta_, .int tl_, .int tk_, .int vl_, .ref mx, .ref mv])), (nw, .inl (cn_, 350, .inl fn)), (mr, .inl (cr_, 3, .inl fr_))]) hD hS hA [123, 124, 127] rfl
  refine va_calli (va_runV (As := [.int (xs (i + 1)), .int (xs (i + 2)), .int (xs (i + 3)), .int (xs (i + 4))]) (rest := []) ⟨hx, hb, hml, hown, hts⟩ (m_cause l dC dI mo nw kp ik mr la_ lb_ mw lc_ ti_ cb_ ld_ le_ mq mz my sm_ mb (nI jb) ta_ tl_ tk_ vl_ mx mv cn_ fn cr_ fr_ (xs (i + 1)) (xs (i + 2)) (xs (i + 3)) (xs (i + 4)) H.size hO_n) (cwV 4 hts gL_law_X12_cause rfl rfl rfl (by decide +kernel) ⟨Nat.le_of_ble_eq_true rfl, Nat.le_of_ble_eq_true rfl⟩) ⟨fun a U g mk q => by obtain ⟨q0, q1, qP, qK, qD⟩ := q; exact ⟨q0, q1, qP, va_K.moved (u := U) (U := U.calling g mk a) (Vm.Alike.refl U.vm) qK, qD⟩, va_recv hK hP (ci := 12) (q0 := 123) rfl rfl, fun U hU hW => ⟨rfl, by rw [hU], by rw [hU]; exact hPc, va_K.moved hW.alike hKc, hDc.weaken (fun _ _ _ _ => trivial)⟩⟩ rfl rfl hl.1 rfl (lv_room (Nat.le_of_ble_eq_true rfl)) dL_law_843 ⟨Nat.le_of_ble_eq_true rfl, Nat.le_of_ble_eq_true rfl⟩) hS (fun q _ h => hFc q h) hFc (fun r_8 u_ t H1 locs ht hvm hw_9 hB hz1 hk1 hS => ?_)
  obtain ⟨gn_10, gr__11, hf_12, hP1, hK1, hD1⟩ := hB
  rw [ht] at hP1
  have hK1 := va_K.moved hvm.symm hK1
  obtain ⟨hP, hD⟩ := tz_put (ws' := (tz_XW o aw ai ak sc rd fo tx ar at_ ao w0 w1 w2 w3 w4 w5 sw sh mo nw kp ik mr mw mq mz my mb mx mv ad ab ai0 ai1 cw cai ck csw csh ctx cr ct_ co_ cn_ ck_ ci_ cr_ cw_ cs_ cz_ cy_ cb2_ cx_ cv_ cd cb ci0 ci1 ty gr_3 fk fx ft_ fo_ fw fh la lb rt nl_ np_ nk_ ns_ nv_ ni_ nf_ ud zd fd ug_6 zg_4 fg_5 ui0 zi0 fi0 ui1 zi1 fi1 la_ lb_ lc_ ti_ cb_ ld_ le_ sm_ jb ta_ tl_ tk_ vl_ gn_10 fk_ fi_ gr__11 fw_ fs_ fz_ fb_ fy_ fx_ fv_)) hP hD [123, 124, 127] rfl hk1 hP1 rfl rfl rfl
  generalize H1 = H at hP hS ⊢
  refine lv_pop hx hb dL_law_846 rfl ?_
  refine lv_goto (tgt := 1153) hx hb dL_law_847 (by decide) ?_
  exact K H _ ls ⟨ty, gr_3, fk, fx, ft_, fo_, fw, fh, la, lb, rt, nl_, np_, nk_, ns_, nv_, ni_, nf_, ud, zd, fd, ug_6, zg_4, fg_5, ui0, zi0, fi0, ui1, zi1, fi1, la_, lb_, lc_, ti_, cb_, ld_, le_, sm_, jb, ta_, tl_, tk_, vl_, gn_10, fk_, fi_, gr__11, fw_, fs_, fz_, fb_, fy_, fx_, fv_, hB_d, hf_7, hB_i0, hB_i1, hf_12, hO_k, hO_x, hO_b, hP, hD⟩ hS hl
set_option maxRecDepth 20000 in
theorem gL_law_X11_forget : GoodIn lw_tbl (wsV RL 114 RX11 yX11_forget wsX11_forget) := tz_good [(37, 2), (37, 3), (37, 4), (0, 2), (37, 5), (1, 10), (36, 14), (5, 21), (5, 22), (5, 23), (3, 4), (6, 0), (3, 15), (37, 6), (6, 6), (6, 7), (6, 8), (46, 0), (46, 1), (46, 2), (46, 3), (46, 4), (46, 5), (46, 6), (46, 7), (46, 8), (46, 9), (46, 10), (46, 11), (54, 0), (54, 1), (54, 2), (54, 3), (54, 4), (54, 5), (58, 0), (58, 1), (58, 2), (58, 3)] (by decide +kernel) (by decide +kernel)
set_option maxRecDepth 20000 in
theorem gL_law_X12_forget : GoodIn lw_tbl (wsV RL 117 RX12 yX12_forget wsX12_forget) := tz_good [(37, 7), (37, 8), (37, 9), (0, 5), (37, 10), (5, 4), (47, 0), (47, 1), (47, 2), (47, 3), (47, 4), (47, 5), (47, 6), (47, 7), (47, 8), (47, 9), (47, 10), (47, 11), (47, 12), (47, 13), (47, 14), (47, 15), (47, 16), (47, 17), (47, 18), (47, 19), (47, 20), (47, 21), (47, 22), (47, 23)] (by decide +kernel) (by decide +kernel)
theorem dL_law_850 : decode cL_law 850 = .ok (.aload_n 1, 1) := by decide +kernel
theorem dL_law_851 : decode cL_law 851 = .ok (.invokevirtual 114, 3) := by decide +kernel
theorem dL_law_854 : decode cL_law 854 = .ok (.pop, 1) := by decide +kernel
theorem dL_law_855 : decode cL_law 855 = .ok (.aload_n 2, 1) := by decide +kernel
theorem dL_law_856 : decode cL_law 856 = .ok (.invokevirtual 117, 3) := by decide +kernel
theorem dL_law_859 : decode cL_law 859 = .ok (.pop, 1) := by decide +kernel
theorem dL_law_860 : decode cL_law 860 = .ok (.goto 293, 3) := by decide +kernel
set_option maxHeartbeats 8000000 in
set_option maxRecDepth 100000 in
theorem lc_forget {p : Program} {l : Launch} {e : Env} {s : State} {m : MethodId} {below : List Frame} {meth : Method} {c : Code} {b L : Nat} {xs : Nat → Int32} (hL : L ≤ 3072) (C0 : lw_At p s m meth c b L xs) (hN : tz_N s) (A : Nat → Prop) (hA : ∀ q : Nat, s.heap.size ≤ q → A q) (hA2 : ∀ q : Nat, A q → s.heap.size ≤ q) (hbA : ¬ A b) (hV : tz_V A s s.heap) (dC : Nat → ClassId) (dI : Nat → Nat → Nat) (o : Nat) (aw : Nat) (ai : Nat) (ak : Nat) (sc : Nat) (rd : Nat) (fo : Nat) (tx : Nat) (ar : Nat) (at_ : Nat) (ao : Nat) (w0 : Nat) (w1 : Nat) (w2 : Nat) (w3 : Nat) (w4 : Nat) (w5 : Nat) (sw : Nat) (sh : Nat) (mo : Nat) (nw : Nat) (kp : Nat) (ik : Nat) (mr : Nat) (mw : Nat) (mq : Nat) (mz : Nat) (my : Nat) (mb : Nat) (mx : Nat) (mv : Nat) (ad : Nat → Nat) (ab : Nat → Nat) (ai0 : Nat → Nat) (ai1 : Nat → Nat) (cw : ClassId) (cai : ClassId) (ck : ClassId) (csw : ClassId) (csh : ClassId) (ctx : ClassId) (cr : ClassId) (ct_ : ClassId) (co_ : ClassId) (cn_ : ClassId) (ck_ : ClassId) (ci_ : ClassId) (cr_ : ClassId) (cw_ : ClassId) (cs_ : ClassId) (cz_ : ClassId) (cy_ : ClassId) (cb2_ : ClassId) (cx_ : ClassId) (cv_ : ClassId) (cd : Nat → ClassId) (cb : Nat → ClassId) (ci0 : Nat → ClassId) (ci1 : Nat → ClassId) (hK : va_K (dC, dI) vwCl (tz_T cw cai ck csw csh ctx cr ct_ co_ cn_ ck_ ci_ cr_ cw_ cs_ cz_ cy_ cb2_ cx_ cv_ cd cb ci0 ci1) s) (i : Nat) (hi : i + 6 ≤ L) (H : Heap) (locs : List Loc) (hI : tz_I dC dI o aw ai ak sc rd fo tx ar at_ ao w0 w1 w2 w3 w4 w5 sw sh mo nw kp ik mr mw mq mz my mb mx mv ad ab ai0 ai1 cw cai ck csw csh ctx cr ct_ co_ cn_ ck_ ci_ cr_ cw_ cs_ cz_ cy_ cb2_ cx_ cv_ cd cb ci0 ci1 A H) (hS : va_S A s.heap H locs) (ls : Array Slot) (hl : lv_has ls 4 [(3, .int (nI i)), (2, .ref mo), (1, .ref o), (0, .ref b)]) (K : ∀ (H : Heap) (locs : List Loc) (ls : Array Slot), tz_I dC dI o aw ai ak sc rd fo tx ar at_ ao w0 w1 w2 w3 w4 w5 sw sh mo nw kp ik mr mw mq mz my mb mx mv ad ab ai0 ai1 cw cai ck csw csh ctx cr ct_ co_ cn_ ck_ ci_ cr_ cw_ cs_ cz_ cy_ cb2_ cx_ cv_ cd cb ci0 ci1 A H → va_S A s.heap H locs → lv_has ls 4 [(3, .int (nI i)), (2, .ref mo), (1, .ref o), (0, .ref b)] → W p l e room_1 s m #[Value.ref b] below meth c H locs 136 3195 (lw_Z below #[Value.ref b] s) (F0 m 1153 ls [])) : W p l e room_1 s m #[Value.ref b] below meth c H locs 136 3195 (lw_Z below #[Value.ref b] s) (F0 m 850 ls []) := by
  obtain ⟨hx, hb, hr, hml, hown, hts, hX, hbl, hlocks, hgv⟩ := C0
  have hb : c.code = cL_law := hb
  have hown : s.vm.findClass RL = some m.cls := hown
  obtain ⟨ty, fr, fk, fx, ft_, fo_, fw, fh, la, lb, rt, nl_, np_, nk_, ns_, nv_, ni_, nf_, ud, zd, fd, ub, zb, fb, ui0, zi0, fi0, ui1, zi1, fi1, la_, lb_, lc_, ti_, cb_, ld_, le_, sm_, jb, ta_, tl_, tk_, vl_, fn, fk_, fi_, fr_, fw_, fs_, fz_, fb_, fy_, fx_, fv_, hB_d, hB_b, hB_i0, hB_i1, hO_n, hO_k, hO_x, hO_b, hP, hD⟩ := hI
  have hu_zd := hB_d.2
  have hu_zb := hB_b.2
  have hu_zi0 := hB_i0.2
  have hu_zi1 := hB_i1.2
  refine lv_aload_n hx hb dL_law_850 rfl (lv_at hl 2 rfl) ?_
  have hPc := hP.sub (ws' := [(o, .inr (11, [.ref aw, .ref (ab 0), .ref ai, .ref ak, .ref sc, .ref rd, .ref fo, .ref tx, .int ty, .ref ar, .ref at_, .ref ao])), ((ab 0), .inr (0, [.ref (ab 1), .ref (ab 3), .ref (ab 5), .ref (ab 7), .ref (ab 9), .int (nI ub)])), ((ab 1), .inr (6, [.int 1, .int 5, .ref (ab 2), .int (nI (zb 0))])), ((ab 2), .inl ((cb 0), 5, .inl (fb 0))), ((ab 3), .inr (6, [.int 4, .int 5, .ref (ab 4), .int (nI (zb 1))])), ((ab 4), .inl ((cb 1), 20, .inl (fb 1))), ((ab 5), .inr (6, [.int 4, .int 8, .ref (ab 6), .int (nI (zb 2))])), ((ab 6), .inl ((cb 2), 32, .inl (fb 2))), ((ab 7), .inr (6, [.int 4, .int 6, .ref (ab 8), .int (nI (zb 3))])), ((ab 8), .inl ((cb 3), 24, .inl (fb 3))), ((ab 9), .inl ((cb 12), 8, .inr (.inr (.inr (.inr (tz_ear ab)))))), ((ab 10), .inr (6, [.int 4, .int 8, .ref (ab 11), .int (nI (zb 4))])), ((ab 11), .inl ((cb 4), 32, .inl (fb 4))), ((ab 12), .inr (6, [.int 4, .int 8, .ref (ab 13), .int (nI (zb 5))])), ((ab 13), .inl ((cb 5), 32, .inl (fb 5))), ((ab 14), .inr (6, [.int 4, .int 8, .ref (ab 15), .int (nI (zb 6))])), ((ab 15), .inl ((cb 6), 32, .inl (fb 6))), ((ab 16), .inr (6, [.int 4, .int 8, .ref (ab 17), .int (nI (zb 7))])), ((ab 17), .inl ((cb 7), 32, .inl (fb 7))), ((ab 18), .inr (6, [.int 4, .int 8, .ref (ab 19), .int (nI (zb 8))])), ((ab 19), .inl ((cb 8), 32, .inl (fb 8))), ((ab 20), .inr (6, [.int 4, .int 8, .ref (ab 21), .int (nI (zb 9))])), ((ab 21), .inl ((cb 9), 32, .inl (fb 9))), ((ab 22), .inr (6, [.int 4, .int 8, .ref (ab 23), .int (nI (zb 10))])), ((ab 23), .inl ((cb 10), 32, .inl (fb 10))), ((ab 24), .inr (6, [.int 4, .int 8, .ref (ab 25), .int (nI (zb 11))])), ((ab 25), .inl ((cb 11), 32, .inl (fb 11)))]) [0, 45, 46, 47, 48, 49, 50, 51, 52, 53, 54, 55, 56, 57, 58, 59, 60, 61, 62, 63, 64, 65, 66, 67, 68, 69, 70] rfl
  have hDc := hD.sub (ws' := [(o, .inr (11, [.ref aw, .ref (ab 0), .ref ai, .ref ak, .ref sc, .ref rd, .ref fo, .ref tx, .int ty, .ref ar, .ref at_, .ref ao])), ((ab 0), .inr (0, [.ref (ab 1), .ref (ab 3), .ref (ab 5), .ref (ab 7), .ref (ab 9), .int (nI ub)])), ((ab 1), .inr (6, [.int 1, .int 5, .ref (ab 2), .int (nI (zb 0))])), ((ab 2), .inl ((cb 0), 5, .inl (fb 0))), ((ab 3), .inr (6, [.int 4, .int 5, .ref (ab 4), .int (nI (zb 1))])), ((ab 4), .inl ((cb 1), 20, .inl (fb 1))), ((ab 5), .inr (6, [.int 4, .int 8, .ref (ab 6), .int (nI (zb 2))])), ((ab 6), .inl ((cb 2), 32, .inl (fb 2))), ((ab 7), .inr (6, [.int 4, .int 6, .ref (ab 8), .int (nI (zb 3))])), ((ab 8), .inl ((cb 3), 24, .inl (fb 3))), ((ab 9), .inl ((cb 12), 8, .inr (.inr (.inr (.inr (tz_ear ab)))))), ((ab 10), .inr (6, [.int 4, .int 8, .ref (ab 11), .int (nI (zb 4))])), ((ab 11), .inl ((cb 4), 32, .inl (fb 4))), ((ab 12), .inr (6, [.int 4, .int 8, .ref (ab 13), .int (nI (zb 5))])), ((ab 13), .inl ((cb 5), 32, .inl (fb 5))), ((ab 14), .inr (6, [.int 4, .int 8, .ref (ab 15), .int (nI (zb 6))])), ((ab 15), .inl ((cb 6), 32, .inl (fb 6))), ((ab 16), .inr (6, [.int 4, .int 8, .ref (ab 17), .int (nI (zb 7))])), ((ab 17), .inl ((cb 7), 32, .inl (fb 7))), ((ab 18), .inr (6, [.int 4, .int 8, .ref (ab 19), .int (nI (zb 8))])), ((ab 19), .inl ((cb 8), 32, .inl (fb 8))), ((ab 20), .inr (6, [.int 4, .int 8, .ref (ab 21), .int (nI (zb 9))])), ((ab 21), .inl ((cb 9), 32, .inl (fb 9))), ((ab 22), .inr (6, [.int 4, .int 8, .ref (ab 23), .int (nI (zb 10))])), ((ab 23), .inl ((cb 10), 32, .inl (fb 10))), ((ab 24), .inr (6, [.int 4, .int 8, .ref (ab 25), .int (nI (zb 11))])), ((ab 25), .inl ((cb 11), 32, .inl (fb 11)))]) [0, 45, 46, 47, 48, 49, 50, 51, 52, 53, 54, 55, 56, 57, 58, 59, 60, 61, 62, 63, 64, 65, 66, 67, 68, 69, 70] (by decide) rfl
  have hKc := hK.sub (tys' := [((cb 0), .int), ((cb 1), .int), ((cb 2), .int), ((cb 3), .int), ((cb 12), (.object "ThriceCounted$Rows")), ((cb 4), .int), ((cb 5), .int), ((cb 6), .int), ((cb 7), .int), ((cb 8), .int), ((cb 9), .int), ((cb 10), .int), ((cb 11), .int)]) [22, 23, 24, 25, 26, 27, 28, 29, 30, 31, 32, 33, 34] rfl
  have hFc := va_free (wc := [(o, .inr (11, [.ref aw, .ref (ab 0), .ref ai, .ref ak, .ref sc, .ref rd, .ref fo, .ref tx, .int ty, .ref ar, .ref at_, .ref ao])), ((ab 0), .inr (0, [.ref (ab 1), .ref (ab 3), .ref (ab 5), .ref (ab 7), .ref (ab 9), .int (nI ub)])), ((ab 1), .inr (6, [.int 1, .int 5, .ref (ab 2), .int (nI (zb 0))])), ((ab 2), .inl ((cb 0), 5, .inl (fb 0))), ((ab 3), .inr (6, [.int 4, .int 5, .ref (ab 4), .int (nI (zb 1))])), ((ab 4), .inl ((cb 1), 20, .inl (fb 1))), ((ab 5), .inr (6, [.int 4, .int 8, .ref (ab 6), .int (nI (zb 2))])), ((ab 6), .inl ((cb 2), 32, .inl (fb 2))), ((ab 7), .inr (6, [.int 4, .int 6, .ref (ab 8), .int (nI (zb 3))])), ((ab 8), .inl ((cb 3), 24, .inl (fb 3))), ((ab 9), .inl ((cb 12), 8, .inr (.inr (.inr (.inr (tz_ear ab)))))), ((ab 10), .inr (6, [.int 4, .int 8, .ref (ab 11), .int (nI (zb 4))])), ((ab 11), .inl ((cb 4), 32, .inl (fb 4))), ((ab 12), .inr (6, [.int 4, .int 8, .ref (ab 13), .int (nI (zb 5))])), ((ab 13), .inl ((cb 5), 32, .inl (fb 5))), ((ab 14), .inr (6, [.int 4, .int 8, .ref (ab 15), .int (nI (zb 6))])), ((ab 15), .inl ((cb 6), 32, .inl (fb 6))), ((ab 16), .inr (6, [.int 4, .int 8, .ref (ab 17), .int (nI (zb 7))])), ((ab 17), .inl ((cb 7), 32, .inl (fb 7))), ((ab 18), .inr (6, [.int 4, .int 8, .ref (ab 19), .int (nI (zb 8))])), ((ab 19), .inl ((cb 8), 32, .inl (fb 8))), ((ab 20), .inr (6, [.int 4, .int 8, .ref (ab 21), .int (nI (zb 9))])), ((ab 21), .inl ((cb 9), 32, .inl (fb 9))), ((ab 22), .inr (6, [.int 4, .int 8, .ref (ab 23), .int (nI (zb 10))])), ((ab 23), .inl ((cb 10), 32, .inl (fb 10))), ((ab 24), .inr (6, [.int 4, .int 8, .ref (ab 25), .int (nI (zb 11))])), ((ab 25), .inl ((cb 11), 32, .inl (fb 11)))]) hD hS hA [0, 45, 46, 47, 48, 49, 50, 51, 52, 53, 54, 55, 56, 57, 58, 59, 60, 61, 62, 63, 64, 65, 66, 67, 68, 69, 70] rfl
  refine va_calli (va_runV (As := []) (rest := []) ⟨hx, hb, hml, hown, hts⟩ (x_forget l dC dI o aw ab ai ak sc rd fo tx ty ar at_ ao ub zb cb fb H.size ⟨hB_b.1, show ub ≤ 8 by omega⟩) (cwV 0 hts gL_law_X11_forget rfl rfl rfl (by decide +kernel) ⟨Nat.le_of_ble_eq_true rfl, Nat.le_of_ble_eq_true rfl⟩) ⟨fun a U g mk q => by obtain ⟨q0, q1, qP, qK, qD⟩ := q; exact ⟨q0, q1, qP, va_K.moved (u := U) (U := U.calling g mk a) (Vm.Alike.refl U.vm) qK, qD⟩, va_recv hK hP (ci := 11) (q0 := 0) rfl rfl, fun U hU hW => ⟨rfl, by rw [hU], by rw [hU]; exact hPc, va_K.moved hW.alike hKc, hDc.weaken (fun _ _ _ _ => trivial)⟩⟩ rfl rfl hl.1 rfl (lv_room (Nat.le_of_ble_eq_true rfl)) dL_law_851 ⟨Nat.le_of_ble_eq_true rfl, Nat.le_of_ble_eq_true rfl⟩) hS (fun q _ h => hFc q h) hFc (fun r_1 u_ t H1 locs ht hvm hw_2 hB hz1 hk1 hS => ?_)
  obtain ⟨zg_3, fg_4, ug_5, hf_6, hP1, hK1, hD1⟩ := hB
  have hz_zg_3_0 : zg_3 0 ≤ 5 := hf_6.1 0
  have hz_zg_3_1 : zg_3 1 ≤ 5 := hf_6.1 1
  have hz_zg_3_2 : zg_3 2 ≤ 8 := hf_6.1 2
  have hz_zg_3_3 : zg_3 3 ≤ 6 := hf_6.1 3
  have hz_zg_3_4 : zg_3 4 ≤ 8 := hf_6.1 4
  have hz_zg_3_5 : zg_3 5 ≤ 8 := hf_6.1 5
  have hz_zg_3_6 : zg_3 6 ≤ 8 := hf_6.1 6
  have hz_zg_3_7 : zg_3 7 ≤ 8 := hf_6.1 7
  have hz_zg_3_8 : zg_3 8 ≤ 8 := hf_6.1 8
  have hz_zg_3_9 : zg_3 9 ≤ 8 := hf_6.1 9
  have hz_zg_3_10 : zg_3 10 ≤ 8 := hf_6.1 10
  have hz_zg_3_11 : zg_3 11 ≤ 8 := hf_6.1 11
  have hu_zg_3 := hf_6.2
  rw [ht] at hP1
  have hK1 := va_K.moved hvm.symm hK1
  obtain ⟨hP, hD⟩ := tz_put (ws' := (tz_XW o aw ai ak sc rd fo tx ar at_ ao w0 w1 w2 w3 w4 w5 sw sh mo nw kp ik mr mw mq mz my mb mx mv ad ab ai0 ai1 cw cai ck csw csh ctx cr ct_ co_ cn_ ck_ ci_ cr_ cw_ cs_ cz_ cy_ cb2_ cx_ cv_ cd cb ci0 ci1 ty fr fk fx ft_ fo_ fw fh la lb rt nl_ np_ nk_ ns_ nv_ ni_ nf_ ud zd fd ug_5 zg_3 fg_4 ui0 zi0 fi0 ui1 zi1 fi1 la_ lb_ lc_ ti_ cb_ ld_ le_ sm_ jb ta_ tl_ tk_ vl_ fn fk_ fi_ fr_ fw_ fs_ fz_ fb_ fy_ fx_ fv_)) hP hD [0, 45, 46, 47, 48, 49, 50, 51, 52, 53, 54, 55, 56, 57, 58, 59, 60, 61, 62, 63, 64, 65, 66, 67, 68, 69, 70] rfl hk1 hP1 rfl rfl rfl
  generalize H1 = H at hP hS ⊢
  refine lv_pop hx hb dL_law_854 rfl ?_
  refine lv_aload_n hx hb dL_law_855 rfl (lv_at hl 1 rfl) ?_
  have hPc := hP.sub (ws' := [(mo, .inr (12, [.ref nw, .ref kp, .ref ik, .ref mr, .long la_, .long lb_, .ref mw, .long lc_, .int ti_, .int cb_, .long ld_, .long le_, .ref mq, .ref mz, .ref my, .int sm_, .ref mb, .int (nI jb), .int ta_, .int tl_, .int tk_, .int vl_, .ref mx, .ref mv])), (nw, .inl (cn_, 350, .inl fn))]) [123, 124] rfl
  have hDc := hD.sub (ws' := [(mo, .inr (12, [.ref nw, .ref kp, .ref ik, .ref mr, .long la_, .long lb_, .ref mw, .long lc_, .int ti_, .int cb_, .long ld_, .long le_, .ref mq, .ref mz, .ref my, .int sm_, .ref mb, .int (nI jb), .int ta_, .int tl_, .int tk_, .int vl_, .ref mx, .ref mv])), (nw, .inl (cn_, 350, .inl fn))]) [123, 124] (by decide) rfl
  have hKc := hK.sub (tys' := [(cn_, .int)]) [61] rfl
  have hFc := va_free (wc := [(mo, .inr (12, [.ref nw, .ref kp, .ref ik, .ref mr, .long la_, .long lb_, .ref mw, .long lc_, .int ti_, .int cb_, .long ld_, .long le_, .ref mq, .ref mz, .ref my, .int sm_, .ref mb, .int (nI jb), .int ta_, .int tl_, .int tk_, .int vl_, .ref mx, .ref mv])), (nw, .inl (cn_, 350, .inl fn))]) hD hS hA [123, 124] rfl
  refine va_calli (va_runV (As := []) (rest := []) ⟨hx, hb, hml, hown, hts⟩ (m_forget l dC dI mo nw kp ik mr la_ lb_ mw lc_ ti_ cb_ ld_ le_ mq mz my sm_ mb (nI jb) ta_ tl_ tk_ vl_ mx mv cn_ fn H.size hO_n) (cwV 0 hts gL_law_X12_forget rfl rfl rfl (by decide +kernel) ⟨Nat.le_of_ble_eq_true rfl, Nat.le_of_ble_eq_true rfl⟩) ⟨fun a U g mk q => by obtain ⟨q0, q1, qP, qK, qD⟩ := q; exact ⟨q0, q1, qP, va_K.moved (u := U) (U := U.calling g mk a) (Vm.Alike.refl U.vm) qK, qD⟩, va_recv hK hP (ci := 12) (q0 := 123) rfl rfl, fun U hU hW => ⟨rfl, by rw [hU], by rw [hU]; exact hPc, va_K.moved hW.alike hKc, hDc.weaken (fun _ _ _ _ => trivial)⟩⟩ rfl rfl hl.1 rfl (lv_room (Nat.le_of_ble_eq_true rfl)) dL_law_856 ⟨Nat.le_of_ble_eq_true rfl, Nat.le_of_ble_eq_true rfl⟩) hS (fun q _ h => hFc q h) hFc (fun r_7 u_ t H1 locs ht hvm hw_8 hB hz1 hk1 hS => ?_)
  obtain ⟨gn_9, hf_10, hP1, hK1, hD1⟩ := hB
  rw [ht] at hP1
  have hK1 := va_K.moved hvm.symm hK1
  obtain ⟨hP, hD⟩ := tz_put (ws' := (tz_XW o aw ai ak sc rd fo tx ar at_ ao w0 w1 w2 w3 w4 w5 sw sh mo nw kp ik mr mw mq mz my mb mx mv ad ab ai0 ai1 cw cai ck csw csh ctx cr ct_ co_ cn_ ck_ ci_ cr_ cw_ cs_ cz_ cy_ cb2_ cx_ cv_ cd cb ci0 ci1 ty fr fk fx ft_ fo_ fw fh la lb rt nl_ np_ nk_ ns_ nv_ ni_ nf_ ud zd fd ug_5 zg_3 fg_4 ui0 zi0 fi0 ui1 zi1 fi1 la_ lb_ lc_ ti_ cb_ ld_ le_ sm_ jb ta_ tl_ tk_ vl_ gn_9 fk_ fi_ fr_ fw_ fs_ fz_ fb_ fy_ fx_ fv_)) hP hD [123, 124] rfl hk1 hP1 rfl rfl rfl
  generalize H1 = H at hP hS ⊢
  refine lv_pop hx hb dL_law_859 rfl ?_
  refine lv_goto (tgt := 1153) hx hb dL_law_860 (by decide) ?_
  exact K H _ ls ⟨ty, fr, fk, fx, ft_, fo_, fw, fh, la, lb, rt, nl_, np_, nk_, ns_, nv_, ni_, nf_, ud, zd, fd, ug_5, zg_3, fg_4, ui0, zi0, fi0, ui1, zi1, fi1, la_, lb_, lc_, ti_, cb_, ld_, le_, sm_, jb, ta_, tl_, tk_, vl_, gn_9, fk_, fi_, fr_, fw_, fs_, fz_, fb_, fy_, fx_, fv_, hB_d, hf_6, hB_i0, hB_i1, hf_10, hO_k, hO_x, hO_b, hP, hD⟩ hS hl
set_option maxRecDepth 20000 in
theorem gL_law_X11_why : GoodIn lw_tbl (wsV RL 118 RX11 yX11_why wsX11_why) := tz_good [(37, 11), (37, 12), (37, 13), (0, 2), (37, 14), (1, 10), (36, 14), (7, 4), (7, 5), (0, 2), (7, 6), (7, 7), (7, 8), (7, 9), (7, 10), (7, 11), (7, 12), (7, 13), (7, 14), (2, 6), (5, 21), (5, 22), (5, 23), (3, 4), (6, 0), (3, 15), (37, 15), (37, 16), (37, 17), (37, 18), (10, 8), (10, 9), (10, 10), (10, 11), (3, 22), (3, 21), (8, 8), (8, 9), (8, 10), (8, 11), (37, 19), (37, 20), (37, 21), (37, 22), (46, 0), (46, 1), (46, 2), (46, 3), (46, 4), (46, 5), (46, 6), (46, 7), (46, 8), (46, 9), (46, 10), (46, 11), (54, 0), (54, 1), (54, 2), (54, 3), (54, 4), (54, 5), (58, 0), (58, 1), (58, 2), (58, 3)] (by decide +kernel) (by decide +kernel)
set_option maxRecDepth 20000 in
theorem gL_law_X12_why : GoodIn lw_tbl (wsV RL 121 RX12 yX12_why wsX12_why) := tz_good [(37, 23), (38, 0), (38, 1), (0, 5), (38, 2), (5, 4), (38, 3), (38, 4), (0, 5), (38, 5), (38, 6), (38, 7), (8, 17), (8, 18), (8, 19), (8, 20), (8, 21), (8, 22), (8, 23), (5, 7), (38, 8), (38, 9), (38, 10), (38, 11), (47, 0), (47, 1), (47, 2), (47, 3), (47, 4), (47, 5), (47, 6), (47, 7), (47, 8), (47, 9), (47, 10), (47, 11), (47, 12), (47, 13), (47, 14), (47, 15), (47, 16), (47, 17), (47, 18), (47, 19), (47, 20), (47, 21), (47, 22), (47, 23)] (by decide +kernel) (by decide +kernel)
theorem dL_law_863 : decode cL_law 863 = .ok (.aload_n 1, 1) := by decide +kernel
theorem dL_law_864 : decode cL_law 864 = .ok (.aload_n 0, 1) := by decide +kernel
theorem dL_law_865 : decode cL_law 865 = .ok (.iload_n 3, 1) := by decide +kernel
theorem dL_law_866 : decode cL_law 866 = .ok (.iconst 1, 1) := by decide +kernel
theorem dL_law_867 : decode cL_law 867 = .ok (.iadd, 1) := by decide +kernel
theorem dL_law_868 : decode cL_law 868 = .ok (.iaload, 1) := by decide +kernel
theorem dL_law_869 : decode cL_law 869 = .ok (.aload_n 0, 1) := by decide +kernel
theorem dL_law_870 : decode cL_law 870 = .ok (.iload_n 3, 1) := by decide +kernel
theorem dL_law_871 : decode cL_law 871 = .ok (.iconst 2, 1) := by decide +kernel
theorem dL_law_872 : decode cL_law 872 = .ok (.iadd, 1) := by decide +kernel
theorem dL_law_873 : decode cL_law 873 = .ok (.iaload, 1) := by decide +kernel
theorem dL_law_874 : decode cL_law 874 = .ok (.invokevirtual 118, 3) := by decide +kernel
theorem dL_law_877 : decode cL_law 877 = .ok (.pop, 1) := by decide +kernel
theorem dL_law_878 : decode cL_law 878 = .ok (.aload_n 2, 1) := by decide +kernel
theorem dL_law_879 : decode cL_law 879 = .ok (.aload_n 0, 1) := by decide +kernel
theorem dL_law_880 : decode cL_law 880 = .ok (.iload_n 3, 1) := by decide +kernel
theorem dL_law_881 : decode cL_law 881 = .ok (.iconst 1, 1) := by decide +kernel
theorem dL_law_882 : decode cL_law 882 = .ok (.iadd, 1) := by decide +kernel
theorem dL_law_883 : decode cL_law 883 = .ok (.iaload, 1) := by decide +kernel
theorem dL_law_884 : decode cL_law 884 = .ok (.aload_n 0, 1) := by decide +kernel
theorem dL_law_885 : decode cL_law 885 = .ok (.iload_n 3, 1) := by decide +kernel
theorem dL_law_886 : decode cL_law 886 = .ok (.iconst 2, 1) := by decide +kernel
theorem dL_law_887 : decode cL_law 887 = .ok (.iadd, 1) := by decide +kernel
theorem dL_law_888 : decode cL_law 888 = .ok (.iaload, 1) := by decide +kernel
theorem dL_law_889 : decode cL_law 889 = .ok (.invokevirtual 121, 3) := by decide +kernel
theorem dL_law_892 : decode cL_law 892 = .ok (.pop, 1) := by decide +kernel
theorem dL_law_893 : decode cL_law 893 = .ok (.goto 260, 3) := by decide +kernel
set_option maxHeartbeats 8000000 in
set_option maxRecDepth 100000 in
theorem lc_why {p : Program} {l : Launch} {e : Env} {s : State} {m : MethodId} {below : List Frame} {meth : Method} {c : Code} {b L : Nat} {xs : Nat → Int32} (hL : L ≤ 3072) (C0 : lw_At p s m meth c b L xs) (hN : tz_N s) (A : Nat → Prop) (hA : ∀ q : Nat, s.heap.size ≤ q → A q) (hA2 : ∀ q : Nat, A q → s.heap.size ≤ q) (hbA : ¬ A b) (hV : tz_V A s s.heap) (dC : Nat → ClassId) (dI : Nat → Nat → Nat) (o : Nat) (aw : Nat) (ai : Nat) (ak : Nat) (sc : Nat) (rd : Nat) (fo : Nat) (tx : Nat) (ar : Nat) (at_ : Nat) (ao : Nat) (w0 : Nat) (w1 : Nat) (w2 : Nat) (w3 : Nat) (w4 : Nat) (w5 : Nat) (sw : Nat) (sh : Nat) (mo : Nat) (nw : Nat) (kp : Nat) (ik : Nat) (mr : Nat) (mw : Nat) (mq : Nat) (mz : Nat) (my : Nat) (mb : Nat) (mx : Nat) (mv : Nat) (ad : Nat → Nat) (ab : Nat → Nat) (ai0 : Nat → Nat) (ai1 : Nat → Nat) (cw : ClassId) (cai : ClassId) (ck : ClassId) (csw : ClassId) (csh : ClassId) (ctx : ClassId) (cr : ClassId) (ct_ : ClassId) (co_ : ClassId) (cn_ : ClassId) (ck_ : ClassId) (ci_ : ClassId) (cr_ : ClassId) (cw_ : ClassId) (cs_ : ClassId) (cz_ : ClassId) (cy_ : ClassId) (cb2_ : ClassId) (cx_ : ClassId) (cv_ : ClassId) (cd : Nat → ClassId) (cb : Nat → ClassId) (ci0 : Nat → ClassId) (ci1 : Nat → ClassId) (hK : va_K (dC, dI) vwCl (tz_T cw cai ck csw csh ctx cr ct_ co_ cn_ ck_ ci_ cr_ cw_ cs_ cz_ cy_ cb2_ cx_ cv_ cd cb ci0 ci1) s) (i : Nat) (hi : i + 6 ≤ L) (H : Heap) (locs : List Loc) (hI : tz_I dC dI o aw ai ak sc rd fo tx ar at_ ao w0 w1 w2 w3 w4 w5 sw sh mo nw kp ik mr mw mq mz my mb mx mv ad ab ai0 ai1 cw cai ck csw csh ctx cr ct_ co_ cn_ ck_ ci_ cr_ cw_ cs_ cz_ cy_ cb2_ cx_ cv_ cd cb ci0 ci1 A H) (hS : va_S A s.heap H locs) (ls : Array Slot) (hl : lv_has ls 4 [(3, .int (nI i)), (2, .ref mo), (1, .ref o), (0, .ref b)]) (K : ∀ (H : Heap) (locs : List Loc) (ls : Array Slot), tz_I dC dI o aw ai ak sc rd fo tx ar at_ ao w0 w1 w2 w3 w4 w5 sw sh mo nw kp ik mr mw mq mz my mb mx mv ad ab ai0 ai1 cw cai ck csw csh ctx cr ct_ co_ cn_ ck_ ci_ cr_ cw_ cs_ cz_ cy_ cb2_ cx_ cv_ cd cb ci0 ci1 A H → va_S A s.heap H locs → lv_has ls 4 [(3, .int (nI i)), (2, .ref mo), (1, .ref o), (0, .ref b)] → W p l e room_1 s m #[Value.ref b] below meth c H locs 136 3195 (lw_Z below #[Value.ref b] s) (F0 m 1153 ls [])) : W p l e room_1 s m #[Value.ref b] below meth c H locs 136 3195 (lw_Z below #[Value.ref b] s) (F0 m 863 ls []) := by
  obtain ⟨hx, hb, hr, hml, hown, hts, hX, hbl, hlocks, hgv⟩ := C0
  have hb : c.code = cL_law := hb
  have hown : s.vm.findClass RL = some m.cls := hown
  obtain ⟨ty, fr, fk, fx, ft_, fo_, fw, fh, la, lb, rt, nl_, np_, nk_, ns_, nv_, ni_, nf_, ud, zd, fd, ub, zb, fb, ui0, zi0, fi0, ui1, zi1, fi1, la_, lb_, lc_, ti_, cb_, ld_, le_, sm_, jb, ta_, tl_, tk_, vl_, fn, fk_, fi_, fr_, fw_, fs_, fz_, fb_, fy_, fx_, fv_, hB_d, hB_b, hB_i0, hB_i1, hO_n, hO_k, hO_x, hO_b, hP, hD⟩ := hI
  have hu_zd := hB_d.2
  have hu_zb := hB_b.2
  have hu_zi0 := hB_i0.2
  have hu_zi1 := hB_i1.2
  refine lv_aload_n hx hb dL_law_863 rfl (lv_at hl 2 rfl) ?_
  refine lv_aload_n hx hb dL_law_864 rfl (lv_at hl 3 rfl) ?_
  refine lv_iload_n hx hb dL_law_865 rfl (lv_at hl 0 rfl) ?_
  refine lv_iconst (v := 1) hx hb dL_law_866 (by decide) ?_
  refine lv_iadd hx hb dL_law_867 ?_
  refine tz_i (nI (i + 1)) (nI_add i 1) ?_
  refine va_sld hx hb hX hbl hbA hS (vp_in_nI (n := (i + 1)) (N := L) (by omega) (by omega)) dL_law_868 ?_
  refine tz_i (xs (i + 1)) (congrArg xs (nI_clamp (by omega))) ?_
  refine lv_aload_n hx hb dL_law_869 rfl (lv_at hl 3 rfl) ?_
  refine lv_iload_n hx hb dL_law_870 rfl (lv_at hl 0 rfl) ?_
  refine lv_iconst (v := 2) hx hb dL_law_871 (by decide) ?_
  refine lv_iadd hx hb dL_law_872 ?_
  refine tz_i (nI (i + 2)) (nI_add i 2) ?_
  refine va_sld hx hb hX hbl hbA hS (vp_in_nI (n := (i + 2)) (N := L) (by omega) (by omega)) dL_law_873 ?_
  refine tz_i (xs (i + 2)) (congrArg xs (nI_clamp (by omega))) ?_
  have hPc := hP.sub (ws' := [(o, .inr (11, [.ref aw, .ref (ab 0), .ref ai, .ref ak, .ref sc, .ref rd, .ref fo, .ref tx, .int ty, .ref ar, .ref at_, .ref ao])), (ar, .inl (cr, 3, .inl fr)), ((ab 0), .inr (0, [.ref (ab 1), .ref (ab 3), .ref (ab 5), .ref (ab 7), .ref (ab 9), .int (nI ub)])), ((ab 7), .inr (6, [.int 4, .int 6, .ref (ab 8), .int (nI (zb 3))])), ((ab 8), .inl ((cb 3), 24, .inl (fb 3)))]) [0, 1, 45, 52, 53] rfl
  have hDc := hD.sub (ws' := [(o, .inr (11, [.ref aw, .ref (ab 0), .ref ai, .ref ak, .ref sc, .ref rd, .ref fo, .ref tx, .int ty, .ref ar, .ref at_, .ref ao])), (ar, .inl (cr, 3, .inl fr)), ((ab 0), .inr (0, [.ref (ab 1), .ref (ab 3), .ref (ab 5), .ref (ab 7), .ref (ab 9), .int (nI ub)])), ((ab 7), .inr (6, [.int 4, .int 6, .ref (ab 8), .int (nI (zb 3))])), ((ab 8), .inl ((cb 3), 24, .inl (fb 3)))]) [0, 1, 45, 52, 53] (by decide) rfl
  have hKc := hK.sub (tys' := [(cr, .int), ((cb 3), .int)]) [0, 25] rfl
  have hFc := va_free (wc := [(o, .inr (11, [.ref aw, .ref (ab 0), .ref ai, .ref ak, .ref sc, .ref rd, .ref fo, .ref tx, .int ty, .ref ar, .ref at_, .ref ao])), (ar, .inl (cr, 3, .inl fr)), ((ab 0), .inr (0, [.ref (ab 1), .ref (ab 3), .ref (ab 5), .ref (ab 7), .ref (ab 9), .int (nI ub)])), ((ab 7), .inr (6, [.int 4, .int 6, .ref (ab 8), .int (nI (zb 3))])), ((ab 8), .inl ((cb 3), 24, .inl (fb 3)))]) hD hS hA [0, 1, 45, 52, 53] rfl
  refine va_calli (va_runV (As := [.int (xs (i + 1)), .int (xs (i + 2))]) (rest := []) ⟨hx, hb, hml, hown, hts⟩ (x_why l dC dI o aw ab ai ak sc rd fo tx ty ar at_ ao cr fr ub zb cb fb (xs (i + 1)) (xs (i + 2)) H.size ⟨hB_b.1, show ub ≤ 8 by omega⟩) (cwV 2 hts gL_law_X11_why rfl rfl rfl (by decide +kernel) ⟨Nat.le_of_ble_eq_true rfl, Nat.le_of_ble_eq_true rfl⟩) ⟨fun a U g mk q => by obtain ⟨q0, q1, qP, qK, qD⟩ := q; exact ⟨q0, q1, qP, va_K.moved (u := U) (U := U.calling g mk a) (Vm.Alike.refl U.vm) qK, qD⟩, va_recv hK hP (ci := 11) (q0 := 0) rfl rfl, fun U hU hW => ⟨rfl, by rw [hU], by rw [hU]; exact hPc, va_K.moved hW.alike hKc, hDc.weaken (fun _ _ _ _ => trivial)⟩⟩ rfl rfl hl.1 rfl (lv_room (Nat.le_of_ble_eq_true rfl)) dL_law_874 ⟨Nat.le_of_ble_eq_true rfl, Nat.le_of_ble_eq_true rfl⟩) hS (fun q _ h => hFc q h) hFc (fun r_1 u_ t H1 locs ht hvm hw_2 hB hz1 hk1 hS => ?_)
  obtain ⟨gr_3, hP1, hK1, hD1⟩ := hB
  rw [ht] at hP1
  have hK1 := va_K.moved hvm.symm hK1
  obtain ⟨hP, hD⟩ := tz_put (ws' := (tz_XW o aw ai ak sc rd fo tx ar at_ ao w0 w1 w2 w3 w4 w5 sw sh mo nw kp ik mr mw mq mz my mb mx mv ad ab ai0 ai1 cw cai ck csw csh ctx cr ct_ co_ cn_ ck_ ci_ cr_ cw_ cs_ cz_ cy_ cb2_ cx_ cv_ cd cb ci0 ci1 ty gr_3 fk fx ft_ fo_ fw fh la lb rt nl_ np_ nk_ ns_ nv_ ni_ nf_ ud zd fd ub zb fb ui0 zi0 fi0 ui1 zi1 fi1 la_ lb_ lc_ ti_ cb_ ld_ le_ sm_ jb ta_ tl_ tk_ vl_ fn fk_ fi_ fr_ fw_ fs_ fz_ fb_ fy_ fx_ fv_)) hP hD [0, 1, 45, 52, 53] rfl hk1 hP1 rfl rfl rfl
  generalize H1 = H at hP hS ⊢
  refine lv_pop hx hb dL_law_877 rfl ?_
  refine lv_aload_n hx hb dL_law_878 rfl (lv_at hl 1 rfl) ?_
  refine lv_aload_n hx hb dL_law_879 rfl (lv_at hl 3 rfl) ?_
  refine lv_iload_n hx hb dL_law_880 rfl (lv_at hl 0 rfl) ?_
  refine lv_iconst (v := 1) hx hb dL_law_881 (by decide) ?_
  refine lv_iadd hx hb dL_law_882 ?_
  refine tz_i (nI (i + 1)) (nI_add i 1) ?_
  refine va_sld hx hb hX hbl hbA hS (vp_in_nI (n := (i + 1)) (N := L) (by omega) (by omega)) dL_law_883 ?_
  refine tz_i (xs (i + 1)) (congrArg xs (nI_clamp (by omega))) ?_
  refine lv_aload_n hx hb dL_law_884 rfl (lv_at hl 3 rfl) ?_
  refine lv_iload_n hx hb dL_law_885 rfl (lv_at hl 0 rfl) ?_
  refine lv_iconst (v := 2) hx hb dL_law_886 (by decide) ?_
  refine lv_iadd hx hb dL_law_887 ?_
  refine tz_i (nI (i + 2)) (nI_add i 2) ?_
  refine va_sld hx hb hX hbl hbA hS (vp_in_nI (n := (i + 2)) (N := L) (by omega) (by omega)) dL_law_888 ?_
  refine tz_i (xs (i + 2)) (congrArg xs (nI_clamp (by omega))) ?_
  have hPc := hP.sub (ws' := [(mo, .inr (12, [.ref nw, .ref kp, .ref ik, .ref mr, .long la_, .long lb_, .ref mw, .long lc_, .int ti_, .int cb_, .long ld_, .long le_, .ref mq, .ref mz, .ref my, .int sm_, .ref mb, .int (nI jb), .int ta_, .int tl_, .int tk_, .int vl_, .ref mx, .ref mv])), (nw, .inl (cn_, 350, .inl fn)), (mr, .inl (cr_, 3, .inl fr_))]) [123, 124, 127] rfl
  have hDc := hD.sub (ws' := [(mo, .inr (12, [.ref nw, .ref kp, .ref ik, .ref mr, .long la_, .long lb_, .ref mw, .long lc_, .int ti_, .int cb_, .long ld_, .long le_, .ref mq, .ref mz, .ref my, .int sm_, .ref mb, .int (nI jb), .int ta_, .int tl_, .int tk_, .int vl_, .ref mx, .ref mv])), (nw, .inl (cn_, 350, .inl fn)), (mr, .inl (cr_, 3, .inl fr_))]) [123, 124, 127] (by decide) rfl
  have hKc := hK.sub (tys' := [(cn_, .int), (cr_, .int)]) [61, 64] rfl
  have hFc := va_free (wc := [(mo, .inr (12, [.ref nw, .ref kp, .ref ik, .ref mr, .long la_, .long lb_, .ref mw, .long lc_, .int ti_, .int cb_, .long ld_, .long le_, .ref mq, .ref mz, .ref my, .int sm_, .ref mb, .int (nI jb), .int ta_, .int tl_, .int tk_, .int vl_, .ref mx, .ref mv])), (nw, .inl (cn_, 350, .inl fn)), (mr, .inl (cr_, 3, .inl fr_))]) hD hS hA [123, 124, 127] rfl
  refine va_calli (va_runV (As := [.int (xs (i + 1)), .int (xs (i + 2))]) (rest := []) ⟨hx, hb, hml, hown, hts⟩ (m_why l dC dI mo nw kp ik mr la_ lb_ mw lc_ ti_ cb_ ld_ le_ mq mz my sm_ mb (nI jb) ta_ tl_ tk_ vl_ mx mv cn_ fn cr_ fr_ (xs (i + 1)) (xs (i + 2)) H.size hO_n) (cwV 2 hts gL_law_X12_why rfl rfl rfl (by decide +kernel) ⟨Nat.le_of_ble_eq_true rfl, Nat.le_of_ble_eq_true rfl⟩) ⟨fun a U g mk q => by obtain ⟨q0, q1, qP, qK, qD⟩ := q; exact ⟨q0, q1, qP, va_K.moved (u := U) (U := U.calling g mk a) (Vm.Alike.refl U.vm) qK, qD⟩, va_recv hK hP (ci := 12) (q0 := 123) rfl rfl, fun U hU hW => ⟨rfl, by rw [hU], by rw [hU]; exact hPc, va_K.moved hW.alike hKc, hDc.weaken (fun _ _ _ _ => trivial)⟩⟩ rfl rfl hl.1 rfl (lv_room (Nat.le_of_ble_eq_true rfl)) dL_law_889 ⟨Nat.le_of_ble_eq_true rfl, Nat.le_of_ble_eq_true rfl⟩) hS (fun q _ h => hFc q h) hFc (fun r_4 u_ t H1 locs ht hvm hw_5 hB hz1 hk1 hS => ?_)
  obtain ⟨gr__6, hP1, hK1, hD1⟩ := hB
  rw [ht] at hP1
  have hK1 := va_K.moved hvm.symm hK1
  obtain ⟨hP, hD⟩ := tz_put (ws' := (tz_XW o aw ai ak sc rd fo tx ar at_ ao w0 w1 w2 w3 w4 w5 sw sh mo nw kp ik mr mw mq mz my mb mx mv ad ab ai0 ai1 cw cai ck csw csh ctx cr ct_ co_ cn_ ck_ ci_ cr_ cw_ cs_ cz_ cy_ cb2_ cx_ cv_ cd cb ci0 ci1 ty gr_3 fk fx ft_ fo_ fw fh la lb rt nl_ np_ nk_ ns_ nv_ ni_ nf_ ud zd fd ub zb fb ui0 zi0 fi0 ui1 zi1 fi1 la_ lb_ lc_ ti_ cb_ ld_ le_ sm_ jb ta_ tl_ tk_ vl_ fn fk_ fi_ gr__6 fw_ fs_ fz_ fb_ fy_ fx_ fv_)) hP hD [123, 124, 127] rfl hk1 hP1 rfl rfl rfl
  generalize H1 = H at hP hS ⊢
  refine lv_pop hx hb dL_law_892 rfl ?_
  refine lv_goto (tgt := 1153) hx hb dL_law_893 (by decide) ?_
  exact K H _ ls ⟨ty, gr_3, fk, fx, ft_, fo_, fw, fh, la, lb, rt, nl_, np_, nk_, ns_, nv_, ni_, nf_, ud, zd, fd, ub, zb, fb, ui0, zi0, fi0, ui1, zi1, fi1, la_, lb_, lc_, ti_, cb_, ld_, le_, sm_, jb, ta_, tl_, tk_, vl_, fn, fk_, fi_, gr__6, fw_, fs_, fz_, fb_, fy_, fx_, fv_, hB_d, hB_b, hB_i0, hB_i1, hO_n, hO_k, hO_x, hO_b, hP, hD⟩ hS hl
set_option maxRecDepth 20000 in
theorem gL_law_X11_look : GoodIn lw_tbl (wsV RL 122 RX11 yX11_look wsX11_look) := tz_good [(38, 12), (38, 13), (38, 14), (0, 2), (38, 15), (2, 8), (7, 4), (7, 5), (0, 2), (7, 6), (7, 11), (7, 12), (7, 13), (7, 14), (2, 6), (38, 16), (38, 17), (38, 18), (38, 19), (1, 10), (36, 14), (5, 21), (5, 22), (5, 23), (3, 4), (6, 0), (3, 15), (10, 8), (10, 9), (10, 10), (10, 11), (3, 22), (3, 21), (8, 8), (8, 9), (8, 10), (8, 11), (38, 20), (38, 21), (38, 22), (38, 23), (39, 0), (39, 1), (39, 2), (39, 3), (39, 4), (39, 5), (39, 6), (39, 7), (39, 8), (39, 9), (39, 10), (39, 11), (2, 1), (33, 15), (6, 9), (6, 10), (6, 11), (2, 0), (6, 12), (4, 22), (4, 23), (6, 13), (6, 14), (6, 15), (46, 0), (46, 1), (46, 2), (46, 3), (46, 4), (46, 5), (46, 6), (46, 7), (46, 8), (46, 9), (46, 10), (46, 11), (54, 0), (54, 1), (54, 2), (54, 3), (54, 4), (54, 5), (58, 0), (58, 1), (58, 2), (58, 3), (57, 0), (57, 1)] (by decide +kernel) (by decide +kernel)
set_option maxRecDepth 20000 in
theorem gL_law_X12_look : GoodIn lw_tbl (wsV RL 125 RX12 yX12_look wsX12_look) := tz_good [(39, 12), (39, 13), (39, 14), (0, 5), (39, 15), (39, 16), (39, 17), (5, 12), (5, 11), (8, 16), (38, 3), (38, 4), (0, 5), (38, 5), (38, 6), (38, 7), (8, 17), (8, 18), (8, 19), (8, 20), (8, 21), (8, 22), (8, 23), (5, 7), (39, 18), (39, 19), (39, 20), (39, 21), (5, 4), (5, 10), (38, 8), (38, 9), (38, 10), (38, 11), (39, 22), (39, 23), (40, 0), (40, 1), (40, 2), (40, 3), (40, 4), (40, 5), (40, 6), (40, 7), (40, 8), (40, 9), (31, 2), (31, 3), (31, 4), (31, 5), (31, 6), (5, 8), (47, 0), (47, 1), (47, 2), (47, 3), (47, 4), (47, 5), (47, 6), (47, 7), (47, 8), (47, 9), (47, 10), (47, 11), (47, 12), (47, 13), (47, 14), (47, 15), (47, 16), (47, 17), (47, 18), (47, 19), (47, 20), (47, 21), (47, 22), (47, 23)] (by decide +kernel) (by decide +kernel)
theorem dL_law_896 : decode cL_law 896 = .ok (.aload_n 1, 1) := by decide +kernel
theorem dL_law_897 : decode cL_law 897 = .ok (.aload_n 0, 1) := by decide +kernel
theorem dL_law_898 : decode cL_law 898 = .ok (.iload_n 3, 1) := by decide +kernel
theorem dL_law_899 : decode cL_law 899 = .ok (.iconst 1, 1) := by decide +kernel
theorem dL_law_900 : decode cL_law 900 = .ok (.iadd, 1) := by decide +kernel
theorem dL_law_901 : decode cL_law 901 = .ok (.iaload, 1) := by decide +kernel
theorem dL_law_902 : decode cL_law 902 = .ok (.aload_n 0, 1) := by decide +kernel
theorem dL_law_903 : decode cL_law 903 = .ok (.iload_n 3, 1) := by decide +kernel
theorem dL_law_904 : decode cL_law 904 = .ok (.iconst 2, 1) := by decide +kernel
theorem dL_law_905 : decode cL_law 905 = .ok (.iadd, 1) := by decide +kernel
theorem dL_law_906 : decode cL_law 906 = .ok (.iaload, 1) := by decide +kernel
theorem dL_law_907 : decode cL_law 907 = .ok (.invokevirtual 122, 3) := by decide +kernel
theorem dL_law_910 : decode cL_law 910 = .ok (.pop, 1) := by decide +kernel
theorem dL_law_911 : decode cL_law 911 = .ok (.aload_n 2, 1) := by decide +kernel
theorem dL_law_912 : decode cL_law 912 = .ok (.aload_n 0, 1) := by decide +kernel
theorem dL_law_913 : decode cL_law 913 = .ok (.iload_n 3, 1) := by decide +kernel
theorem dL_law_914 : decode cL_law 914 = .ok (.iconst 1, 1) := by decide +kernel
theorem dL_law_915 : decode cL_law 915 = .ok (.iadd, 1) := by decide +kernel
theorem dL_law_916 : decode cL_law 916 = .ok (.iaload, 1) := by decide +kernel
theorem dL_law_917 : decode cL_law 917 = .ok (.aload_n 0, 1) := by decide +kernel
theorem dL_law_918 : decode cL_law 918 = .ok (.iload_n 3, 1) := by decide +kernel
theorem dL_law_919 : decode cL_law 919 = .ok (.iconst 2, 1) := by decide +kernel
theorem dL_law_920 : decode cL_law 920 = .ok (.iadd, 1) := by decide +kernel
theorem dL_law_921 : decode cL_law 921 = .ok (.iaload, 1) := by decide +kernel
theorem dL_law_922 : decode cL_law 922 = .ok (.invokevirtual 125, 3) := by decide +kernel
theorem dL_law_925 : decode cL_law 925 = .ok (.pop, 1) := by decide +kernel
theorem dL_law_926 : decode cL_law 926 = .ok (.goto 227, 3) := by decide +kernel
set_option maxHeartbeats 8000000 in
set_option maxRecDepth 100000 in
theorem lc_look {p : Program} {l : Launch} {e : Env} {s : State} {m : MethodId} {below : List Frame} {meth : Method} {c : Code} {b L : Nat} {xs : Nat → Int32} (hL : L ≤ 3072) (C0 : lw_At p s m meth c b L xs) (hN : tz_N s) (A : Nat → Prop) (hA : ∀ q : Nat, s.heap.size ≤ q → A q) (hA2 : ∀ q : Nat, A q → s.heap.size ≤ q) (hbA : ¬ A b) (hV : tz_V A s s.heap) (dC : Nat → ClassId) (dI : Nat → Nat → Nat) (o : Nat) (aw : Nat) (ai : Nat) (ak : Nat) (sc : Nat) (rd : Nat) (fo : Nat) (tx : Nat) (ar : Nat) (at_ : Nat) (ao : Nat) (w0 : Nat) (w1 : Nat) (w2 : Nat) (w3 : Nat) (w4 : Nat) (w5 : Nat) (sw : Nat) (sh : Nat) (mo : Nat) (nw : Nat) (kp : Nat) (ik : Nat) (mr : Nat) (mw : Nat) (mq : Nat) (mz : Nat) (my : Nat) (mb : Nat) (mx : Nat) (mv : Nat) (ad : Nat → Nat) (ab : Nat → Nat) (ai0 : Nat → Nat) (ai1 : Nat → Nat) (cw : ClassId) (cai : ClassId) (ck : ClassId) (csw : ClassId) (csh : ClassId) (ctx : ClassId) (cr : ClassId) (ct_ : ClassId) (co_ : ClassId) (cn_ : ClassId) (ck_ : ClassId) (ci_ : ClassId) (cr_ : ClassId) (cw_ : ClassId) (cs_ : ClassId) (cz_ : ClassId) (cy_ : ClassId) (cb2_ : ClassId) (cx_ : ClassId) (cv_ : ClassId) (cd : Nat → ClassId) (cb : Nat → ClassId) (ci0 : Nat → ClassId) (ci1 : Nat → ClassId) (hK : va_K (dC, dI) vwCl (tz_T cw cai ck csw csh ctx cr ct_ co_ cn_ ck_ ci_ cr_ cw_ cs_ cz_ cy_ cb2_ cx_ cv_ cd cb ci0 ci1) s) (i : Nat) (hi : i + 6 ≤ L) (H : Heap) (locs : List Loc) (hI : tz_I dC dI o aw ai ak sc rd fo tx ar at_ ao w0 w1 w2 w3 w4 w5 sw sh mo nw kp ik mr mw mq mz my mb mx mv ad ab ai0 ai1 cw cai ck csw csh ctx cr ct_ co_ cn_ ck_ ci_ cr_ cw_ cs_ cz_ cy_ cb2_ cx_ cv_ cd cb ci0 ci1 A H) (hS : va_S A s.heap H locs) (ls : Array Slot) (hl : lv_has ls 4 [(3, .int (nI i)), (2, .ref mo), (1, .ref o), (0, .ref b)]) (K : ∀ (H : Heap) (locs : List Loc) (ls : Array Slot), tz_I dC dI o aw ai ak sc rd fo tx ar at_ ao w0 w1 w2 w3 w4 w5 sw sh mo nw kp ik mr mw mq mz my mb mx mv ad ab ai0 ai1 cw cai ck csw csh ctx cr ct_ co_ cn_ ck_ ci_ cr_ cw_ cs_ cz_ cy_ cb2_ cx_ cv_ cd cb ci0 ci1 A H → va_S A s.heap H locs → lv_has ls 4 [(3, .int (nI i)), (2, .ref mo), (1, .ref o), (0, .ref b)] → W p l e room_1 s m #[Value.ref b] below meth c H locs 136 3195 (lw_Z below #[Value.ref b] s) (F0 m 1153 ls [])) : W p l e room_1 s m #[Value.ref b] below meth c H locs 136 3195 (lw_Z below #[Value.ref b] s) (F0 m 896 ls []) := by
  obtain ⟨hx, hb, hr, hml, hown, hts, hX, hbl, hlocks, hgv⟩ := C0
  have hb : c.code = cL_law := hb
  have hown : s.vm.findClass RL = some m.cls := hown
  obtain ⟨ty, fr, fk, fx, ft_, fo_, fw, fh, la, lb, rt, nl_, np_, nk_, ns_, nv_, ni_, nf_, ud, zd, fd, ub, zb, fb, ui0, zi0, fi0, ui1, zi1, fi1, la_, lb_, lc_, ti_, cb_, ld_, le_, sm_, jb, ta_, tl_, tk_, vl_, fn, fk_, fi_, fr_, fw_, fs_, fz_, fb_, fy_, fx_, fv_, hB_d, hB_b, hB_i0, hB_i1, hO_n, hO_k, hO_x, hO_b, hP, hD⟩ := hI
  have hu_zd := hB_d.2
  have hu_zb := hB_b.2
  have hu_zi0 := hB_i0.2
  have hu_zi1 := hB_i1.2
  refine lv_aload_n hx hb dL_law_896 rfl (lv_at hl 2 rfl) ?_
  refine lv_aload_n hx hb dL_law_897 rfl (lv_at hl 3 rfl) ?_
  refine lv_iload_n hx hb dL_law_898 rfl (lv_at hl 0 rfl) ?_
  refine lv_iconst (v := 1) hx hb dL_law_899 (by decide) ?_
  refine lv_iadd hx hb dL_law_900 ?_
  refine tz_i (nI (i + 1)) (nI_add i 1) ?_
  refine va_sld hx hb hX hbl hbA hS (vp_in_nI (n := (i + 1)) (N := L) (by omega) (by omega)) dL_law_901 ?_
  refine tz_i (xs (i + 1)) (congrArg xs (nI_clamp (by omega))) ?_
  refine lv_aload_n hx hb dL_law_902 rfl (lv_at hl 3 rfl) ?_
  refine lv_iload_n hx hb dL_law_903 rfl (lv_at hl 0 rfl) ?_
  refine lv_iconst (v := 2) hx hb dL_law_904 (by decide) ?_
  refine lv_iadd hx hb dL_law_905 ?_
  refine tz_i (nI (i + 2)) (nI_add i 2) ?_
  refine va_sld hx hb hX hbl hbA hS (vp_in_nI (n := (i + 2)) (N := L) (by omega) (by omega)) dL_law_906 ?_
  refine tz_i (xs (i + 2)) (congrArg xs (nI_clamp (by omega))) ?_
  have hPc := hP.sub (ws' := [(o, .inr (11, [.ref aw, .ref (ab 0), .ref ai, .ref ak, .ref sc, .ref rd, .ref fo, .ref tx, .int ty, .ref ar, .ref at_, .ref ao])), (ar, .inl (cr, 3, .inl fr)), (ao, .inl (co_, 6, .inl fo_)), (fo, .inr (2, [.long la, .long lb])), ((ab 0), .inr (0, [.ref (ab 1), .ref (ab 3), .ref (ab 5), .ref (ab 7), .ref (ab 9), .int (nI ub)])), ((ab 7), .inr (6, [.int 4, .int 6, .ref (ab 8), .int (nI (zb 3))])), ((ab 8), .inl ((cb 3), 24, .inl (fb 3)))]) [0, 1, 6, 17, 45, 52, 53] rfl
  have hDc := hD.sub (ws' := [(o, .inr (11, [.ref aw, .ref (ab 0), .ref ai, .ref ak, .ref sc, .ref rd, .ref fo, .ref tx, .int ty, .ref ar, .ref at_, .ref ao])), (ar, .inl (cr, 3, .inl fr)), (ao, .inl (co_, 6, .inl fo_)), (fo, .inr (2, [.long la, .long lb])), ((ab 0), .inr (0, [.ref (ab 1), .ref (ab 3), .ref (ab 5), .ref (ab 7), .ref (ab 9), .int (nI ub)])), ((ab 7), .inr (6, [.int 4, .int 6, .ref (ab 8), .int (nI (zb 3))])), ((ab 8), .inl ((cb 3), 24, .inl (fb 3)))]) [0, 1, 6, 17, 45, 52, 53] (by decide) rfl
  have hKc := hK.sub (tys' := [(cr, .int), (co_, .int), ((cb 3), .int)]) [0, 5, 25] rfl
  have hFc := va_free (wc := [(o, .inr (11, [.ref aw, .ref (ab 0), .ref ai, .ref ak, .ref sc, .ref rd, .ref fo, .ref tx, .int ty, .ref ar, .ref at_, .ref ao])), (ar, .inl (cr, 3, .inl fr)), (ao, .inl (co_, 6, .inl fo_)), (fo, .inr (2, [.long la, .long lb])), ((ab 0), .inr (0, [.ref (ab 1), .ref (ab 3), .ref (ab 5), .ref (ab 7), .ref (ab 9), .int (nI ub)])), ((ab 7), .inr (6, [.int 4, .int 6, .ref (ab 8), .int (nI (zb 3))])), ((ab 8), .inl ((cb 3), 24, .inl (fb 3)))]) hD hS hA [0, 1, 6, 17, 45, 52, 53] rfl
  refine va_calli (va_runV (As := [.int (xs (i + 1)), .int (xs (i + 2))]) (rest := []) ⟨hx, hb, hml, hown, hts⟩ (x_look l dC dI o aw ab ai ak sc rd fo tx ty ar at_ ao cr fr co_ fo_ la lb ub zb cb fb (xs (i + 1)) (xs (i + 2)) H.size ⟨hB_b.1, show ub ≤ 8 by omega⟩) (cwV 2 hts gL_law_X11_look rfl rfl rfl (by decide +kernel) ⟨Nat.le_of_ble_eq_true rfl, Nat.le_of_ble_eq_true rfl⟩) ⟨fun a U g mk q => by obtain ⟨q0, q1, qP, qK, qD⟩ := q; exact ⟨q0, q1, qP, va_K.moved (u := U) (U := U.calling g mk a) (Vm.Alike.refl U.vm) qK, qD⟩, va_recv hK hP (ci := 11) (q0 := 0) rfl rfl, fun U hU hW => ⟨rfl, by rw [hU], by rw [hU]; exact hPc, va_K.moved hW.alike hKc, hDc.weaken (fun _ _ _ _ => trivial)⟩⟩ rfl rfl hl.1 rfl (lv_room (Nat.le_of_ble_eq_true rfl)) dL_law_907 ⟨Nat.le_of_ble_eq_true rfl, Nat.le_of_ble_eq_true rfl⟩) hS (fun q _ h => hFc q h) hFc (fun r_1 u_ t H1 locs ht hvm hw_2 hB hz1 hk1 hS => ?_)
  obtain ⟨gr_3, go__4, lg_5, lh_6, hP1, hK1, hD1⟩ := hB
  rw [ht] at hP1
  have hK1 := va_K.moved hvm.symm hK1
  obtain ⟨hP, hD⟩ := tz_put (ws' := (tz_XW o aw ai ak sc rd fo tx ar at_ ao w0 w1 w2 w3 w4 w5 sw sh mo nw kp ik mr mw mq mz my mb mx mv ad ab ai0 ai1 cw cai ck csw csh ctx cr ct_ co_ cn_ ck_ ci_ cr_ cw_ cs_ cz_ cy_ cb2_ cx_ cv_ cd cb ci0 ci1 ty gr_3 fk fx ft_ go__4 fw fh lg_5 lh_6 rt nl_ np_ nk_ ns_ nv_ ni_ nf_ ud zd fd ub zb fb ui0 zi0 fi0 ui1 zi1 fi1 la_ lb_ lc_ ti_ cb_ ld_ le_ sm_ jb ta_ tl_ tk_ vl_ fn fk_ fi_ fr_ fw_ fs_ fz_ fb_ fy_ fx_ fv_)) hP hD [0, 1, 6, 17, 45, 52, 53] rfl hk1 hP1 rfl rfl rfl
  generalize H1 = H at hP hS ⊢
  refine lv_pop hx hb dL_law_910 rfl ?_
  refine lv_aload_n hx hb dL_law_911 rfl (lv_at hl 1 rfl) ?_
  refine lv_aload_n hx hb dL_law_912 rfl (lv_at hl 3 rfl) ?_
  refine lv_iload_n hx hb dL_law_913 rfl (lv_at hl 0 rfl) ?_
  refine lv_iconst (v := 1) hx hb dL_law_914 (by decide) ?_
  refine lv_iadd hx hb dL_law_915 ?_
  refine tz_i (nI (i + 1)) (nI_add i 1) ?_
  refine va_sld hx hb hX hbl hbA hS (vp_in_nI (n := (i + 1)) (N := L) (by omega) (by omega)) dL_law_916 ?_
  refine tz_i (xs (i + 1)) (congrArg xs (nI_clamp (by omega))) ?_
  refine lv_aload_n hx hb dL_law_917 rfl (lv_at hl 3 rfl) ?_
  refine lv_iload_n hx hb dL_law_918 rfl (lv_at hl 0 rfl) ?_
  refine lv_iconst (v := 2) hx hb dL_law_919 (by decide) ?_
  refine lv_iadd hx hb dL_law_920 ?_
  refine tz_i (nI (i + 2)) (nI_add i 2) ?_
  refine va_sld hx hb hX hbl hbA hS (vp_in_nI (n := (i + 2)) (N := L) (by omega) (by omega)) dL_law_921 ?_
  refine tz_i (xs (i + 2)) (congrArg xs (nI_clamp (by omega))) ?_
  have hPc := hP.sub (ws' := [(mo, .inr (12, [.ref nw, .ref kp, .ref ik, .ref mr, .long la_, .long lb_, .ref mw, .long lc_, .int ti_, .int cb_, .long ld_, .long le_, .ref mq, .ref mz, .ref my, .int sm_, .ref mb, .int (nI jb), .int ta_, .int tl_, .int tk_, .int vl_, .ref mx, .ref mv])), (nw, .inl (cn_, 350, .inl fn)), (mq, .inl (cs_, 6, .inl fs_)), (mz, .inl (cz_, 6, .inl fz_)), (my, .inl (cy_, 6, .inl fb_)), (mr, .inl (cr_, 3, .inl fr_))]) [123, 124, 129, 130, 131, 127] rfl
  have hDc := hD.sub (ws' := [(mo, .inr (12, [.ref nw, .ref kp, .ref ik, .ref mr, .long la_, .long lb_, .ref mw, .long lc_, .int ti_, .int cb_, .long ld_, .long le_, .ref mq, .ref mz, .ref my, .int sm_, .ref mb, .int (nI jb), .int ta_, .int tl_, .int tk_, .int vl_, .ref mx, .ref mv])), (nw, .inl (cn_, 350, .inl fn)), (mq, .inl (cs_, 6, .inl fs_)), (mz, .inl (cz_, 6, .inl fz_)), (my, .inl (cy_, 6, .inl fb_)), (mr, .inl (cr_, 3, .inl fr_))]) [123, 124, 129, 130, 131, 127] (by decide) rfl
  have hKc := hK.sub (tys' := [(cn_, .int), (cs_, .int), (cz_, .int), (cy_, .int), (cr_, .int)]) [61, 66, 67, 68, 64] rfl
  have hFc := va_free (wc := [(mo, .inr (12, [.ref nw, .ref kp, .ref ik, .ref mr, .long la_, .long lb_, .ref mw, .long lc_, .int ti_, .int cb_, .long ld_, .long le_, .ref mq, .ref mz, .ref my, .int sm_, .ref mb, .int (nI jb), .int ta_, .int tl_, .int tk_, .int vl_, .ref mx, .ref mv])), (nw, .inl (cn_, 350, .inl fn)), (mq, .inl (cs_, 6, .inl fs_)), (mz, .inl (cz_, 6, .inl fz_)), (my, .inl (cy_, 6, .inl fb_)), (mr, .inl (cr_, 3, .inl fr_))]) hD hS hA [123, 124, 129, 130, 131, 127] rfl
  refine va_calli (va_runV (As := [.int (xs (i + 1)), .int (xs (i + 2))]) (rest := []) ⟨hx, hb, hml, hown, hts⟩ (m_look l dC dI mo nw kp ik mr la_ lb_ mw lc_ ti_ cb_ ld_ le_ mq mz my sm_ mb (nI jb) ta_ tl_ tk_ vl_ mx mv cn_ fn cs_ fs_ cz_ fz_ cy_ fb_ cr_ fr_ (xs (i + 1)) (xs (i + 2)) H.size hO_n) (cwV 2 hts gL_law_X12_look rfl rfl rfl (by decide +kernel) ⟨Nat.le_of_ble_eq_true rfl, Nat.le_of_ble_eq_true rfl⟩) ⟨fun a U g mk q => by obtain ⟨q0, q1, qP, qK, qD⟩ := q; exact ⟨q0, q1, qP, va_K.moved (u := U) (U := U.calling g mk a) (Vm.Alike.refl U.vm) qK, qD⟩, va_recv hK hP (ci := 12) (q0 := 123) rfl rfl, fun U hU hW => ⟨rfl, by rw [hU], by rw [hU]; exact hPc, va_K.moved hW.alike hKc, hDc.weaken (fun _ _ _ _ => trivial)⟩⟩ rfl rfl hl.1 rfl (lv_room (Nat.le_of_ble_eq_true rfl)) dL_law_922 ⟨Nat.le_of_ble_eq_true rfl, Nat.le_of_ble_eq_true rfl⟩) hS (fun q _ h => hFc q h) hFc (fun r_7 u_ t H1 locs ht hvm hw_8 hB hz1 hk1 hS => ?_)
  obtain ⟨h_above_9, h_below_10, gs__11, gz__12, gb__13, gr__14, sg__15, hP1, hK1, hD1⟩ := hB
  rw [ht] at hP1
  have hK1 := va_K.moved hvm.symm hK1
  obtain ⟨hP, hD⟩ := tz_put (ws' := (tz_XW o aw ai ak sc rd fo tx ar at_ ao w0 w1 w2 w3 w4 w5 sw sh mo nw kp ik mr mw mq mz my mb mx mv ad ab ai0 ai1 cw cai ck csw csh ctx cr ct_ co_ cn_ ck_ ci_ cr_ cw_ cs_ cz_ cy_ cb2_ cx_ cv_ cd cb ci0 ci1 ty gr_3 fk fx ft_ go__4 fw fh lg_5 lh_6 rt nl_ np_ nk_ ns_ nv_ ni_ nf_ ud zd fd ub zb fb ui0 zi0 fi0 ui1 zi1 fi1 h_above_9 h_below_10 lc_ ti_ cb_ ld_ le_ sg__15 jb ta_ tl_ tk_ vl_ fn fk_ fi_ gr__14 fw_ gs__11 gz__12 gb__13 fy_ fx_ fv_)) hP hD [123, 124, 129, 130, 131, 127] rfl hk1 hP1 rfl rfl rfl
  generalize H1 = H at hP hS ⊢
  refine lv_pop hx hb dL_law_925 rfl ?_
  refine lv_goto (tgt := 1153) hx hb dL_law_926 (by decide) ?_
  exact K H _ ls ⟨ty, gr_3, fk, fx, ft_, go__4, fw, fh, lg_5, lh_6, rt, nl_, np_, nk_, ns_, nv_, ni_, nf_, ud, zd, fd, ub, zb, fb, ui0, zi0, fi0, ui1, zi1, fi1, h_above_9, h_below_10, lc_, ti_, cb_, ld_, le_, sg__15, jb, ta_, tl_, tk_, vl_, fn, fk_, fi_, gr__14, fw_, gs__11, gz__12, gb__13, fy_, fx_, fv_, hB_d, hB_b, hB_i0, hB_i1, hO_n, hO_k, hO_x, hO_b, hP, hD⟩ hS hl
