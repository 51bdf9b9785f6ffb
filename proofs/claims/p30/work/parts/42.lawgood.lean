def tz_ch (i : Nat) : List Cond := match i with
  | 0 => wsL_law_r1
  | 1 => wsL_law_r2
  | 2 => wsL_law_r3
  | 3 => wsL_law_r4
  | 4 => wsL_law_r5
  | 5 => wsL_law_r6
  | 6 => wsL_law_r7
  | 7 => wsL_law_r8
  | 8 => wsL_law_r9
  | 9 => wsL_law_r10
  | 10 => wsL_law_r11
  | 11 => wsL_law_r12
  | 12 => wsL_law_r13
  | 13 => wsL_law_r14
  | 14 => wsL_law_r15
  | 15 => wsL_law_r16
  | 16 => wsL_law_r17
  | 17 => wsL_law_r18
  | 18 => wsL_law_r19
  | 19 => wsL_law_r20
  | 20 => wsL_law_r21
  | 21 => wsL_law_r22
  | 22 => wsL_law_r23
  | 23 => wsL_law_r24
  | 24 => wsL_law_r25
  | 25 => wsL_law_r26
  | 26 => wsL_law_r27
  | 27 => wsL_law_r28
  | 28 => wsL_law_r29
  | 29 => wsL_law_r30
  | 30 => wsL_law_r31
  | 31 => wsL_law_r32
  | 32 => wsL_law_r33
  | 33 => wsL_law_r34
  | 34 => wsL_law_r35
  | 35 => wsL_law_r36
  | 36 => wsL_law_r37
  | 37 => wsL_law_r38
  | 38 => wsL_law_r39
  | 39 => wsL_law_r40
  | 40 => wsL_law_r41
  | 41 => wsL_law_r42
  | 42 => wsL_law_r43
  | 43 => wsL_law_r44
  | 44 => wsL_law_r45
  | 45 => wsL_law_r46
  | 46 => wsX110
  | 47 => wsX120
  | 48 => wsX40
  | 49 => wsX10
  | 50 => wsX100
  | 51 => wsX30
  | 52 => wsX90
  | 53 => wsX80
  | 54 => wsX00
  | 55 => wsX70
  | 56 => wsX50
  | 57 => wsX20
  | 58 => wsX60
  | _ => []
theorem tz_ch_in (i : Nat) : ∀ w ∈ tz_ch i, w ∈ lw_tbl := match i with
  | 0 => tm_wsL_law_r1
  | 1 => tm_wsL_law_r2
  | 2 => tm_wsL_law_r3
  | 3 => tm_wsL_law_r4
  | 4 => tm_wsL_law_r5
  | 5 => tm_wsL_law_r6
  | 6 => tm_wsL_law_r7
  | 7 => tm_wsL_law_r8
  | 8 => tm_wsL_law_r9
  | 9 => tm_wsL_law_r10
  | 10 => tm_wsL_law_r11
  | 11 => tm_wsL_law_r12
  | 12 => tm_wsL_law_r13
  | 13 => tm_wsL_law_r14
  | 14 => tm_wsL_law_r15
  | 15 => tm_wsL_law_r16
  | 16 => tm_wsL_law_r17
  | 17 => tm_wsL_law_r18
  | 18 => tm_wsL_law_r19
  | 19 => tm_wsL_law_r20
  | 20 => tm_wsL_law_r21
  | 21 => tm_wsL_law_r22
  | 22 => tm_wsL_law_r23
  | 23 => tm_wsL_law_r24
  | 24 => tm_wsL_law_r25
  | 25 => tm_wsL_law_r26
  | 26 => tm_wsL_law_r27
  | 27 => tm_wsL_law_r28
  | 28 => tm_wsL_law_r29
  | 29 => tm_wsL_law_r30
  | 30 => tm_wsL_law_r31
  | 31 => tm_wsL_law_r32
  | 32 => tm_wsL_law_r33
  | 33 => tm_wsL_law_r34
  | 34 => tm_wsL_law_r35
  | 35 => tm_wsL_law_r36
  | 36 => tm_wsL_law_r37
  | 37 => tm_wsL_law_r38
  | 38 => tm_wsL_law_r39
  | 39 => tm_wsL_law_r40
  | 40 => tm_wsL_law_r41
  | 41 => tm_wsL_law_r42
  | 42 => tm_wsL_law_r43
  | 43 => tm_wsL_law_r44
  | 44 => tm_wsL_law_r45
  | 45 => tm_wsL_law_r46
  | 46 => tm_wsX110
  | 47 => tm_wsX120
  | 48 => tm_wsX40
  | 49 => tm_wsX10
  | 50 => tm_wsX100
  | 51 => tm_wsX30
  | 52 => tm_wsX90
  | 53 => tm_wsX80
  | 54 => tm_wsX00
  | 55 => tm_wsX70
  | 56 => tm_wsX50
  | 57 => tm_wsX20
  | 58 => tm_wsX60
  | _ + 59 => fun _ h => absurd h List.not_mem_nil
theorem tz_good {ws : List Cond} (ps : List (Nat × Nat)) (hp : ws = ps.filterMap (fun q => (tz_ch q.1)[q.2]?)) (h : ws.all goodWord = true) : GoodIn lw_tbl ws := by
  intro w hw
  have h1 := List.all_eq_true.mp h w hw
  rw [hp] at hw
  obtain ⟨i, -, hi⟩ := List.mem_filterMap.mp hw
  exact ⟨tz_ch_in i.1 w (List.mem_of_getElem? hi), good_of_word h1⟩
/-- a world of many cells behind a call: what came back stands in its own places, the rest is as it was -/
theorem tz_put {A0 : Nat → Prop} {D : va_G} {cl : List vw_C} {ws wc w1 ws' : va_W} {H H1 : Heap} (hP : va_P D cl ws H) (hD : va_D A0 ws) (isC : List Nat) (hC : isC.map (fun i => ws[i]?) = wc.map some) (hk : ∀ q : Nat, q < H.size → ¬ va_A wc H.size q → H1[q]? = H[q]?) (hP1 : va_P D cl w1 H1) (h1 : isC.map (fun i => ws'[i]?) = w1.map some) (isR : List Nat) {wr : va_W} (hR : isR.map (fun i => ws[i]?) = wr.map some) (hR' : isR.map (fun i => ws'[i]?) = wr.map some) {n : Nat} (hn : ws.length = n) (hn' : ws'.length = n) (hcov : (List.range n).all (fun k => isC.contains k || isR.contains k) = true) (hf : ws'.map Prod.fst = ws.map Prod.fst) : va_P D cl ws' H1 ∧ va_D A0 ws' := by
  have fst' : ∀ (k : Nat) (q : Nat × va_E), ws'[k]? = some q → ∃ q0 : Nat × va_E, ws[k]? = some q0 ∧ q0.1 = q.1 := by
    intro k q hq
    have h2 : (ws'.map Prod.fst)[k]? = some q.1 := by rw [List.getElem?_map, hq]; rfl
    rw [hf, List.getElem?_map] at h2
    cases hw : ws[k]? with
    | none => rw [hw] at h2; cases h2
    | some z => rw [hw] at h2; exact ⟨z, rfl, Option.some.inj h2⟩
  have same : ∀ k : Nat, ¬ k ∈ isC → ws'[k]? = ws[k]? := by
    intro k hk'
    by_cases hlt : k < n
    · have h2 := List.all_eq_true.mp hcov k (List.mem_range.mpr hlt)
      have h3 : k ∈ isR := by
        rcases Bool.or_eq_true _ _ ▸ h2 with h | h
        · exact absurd (List.contains_iff_mem.mp h) hk'
        · exact List.contains_iff_mem.mp h
      obtain ⟨j, hj⟩ := List.getElem?_of_mem h3
      have h4 : (isR.map (fun i => ws[i]?))[j]? = some (ws[k]?) := by rw [List.getElem?_map, hj]; rfl
      have h5 : (isR.map (fun i => ws'[i]?))[j]? = some (ws'[k]?) := by rw [List.getElem?_map, hj]; rfl
      rw [hR] at h4
      rw [hR', h4] at h5
      exact (Option.some.inj h5).symm
    · rw [List.getElem?_eq_none (by omega), List.getElem?_eq_none (by omega)]
  refine ⟨fun k q hq => ?_, fun i j p q hp hq e => ?_, fun k q hq => ?_⟩
  · by_cases hk' : k ∈ isC
    · obtain ⟨j, hj⟩ := List.getElem?_of_mem hk'
      have h2 : (isC.map (fun i => ws'[i]?))[j]? = some (some q) := by rw [List.getElem?_map, hj]; exact congrArg some hq
      rw [h1, List.getElem?_map] at h2
      cases hw : w1[j]? with
      | none => rw [hw] at h2; cases h2
      | some z =>
        rw [hw] at h2
        have e : z = q := Option.some.inj (Option.some.inj h2)
        exact hP1 j q (by rw [hw, e])
    · have hw : ws[k]? = some q := by
        rw [← same k hk']
        exact hq
      have hl := (hP k q hw).lt
      refine (hP k q hw).kept (hk q.1 hl (fun h => ?_))
      rcases h with ⟨k2, e, h⟩ | h
      · have h3 : (isC.map (fun i => ws[i]?))[k2]? = some (some (q.1, e)) := by rw [hC, List.getElem?_map, h]; rfl
        rw [List.getElem?_map] at h3
        cases hi : isC[k2]? with
        | none => rw [hi] at h3; cases h3
        | some i =>
          rw [hi] at h3
          have hij := hD.1 k i q (q.1, e) hw (Option.some.inj h3) rfl
          exact hk' (by rw [hij]; exact List.mem_of_getElem? hi)
      · omega
  · obtain ⟨p0, a1, a2⟩ := fst' i p hp
    obtain ⟨q0, b1, b2⟩ := fst' j q hq
    exact hD.1 i j p0 q0 a1 b1 (by rw [a2, b2, e])
  · obtain ⟨q0, a1, a2⟩ := fst' k q hq
    rw [← a2]
    exact hD.2 k q0 a1
def tz_XW (o : Nat) (aw : Nat) (ai : Nat) (ak : Nat) (sc : Nat) (rd : Nat) (fo : Nat) (tx : Nat) (ar : Nat) (at_ : Nat) (ao : Nat) (w0 : Nat) (w1 : Nat) (w2 : Nat) (w3 : Nat) (w4 : Nat) (w5 : Nat) (sw : Nat) (sh : Nat) (mo : Nat) (nw : Nat) (kp : Nat) (ik : Nat) (mr : Nat) (mw : Nat) (mq : Nat) (mz : Nat) (my : Nat) (mb : Nat) (mx : Nat) (mv : Nat) (ad : Nat → Nat) (ab : Nat → Nat) (ai0 : Nat → Nat) (ai1 : Nat → Nat) (cw : ClassId) (cai : ClassId) (ck : ClassId) (csw : ClassId) (csh : ClassId) (ctx : ClassId) (cr : ClassId) (ct_ : ClassId) (co_ : ClassId) (cn_ : ClassId) (ck_ : ClassId) (ci_ : ClassId) (cr_ : ClassId) (cw_ : ClassId) (cs_ : ClassId) (cz_ : ClassId) (cy_ : ClassId) (cb2_ : ClassId) (cx_ : ClassId) (cv_ : ClassId) (cd : Nat → ClassId) (cb : Nat → ClassId) (ci0 : Nat → ClassId) (ci1 : Nat → ClassId) (ty : Int32) (fr : Nat → Int32) (fk : Nat → Int32) (fx : Nat → Int32) (ft_ : Nat → Int32) (fo_ : Nat → Int32) (fw : Nat → Int64) (fh : Nat → Int32) (la : Int64) (lb : Int64) (rt : Value) (nl_ : Int32) (np_ : Int32) (nk_ : Int32) (ns_ : Int32) (nv_ : Int32) (ni_ : Int32) (nf_ : Int32) (ud : Nat) (zd : Nat → Nat) (fd : Nat → Nat → Int32) (ub : Nat) (zb : Nat → Nat) (fb : Nat → Nat → Int32) (ui0 : Nat) (zi0 : Nat → Nat) (fi0 : Nat → Nat → Int32) (ui1 : Nat) (zi1 : Nat → Nat) (fi1 : Nat → Nat → Int32) (la_ : Int64) (lb_ : Int64) (lc_ : Int64) (ti_ : Int32) (cb_ : Int32) (ld_ : Int64) (le_ : Int64) (sm_ : Int32) (jb : Nat) (ta_ : Int32) (tl_ : Int32) (tk_ : Int32) (vl_ : Int32) (fn : Nat → Int32) (fk_ : Nat → Int32) (fi_ : Nat → Int32) (fr_ : Nat → Int32) (fw_ : Nat → Int64) (fs_ : Nat → Int32) (fz_ : Nat → Int32) (fb_ : Nat → Int32) (fy_ : Nat → Int32) (fx_ : Nat → Int32) (fv_ : Nat → Int32) : va_W := [(o, .inr (11, [.ref aw, .ref (ab 0), .ref ai, .ref ak, .ref sc, .ref rd, .ref fo, .ref tx, .int ty, .ref ar, .ref at_, .ref ao])), (ar, .inl (cr, 3, .inl fr)), (ak, .inl (ck, 2, .inl fk)), (tx, .inl (ctx, 150, .inl fx)), (ai, .inl (cai, 2, .inr (.inr (.inr (.inr (tz_w2 (ai0 0) (ai1 0))))))), (at_, .inl (ct_, 5, .inl ft_)), (ao, .inl (co_, 6, .inl fo_)), (aw, .inl (cw, 6, .inr (.inr (.inr (.inr (tz_w w0 w1 w2 w3 w4 w5)))))), (w0, .inr (4, [])), (w1, .inr (1, [])), (w2, .inr (10, [])), (w3, .inr (3, [])), (w4, .inr (9, [])), (w5, .inr (8, [])), (sc, .inr (7, [.ref sw, .ref sh])), (sw, .inl (csw, 21, .inr (.inl fw))), (sh, .inl (csh, 21, .inl fh)), (fo, .inr (2, [.long la, .long lb])), (rd, .inr (5, [.ref (ad 0), rt, .int nl_, .int np_, .int nk_, .int ns_, .int nv_, .int ni_, .int nf_])), ((ad 0), .inr (0, [.ref (ad 1), .ref (ad 3), .ref (ad 5), .ref (ad 7), .ref (ad 9), .int (nI ud)])), ((ad 1), .inr (6, [.int 1, .int 5, .ref (ad 2), .int (nI (zd 0))])), ((ad 2), .inl ((cd 0), 5, .inl (fd 0))), ((ad 3), .inr (6, [.int 4, .int 5, .ref (ad 4), .int (nI (zd 1))])), ((ad 4), .inl ((cd 1), 20, .inl (fd 1))), ((ad 5), .inr (6, [.int 4, .int 8, .ref (ad 6), .int (nI (zd 2))])), ((ad 6), .inl ((cd 2), 32, .inl (fd 2))), ((ad 7), .inr (6, [.int 4, .int 6, .ref (ad 8), .int (nI (zd 3))])), ((ad 8), .inl ((cd 3), 24, .inl (fd 3))), ((ad 9), .inl ((cd 12), 8, .inr (.inr (.inr (.inr (tz_ear ad)))))), ((ad 10), .inr (6, [.int 4, .int 8, .ref (ad 11), .int (nI (zd 4))])), ((ad 11), .inl ((cd 4), 32, .inl (fd 4))), ((ad 12), .inr (6, [.int 4, .int 8, .ref (ad 13), .int (nI (zd 5))])), ((ad 13), .inl ((cd 5), 32, .inl (fd 5))), ((ad 14), .inr (6, [.int 4, .int 8, .ref (ad 15), .int (nI (zd 6))])), ((ad 15), .inl ((cd 6), 32, .inl (fd 6))), ((ad 16), .inr (6, [.int 4, .int 8, .ref (ad 17), .int (nI (zd 7))])), ((ad 17), .inl ((cd 7), 32, .inl (fd 7))), ((ad 18), .inr (6, [.int 4, .int 8, .ref (ad 19), .int (nI (zd 8))])), ((ad 19), .inl ((cd 8), 32, .inl (fd 8))), ((ad 20), .inr (6, [.int 4, .int 8, .ref (ad 21), .int (nI (zd 9))])), ((ad 21), .inl ((cd 9), 32, .inl (fd 9))), ((ad 22), .inr (6, [.int 4, .int 8, .ref (ad 23), .int (nI (zd 10))])), ((ad 23), .inl ((cd 10), 32, .inl (fd 10))), ((ad 24), .inr (6, [.int 4, .int 8, .ref (ad 25), .int (nI (zd 11))])), ((ad 25), .inl ((cd 11), 32, .inl (fd 11))), ((ab 0), .inr (0, [.ref (ab 1), .ref (ab 3), .ref (ab 5), .ref (ab 7), .ref (ab 9), .int (nI ub)])), ((ab 1), .inr (6, [.int 1, .int 5, .ref (ab 2), .int (nI (zb 0))])), ((ab 2), .inl ((cb 0), 5, .inl (fb 0))), ((ab 3), .inr (6, [.int 4, .int 5, .ref (ab 4), .int (nI (zb 1))])), ((ab 4), .inl ((cb 1), 20, .inl (fb 1))), ((ab 5), .inr (6, [.int 4, .int 8, .ref (ab 6), .int (nI (zb 2))])), ((ab 6), .inl ((cb 2), 32, .inl (fb 2))), ((ab 7), .inr (6, [.int 4, .int 6, .ref (ab 8), .int (nI (zb 3))])), ((ab 8), .inl ((cb 3), 24, .inl (fb 3))), ((ab 9), .inl ((cb 12), 8, .inr (.inr (.inr (.inr (tz_ear ab)))))), ((ab 10), .inr (6, [.int 4, .int 8, .ref (ab 11), .int (nI (zb 4))])), ((ab 11), .inl ((cb 4), 32, .inl (fb 4))), ((ab 12), .inr (6, [.int 4, .int 8, .ref (ab 13), .int (nI (zb 5))])), ((ab 13), .inl ((cb 5), 32, .inl (fb 5))), ((ab 14), .inr (6, [.int 4, .int 8, .ref (ab 15), .int (nI (zb 6))])), ((ab 15), .inl ((cb 6), 32, .inl (fb 6))), ((ab 16), .inr (6, [.int 4, .int 8, .ref (ab 17), .int (nI (zb 7))])), ((ab 17), .inl ((cb 7), 32, .inl (fb 7))), ((ab 18), .inr (6, [.int 4, .int 8, .ref (ab 19), .int (nI (zb 8))])), ((ab 19), .inl ((cb 8), 32, .inl (fb 8))), ((ab 20), .inr (6, [.int 4, .int 8, .ref (ab 21), .int (nI (zb 9))])), ((ab 21), .inl ((cb 9), 32, .inl (fb 9))), ((ab 22), .inr (6, [.int 4, .int 8, .ref (ab 23), .int (nI (zb 10))])), ((ab 23), .inl ((cb 10), 32, .inl (fb 10))), ((ab 24), .inr (6, [.int 4, .int 8, .ref (ab 25), .int (nI (zb 11))])), ((ab 25), .inl ((cb 11), 32, .inl (fb 11))), ((ai0 0), .inr (0, [.ref (ai0 1), .ref (ai0 3), .ref (ai0 5), .ref (ai0 7), .ref (ai0 9), .int (nI ui0)])), ((ai0 1), .inr (6, [.int 1, .int 5, .ref (ai0 2), .int (nI (zi0 0))])), ((ai0 2), .inl ((ci0 0), 5, .inl (fi0 0))), ((ai0 3), .inr (6, [.int 4, .int 5, .ref (ai0 4), .int (nI (zi0 1))])), ((ai0 4), .inl ((ci0 1), 20, .inl (fi0 1))), ((ai0 5), .inr (6, [.int 4, .int 8, .ref (ai0 6), .int (nI (zi0 2))])), ((ai0 6), .inl ((ci0 2), 32, .inl (fi0 2))), ((ai0 7), .inr (6, [.int 4, .int 6, .ref (ai0 8), .int (nI (zi0 3))])), ((ai0 8), .inl ((ci0 3), 24, .inl (fi0 3))), ((ai0 9), .inl ((ci0 12), 8, .inr (.inr (.inr (.inr (tz_ear ai0)))))), ((ai0 10), .inr (6, [.int 4, .int 8, .ref (ai0 11), .int (nI (zi0 4))])), ((ai0 11), .inl ((ci0 4), 32, .inl (fi0 4))), ((ai0 12), .inr (6, [.int 4, .int 8, .ref (ai0 13), .int (nI (zi0 5))])), ((ai0 13), .inl ((ci0 5), 32, .inl (fi0 5))), ((ai0 14), .inr (6, [.int 4, .int 8, .ref (ai0 15), .int (nI (zi0 6))])), ((ai0 15), .inl ((ci0 6), 32, .inl (fi0 6))), ((ai0 16), .inr (6, [.int 4, .int 8, .ref (ai0 17), .int (nI (zi0 7))])), ((ai0 17), .inl ((ci0 7), 32, .inl (fi0 7))), ((ai0 18), .inr (6, [.int 4, .int 8, .ref (ai0 19), .int (nI (zi0 8))])), ((ai0 19), .inl ((ci0 8), 32, .inl (fi0 8))), ((ai0 20), .inr (6, [.int 4, .int 8, .ref (ai0 21), .int (nI (zi0 9))])), ((ai0 21), .inl ((ci0 9), 32, .inl (fi0 9))), ((ai0 22), .inr (6, [.int 4, .int 8, .ref (ai0 23), .int (nI (zi0 10))])), ((ai0 23), .inl ((ci0 10), 32, .inl (fi0 10))), ((ai0 24), .inr (6, [.int 4, .int 8, .ref (ai0 25), .int (nI (zi0 11))])), ((ai0 25), .inl ((ci0 11), 32, .inl (fi0 11))), ((ai1 0), .inr (0, [.ref (ai1 1), .ref (ai1 3), .ref (ai1 5), .ref (ai1 7), .ref (ai1 9), .int (nI ui1)])), ((ai1 1), .inr (6, [.int 1, .int 5, .ref (ai1 2), .int (nI (zi1 0))])), ((ai1 2), .inl ((ci1 0), 5, .inl (fi1 0))), ((ai1 3), .inr (6, [.int 4, .int 5, .ref (ai1 4), .int (nI (zi1 1))])), ((ai1 4), .inl ((ci1 1), 20, .inl (fi1 1))), ((ai1 5), .inr (6, [.int 4, .int 8, .ref (ai1 6), .int (nI (zi1 2))])), ((ai1 6), .inl ((ci1 2), 32, .inl (fi1 2))), ((ai1 7), .inr (6, [.int 4, .int 6, .ref (ai1 8), .int (nI (zi1 3))])), ((ai1 8), .inl ((ci1 3), 24, .inl (fi1 3))), ((ai1 9), .inl ((ci1 12), 8, .inr (.inr (.inr (.inr (tz_ear ai1)))))), ((ai1 10), .inr (6, [.int 4, .int 8, .ref (ai1 11), .int (nI (zi1 4))])), ((ai1 11), .inl ((ci1 4), 32, .inl (fi1 4))), ((ai1 12), .inr (6, [.int 4, .int 8, .ref (ai1 13), .int (nI (zi1 5))])), ((ai1 13), .inl ((ci1 5), 32, .inl (fi1 5))), ((ai1 14), .inr (6, [.int 4, .int 8, .ref (ai1 15), .int (nI (zi1 6))])), ((ai1 15), .inl ((ci1 6), 32, .inl (fi1 6))), ((ai1 16), .inr (6, [.int 4, .int 8, .ref (ai1 17), .int (nI (zi1 7))])), ((ai1 17), .inl ((ci1 7), 32, .inl (fi1 7))), ((ai1 18), .inr (6, [.int 4, .int 8, .ref (ai1 19), .int (nI (zi1 8))])), ((ai1 19), .inl ((ci1 8), 32, .inl (fi1 8))), ((ai1 20), .inr (6, [.int 4, .int 8, .ref (ai1 21), .int (nI (zi1 9))])), ((ai1 21), .inl ((ci1 9), 32, .inl (fi1 9))), ((ai1 22), .inr (6, [.int 4, .int 8, .ref (ai1 23), .int (nI (zi1 10))])), ((ai1 23), .inl ((ci1 10), 32, .inl (fi1 10))), ((ai1 24), .inr (6, [.int 4, .int 8, .ref (ai1 25), .int (nI (zi1 11))])), ((ai1 25), .inl ((ci1 11), 32, .inl (fi1 11))), (mo, .inr (12, [.ref nw, .ref kp, .ref ik, .ref mr, .long la_, .long lb_, .ref mw, .long lc_, .int ti_, .int cb_, .long ld_, .long le_, .ref mq, .ref mz, .ref my, .int sm_, .ref mb, .int (nI jb), .int ta_, .int tl_, .int tk_, .int vl_, .ref mx, .ref mv])), (nw, .inl (cn_, 350, .inl fn)), (kp, .inl (ck_, 700, .inl fk_)), (ik, .inl (ci_, 2, .inl fi_)), (mr, .inl (cr_, 3, .inl fr_)), (mw, .inl (cw_, 21, .inr (.inl fw_))), (mq, .inl (cs_, 6, .inl fs_)), (mz, .inl (cz_, 6, .inl fz_)), (my, .inl (cy_, 6, .inl fb_)), (mb, .inl (cb2_, 150, .inl fy_)), (mx, .inl (cx_, 86, .inl fx_)), (mv, .inl (cv_, 4, .inl fv_))]
def tz_I (dC : Nat → ClassId) (dI : Nat → Nat → Nat) (o : Nat) (aw : Nat) (ai : Nat) (ak : Nat) (sc : Nat) (rd : Nat) (fo : Nat) (tx : Nat) (ar : Nat) (at_ : Nat) (ao : Nat) (w0 : Nat) (w1 : Nat) (w2 : Nat) (w3 : Nat) (w4 : Nat) (w5 : Nat) (sw : Nat) (sh : Nat) (mo : Nat) (nw : Nat) (kp : Nat) (ik : Nat) (mr : Nat) (mw : Nat) (mq : Nat) (mz : Nat) (my : Nat) (mb : Nat) (mx : Nat) (mv : Nat) (ad : Nat → Nat) (ab : Nat → Nat) (ai0 : Nat → Nat) (ai1 : Nat → Nat) (cw : ClassId) (cai : ClassId) (ck : ClassId) (csw : ClassId) (csh : ClassId) (ctx : ClassId) (cr : ClassId) (ct_ : ClassId) (co_ : ClassId) (cn_ : ClassId) (ck_ : ClassId) (ci_ : ClassId) (cr_ : ClassId) (cw_ : ClassId) (cs_ : ClassId) (cz_ : ClassId) (cy_ : ClassId) (cb2_ : ClassId) (cx_ : ClassId) (cv_ : ClassId) (cd : Nat → ClassId) (cb : Nat → ClassId) (ci0 : Nat → ClassId) (ci1 : Nat → ClassId) (A : Nat → Prop) (H : Heap) : Prop := ∃ (ty : Int32) (fr : Nat → Int32) (fk : Nat → Int32) (fx : Nat → Int32) (ft_ : Nat → Int32) (fo_ : Nat → Int32) (fw : Nat → Int64) (fh : Nat → Int32) (la : Int64) (lb : Int64) (rt : Value) (nl_ : Int32) (np_ : Int32) (nk_ : Int32) (ns_ : Int32) (nv_ : Int32) (ni_ : Int32) (nf_ : Int32) (ud : Nat) (zd : Nat → Nat) (fd : Nat → Nat → Int32) (ub : Nat) (zb : Nat → Nat) (fb : Nat → Nat → Int32) (ui0 : Nat) (zi0 : Nat → Nat) (fi0 : Nat → Nat → Int32) (ui1 : Nat) (zi1 : Nat → Nat) (fi1 : Nat → Nat → Int32) (la_ : Int64) (lb_ : Int64) (lc_ : Int64) (ti_ : Int32) (cb_ : Int32) (ld_ : Int64) (le_ : Int64) (sm_ : Int32) (jb : Nat) (ta_ : Int32) (tl_ : Int32) (tk_ : Int32) (vl_ : Int32) (fn : Nat → Int32) (fk_ : Nat → Int32) (fi_ : Nat → Int32) (fr_ : Nat → Int32) (fw_ : Nat → Int64) (fs_ : Nat → Int32) (fz_ : Nat → Int32) (fb_ : Nat → Int32) (fy_ : Nat → Int32) (fx_ : Nat → Int32) (fv_ : Nat → Int32), ((∀ i, zd i ≤ tz_lim i) ∧ ud ≤ 8) ∧ ((∀ i, zb i ≤ tz_lim i) ∧ ub ≤ 8) ∧ ((∀ i, zi0 i ≤ tz_lim i) ∧ ui0 ≤ 8) ∧ ((∀ i, zi1 i ≤ tz_lim i) ∧ ui1 ≤ 8) ∧ (tz_OK 350 fn) ∧ (tz_KO fk_) ∧ (tz_OK 86 fx_) ∧ (jb ≤ 150) ∧ va_P (dC, dI) vwCl (tz_XW o aw ai ak sc rd fo tx ar at_ ao w0 w1 w2 w3 w4 w5 sw sh mo nw kp ik mr mw mq mz my mb mx mv ad ab ai0 ai1 cw cai ck csw csh ctx cr ct_ co_ cn_ ck_ ci_ cr_ cw_ cs_ cz_ cy_ cb2_ cx_ cv_ cd cb ci0 ci1 ty fr fk fx ft_ fo_ fw fh la lb rt nl_ np_ nk_ ns_ nv_ ni_ nf_ ud zd fd ub zb fb ui0 zi0 fi0 ui1 zi1 fi1 la_ lb_ lc_ ti_ cb_ ld_ le_ sm_ jb ta_ tl_ tk_ vl_ fn fk_ fi_ fr_ fw_ fs_ fz_ fb_ fy_ fx_ fv_) H ∧ va_D A (tz_XW o aw ai ak sc rd fo tx ar at_ ao w0 w1 w2 w3 w4 w5 sw sh mo nw kp ik mr mw mq mz my mb mx mv ad ab ai0 ai1 cw cai ck csw csh ctx cr ct_ co_ cn_ ck_ ci_ cr_ cw_ cs_ cz_ cy_ cb2_ cx_ cv_ cd cb ci0 ci1 ty fr fk fx ft_ fo_ fw fh la lb rt nl_ np_ nk_ ns_ nv_ ni_ nf_ ud zd fd ub zb fb ui0 zi0 fi0 ui1 zi1 fi1 la_ lb_ lc_ ti_ cb_ ld_ le_ sm_ jb ta_ tl_ tk_ vl_ fn fk_ fi_ fr_ fw_ fs_ fz_ fb_ fy_ fx_ fv_)
def tz_T (cw : ClassId) (cai : ClassId) (ck : ClassId) (csw : ClassId) (csh : ClassId) (ctx : ClassId) (cr : ClassId) (ct_ : ClassId) (co_ : ClassId) (cn_ : ClassId) (ck_ : ClassId) (ci_ : ClassId) (cr_ : ClassId) (cw_ : ClassId) (cs_ : ClassId) (cz_ : ClassId) (cy_ : ClassId) (cb2_ : ClassId) (cx_ : ClassId) (cv_ : ClassId) (cd : Nat → ClassId) (cb : Nat → ClassId) (ci0 : Nat → ClassId) (ci1 : Nat → ClassId) : List (ClassId × FieldType) := [(cr, .int), (ck, .boolean), (ctx, .byte), (cai, (.object "ThriceCounted$Bank")), (ct_, .int), (co_, .int), (cw, (.object "ThriceCounted$Ones")), (csw, .long), (csh, .int), ((cd 0), .int), ((cd 1), .int), ((cd 2), .int), ((cd 3), .int), ((cd 12), (.object "ThriceCounted$Rows")), ((cd 4), .int), ((cd 5), .int), ((cd 6), .int), ((cd 7), .int), ((cd 8), .int), ((cd 9), .int), ((cd 10), .int), ((cd 11), .int), ((cb 0), .int), ((cb 1), .int), ((cb 2), .int), ((cb 3), .int), ((cb 12), (.object "ThriceCounted$Rows")), ((cb 4), .int), ((cb 5), .int), ((cb 6), .int), ((cb 7), .int), ((cb 8), .int), ((cb 9), .int), ((cb 10), .int), ((cb 11), .int), ((ci0 0), .int), ((ci0 1), .int), ((ci0 2), .int), ((ci0 3), .int), ((ci0 12), (.object "ThriceCounted$Rows")), ((ci0 4), .int), ((ci0 5), .int), ((ci0 6), .int), ((ci0 7), .int), ((ci0 8), .int), ((ci0 9), .int), ((ci0 10), .int), ((ci0 11), .int), ((ci1 0), .int), ((ci1 1), .int), ((ci1 2), .int), ((ci1 3), .int), ((ci1 12), (.object "ThriceCounted$Rows")), ((ci1 4), .int), ((ci1 5), .int), ((ci1 6), .int), ((ci1 7), .int), ((ci1 8), .int), ((ci1 9), .int), ((ci1 10), .int), ((ci1 11), .int), (cn_, .int), (ck_, .int), (ci_, .boolean), (cr_, .int), (cw_, .long), (cs_, .int), (cz_, .int), (cy_, .int), (cb2_, .int), (cx_, .int), (cv_, .int)]
