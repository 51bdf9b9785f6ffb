section
variable {p : Program} {l : Launch} {e : Env} {R : Room} {s : State} {m : MethodId} {args : Array Value} {below : List Frame} {meth : Method} {c : Code} {H : Heap} {locs : List Loc} {cells slots : Nat} {Q : State → Prop} {pc : Nat} {ls : Array Slot} {rest : List Value}
theorem tz_i {x : Int32} (z : Int32) (h : x = z) (k : W p l e R s m args below meth c H locs cells slots Q (F0 m pc ls (.int z :: rest))) : W p l e R s m args below meth c H locs cells slots Q (F0 m pc ls (.int x :: rest)) := by subst h; exact k
theorem tz_l {x : Int64} (z : Int64) (h : x = z) (k : W p l e R s m args below meth c H locs cells slots Q (F0 m pc ls (.long z :: rest))) : W p l e R s m args below meth c H locs cells slots Q (F0 m pc ls (.long x :: rest)) := by subst h; exact k
theorem tz_v {x : Value} (z : Value) (h : x = z) (k : W p l e R s m args below meth c H locs cells slots Q (F0 m pc ls (z :: rest))) : W p l e R s m args below meth c H locs cells slots Q (F0 m pc ls (x :: rest)) := by subst h; exact k
end
theorem tz_P0 {D : va_G} {cl : List vw_C} {H : Heap} : va_P D cl [] H := fun k q h => by simp at h
theorem tz_D0 {A : Nat → Prop} : va_D A [] := ⟨fun i j p q h => by simp at h, fun k q h => by simp at h⟩
theorem tz_nlt {a b : Int32} (h : ¬ a < b) : b ≤ a := Int32.not_lt.mp h
theorem tz_nle {a b : Int32} (h : ¬ a ≤ b) : b < a := Int32.not_le.mp h
theorem tz_ltn {a b : Int32} (h : a < b) : ¬ b ≤ a := Int32.not_le.mpr h
theorem tz_lef {a b : Int32} (h1 : ¬ a < b) (h2 : ¬ b ≤ a) : False := h2 (tz_nlt h1)
theorem tz_in {x N : Int32} {n : Nat} (h1 : ¬ x < 0) (h2 : ¬ N ≤ x) (hN : N.toInt = n) : vp_in x n := by
  rw [vp_in_iff]
  have a := tz_nlt h1
  have b := tz_nle h2
  rw [Int32.le_iff_toInt_le] at a
  rw [Int32.lt_iff_toInt_lt] at b
  exact ⟨a, by omega⟩
theorem tz_inb {x M : Int32} {n : Nat} (h : 0 ≤ x ∧ x ≤ M) (hM : M.toInt + 1 = n) : vp_in x n := by
  rw [vp_in_iff]
  obtain ⟨a, b⟩ := h
  rw [Int32.le_iff_toInt_le] at a b
  exact ⟨a, by omega⟩
theorem tz_ltle {x N M : Int32} (h : ¬ N ≤ x) (e : N.toInt = M.toInt + 1) : x ≤ M := by
  have b := tz_nle h
  rw [Int32.lt_iff_toInt_lt] at b
  rw [Int32.le_iff_toInt_le]
  omega
theorem tz_gele {x N M : Int32} (h : N ≤ x) (e : N.toInt = M.toInt + 1) : ¬ x ≤ M := by
  rw [Int32.le_iff_toInt_le] at h ⊢
  omega
theorem tz_in64 {lo v hi : Int32} {LO V HI : Int64} (h1 : lo.toInt64 = LO) (h2 : v.toInt64 = V) (h3 : hi.toInt64 = HI) : (LO ≤ V ∧ V ≤ HI) ↔ (lo ≤ v ∧ v ≤ hi) := by
  subst h1 h2 h3
  rw [Int64.le_iff_toInt_le, Int64.le_iff_toInt_le, Int32.le_iff_toInt_le, Int32.le_iff_toInt_le, Int32.toInt_toInt64, Int32.toInt_toInt64, Int32.toInt_toInt64]
theorem tz_pick {x : Int32} {n : Nat} (h0 : 0 ≤ x) {M : Int32} (h1 : x ≤ M) (hM : M.toInt + 1 = n) : ∃ j : Nat, j < n ∧ x = nI j := by
  rw [Int32.le_iff_toInt_le] at h0 h1
  have h0' : (0 : Int) ≤ x.toInt := h0
  refine ⟨x.toInt.toNat, by omega, ?_⟩
  have hlt := x.toInt_lt
  apply Int32.toInt_inj.mp
  rw [nI_toInt (by omega)]
  omega
-- what a fresh object's ways answer
def zO (k : Int32) : Int32 := if k = 0 then -1 else if k = 1 then -1 else if k = 2 then 1 else 0
def zF (k : Int32) : Int32 := if k = 3 then -5 else zO k
def zW (k : Int32) : Int32 := if 3 ≤ k then (if 6 ≤ k then (if 9 ≤ k then (if 12 ≤ k then 0 else 2) else 1) else -2) else -1
def zH (k : Int32) : Int32 := if k = 12 then -3 else if k = 13 then -3 else if k = 14 then 3 else if k = 15 then 3 else zW k
def zT (k : Int32) : Int32 := zO (k / 2)
def zK (k : Int32) : Int32 := if k < 6 then zT k else if 8 < k then zT k else -2
def zN (f : Int32 → Int32) (v : Int32) : Nat → Int32
  | 0 => 0
  | n + 1 => if f (nI n) = v then zN f v n + 1 else zN f v n
def zS (w : Int32) : Int32 → Int32 := if w = 0 then zO else if w = 1 then zF else if w = 2 then zW else if w = 3 then zH else if w = 4 then zT else zK
def zM (w : Int32) : Int32 := if w = 0 then 5 else if w = 1 then 3 else if w = 2 then 1 else if w = 3 then 1 else 7
abbrev tz_w (q0 q1 q2 q3 q4 q5 : Nat) : Nat → Option Nat := va_up (va_up (va_up (va_up (va_up (va_up (fun _ => none) 0 (some q0)) 1 (some q1)) 2 (some q2)) 3 (some q3)) 4 (some q4)) 5 (some q5)
abbrev tz_w2 (q0 q1 : Nat) : Nat → Option Nat := va_up (va_up (fun _ => none) 0 (some q0)) 1 (some q1)
theorem tz_for {σ : Type} (G : σ → Prop) (I : Nat → σ → Prop) (N : Nat) (h_end : ∀ x, I N x → G x) (h_step : ∀ i x, i < N → I i x → (∀ y, I (i + 1) y → G y) → G x) (x : σ) (h0 : I 0 x) : G x := by
  have key : ∀ (n i : Nat) (x : σ), i + n = N → I i x → G x := by
    intro n
    induction n with
    | zero => intro i x h hi; have e : i = N := by omega
              subst e; exact h_end _ hi
    | succ n ih => intro i x h hi; exact h_step i x (by omega) hi (fun y hy => ih (i + 1) y (by omega) hy)
  exact key N 0 x (by omega) h0
/-- what is known of the machine at every moment: nest mates, arrays of objects, casts, one String -/
def tz_N (U : State) : Prop := (va_Nw (.methodLinkNest RX11 9 yX4_init "ThriceCounted") U ∧ va_Nw (.methodLinkNest RX11 12 yX1_init "ThriceCounted") U ∧ va_Nw (.methodLinkNest RX11 15 yX10_init "ThriceCounted") U ∧ va_Nw (.methodLinkNest RX11 18 yX3_init "ThriceCounted") U ∧ va_Nw (.methodLinkNest RX11 21 yX9_init "ThriceCounted") U ∧ va_Nw (.methodLinkNest RX11 24 yX8_init "ThriceCounted") U ∧ va_Nw (.methodLinkNest RX11 48 yX7_init "ThriceCounted") U ∧ va_Nw (.methodLinkNest RX11 55 yX5_init "ThriceCounted") U ∧ va_Nw (.methodLinkNest RX11 62 yX2_init "ThriceCounted") U) ∧ (va_Nw (.methodLinkNest RX1 1 yX4_init "ThriceCounted") U ∧ va_Nw (.methodLinkNest RX10 1 yX4_init "ThriceCounted") U ∧ va_Nw (.methodLinkNest RX9 1 yX4_init "ThriceCounted") U ∧ va_Nw (.methodLinkNest RX3 1 yX10_init "ThriceCounted") U ∧ va_Nw (.methodLinkNest RX8 1 yX9_init "ThriceCounted") U) ∧ (va_AO RX0 U ∧ va_AO RX4 U ∧ va_AO RX6 U) ∧ (va_Nw (.castable RX1 RX4) U ∧ va_Nw (.castable RX10 RX4) U ∧ va_Nw (.castable RX3 RX4) U ∧ va_Nw (.castable RX9 RX4) U ∧ va_Nw (.castable RX8 RX4) U) ∧ ∃ q, vk_R RX5 60 "bank" q U
theorem tz_N.warm {s U : State} (hW : s.WarmedH U.vm) (h : tz_N s) : tz_N U := by
  obtain ⟨⟨a1, a2, a3, a4, a5, a6, a7, a8, a9⟩, ⟨b1, b2, b3, b4, b5⟩, ⟨c1, c2, c3⟩, ⟨d1, d2, d3, d4, d5⟩, q, e1⟩ := h
  exact ⟨⟨va_Nw.warmM hW a1, va_Nw.warmM hW a2, va_Nw.warmM hW a3, va_Nw.warmM hW a4, va_Nw.warmM hW a5, va_Nw.warmM hW a6, va_Nw.warmM hW a7, va_Nw.warmM hW a8, va_Nw.warmM hW a9⟩, ⟨va_Nw.warmM hW b1, va_Nw.warmM hW b2, va_Nw.warmM hW b3, va_Nw.warmM hW b4, va_Nw.warmM hW b5⟩, ⟨va_AO.moved hW.alike c1, va_AO.moved hW.alike c2, va_AO.moved hW.alike c3⟩, ⟨va_Nw.warmC hW d1, va_Nw.warmC hW d2, va_Nw.warmC hW d3, va_Nw.warmC hW d4, va_Nw.warmC hW d5⟩, q, vk_R.warm hW e1⟩
theorem tz_N.same {u U : State} (hv : u.vm = U.vm) (h : tz_N u) : tz_N U := by
  obtain ⟨⟨a1, a2, a3, a4, a5, a6, a7, a8, a9⟩, ⟨b1, b2, b3, b4, b5⟩, ⟨c1, c2, c3⟩, ⟨d1, d2, d3, d4, d5⟩, q, e1⟩ := h
  exact ⟨⟨va_Nw.same rfl hv a1, va_Nw.same rfl hv a2, va_Nw.same rfl hv a3, va_Nw.same rfl hv a4, va_Nw.same rfl hv a5, va_Nw.same rfl hv a6, va_Nw.same rfl hv a7, va_Nw.same rfl hv a8, va_Nw.same rfl hv a9⟩, ⟨va_Nw.same rfl hv b1, va_Nw.same rfl hv b2, va_Nw.same rfl hv b3, va_Nw.same rfl hv b4, va_Nw.same rfl hv b5⟩, ⟨va_AO.moved (by rw [hv]; exact Vm.Alike.refl _) c1, va_AO.moved (by rw [hv]; exact Vm.Alike.refl _) c2, va_AO.moved (by rw [hv]; exact Vm.Alike.refl _) c3⟩, ⟨va_Nw.same rfl hv d1, va_Nw.same rfl hv d2, va_Nw.same rfl hv d3, va_Nw.same rfl hv d4, va_Nw.same rfl hv d5⟩, q, vk_R.same hv.symm e1⟩
theorem tz_nest_X11_9 {U : State} (h : tz_N U) : va_Nw (.methodLinkNest RX11 9 yX4_init "ThriceCounted") U := h.1.1
theorem tz_nest_X11_12 {U : State} (h : tz_N U) : va_Nw (.methodLinkNest RX11 12 yX1_init "ThriceCounted") U := h.1.2.1
theorem tz_nest_X11_15 {U : State} (h : tz_N U) : va_Nw (.methodLinkNest RX11 15 yX10_init "ThriceCounted") U := h.1.2.2.1
theorem tz_nest_X11_18 {U : State} (h : tz_N U) : va_Nw (.methodLinkNest RX11 18 yX3_init "ThriceCounted") U := h.1.2.2.2.1
theorem tz_nest_X11_21 {U : State} (h : tz_N U) : va_Nw (.methodLinkNest RX11 21 yX9_init "ThriceCounted") U := h.1.2.2.2.2.1
theorem tz_nest_X11_24 {U : State} (h : tz_N U) : va_Nw (.methodLinkNest RX11 24 yX8_init "ThriceCounted") U := h.1.2.2.2.2.2.1
theorem tz_nest_X11_48 {U : State} (h : tz_N U) : va_Nw (.methodLinkNest RX11 48 yX7_init "ThriceCounted") U := h.1.2.2.2.2.2.2.1
theorem tz_nest_X11_55 {U : State} (h : tz_N U) : va_Nw (.methodLinkNest RX11 55 yX5_init "ThriceCounted") U := h.1.2.2.2.2.2.2.2.1
theorem tz_nest_X11_62 {U : State} (h : tz_N U) : va_Nw (.methodLinkNest RX11 62 yX2_init "ThriceCounted") U := h.1.2.2.2.2.2.2.2.2
theorem tz_nest_X1_1 {U : State} (h : tz_N U) : va_Nw (.methodLinkNest RX1 1 yX4_init "ThriceCounted") U := h.2.1.1
theorem tz_nest_X10_1 {U : State} (h : tz_N U) : va_Nw (.methodLinkNest RX10 1 yX4_init "ThriceCounted") U := h.2.1.2.1
theorem tz_nest_X9_1 {U : State} (h : tz_N U) : va_Nw (.methodLinkNest RX9 1 yX4_init "ThriceCounted") U := h.2.1.2.2.1
theorem tz_nest_X3_1 {U : State} (h : tz_N U) : va_Nw (.methodLinkNest RX3 1 yX10_init "ThriceCounted") U := h.2.1.2.2.2.1
theorem tz_nest_X8_1 {U : State} (h : tz_N U) : va_Nw (.methodLinkNest RX8 1 yX9_init "ThriceCounted") U := h.2.1.2.2.2.2
theorem tz_over_X0 {U : State} (h : tz_N U) : va_AO RX0 U := h.2.2.1.1
theorem tz_over_X4 {U : State} (h : tz_N U) : va_AO RX4 U := h.2.2.1.2.1
theorem tz_over_X6 {U : State} (h : tz_N U) : va_AO RX6 U := h.2.2.1.2.2
theorem tz_cast_X1 {U : State} (h : tz_N U) : va_Nw (.castable RX1 RX4) U := h.2.2.2.1.1
theorem tz_cast_X10 {U : State} (h : tz_N U) : va_Nw (.castable RX10 RX4) U := h.2.2.2.1.2.1
theorem tz_cast_X3 {U : State} (h : tz_N U) : va_Nw (.castable RX3 RX4) U := h.2.2.2.1.2.2.1
theorem tz_cast_X9 {U : State} (h : tz_N U) : va_Nw (.castable RX9 RX4) U := h.2.2.2.1.2.2.2.1
theorem tz_cast_X8 {U : State} (h : tz_N U) : va_Nw (.castable RX8 RX4) U := h.2.2.2.1.2.2.2.2
theorem tz_six {x : Int32} (h : 0 ≤ x ∧ x ≤ 5) : x = 0 ∨ x = 1 ∨ x = 2 ∨ x = 3 ∨ x = 4 ∨ x = 5 := by
  obtain ⟨j, hj, rfl⟩ := tz_pick (n := 6) h.1 h.2 (by decide)
  rcases (show j = 0 ∨ j = 1 ∨ j = 2 ∨ j = 3 ∨ j = 4 ∨ j = 5 by omega) with rfl | rfl | rfl | rfl | rfl | rfl
  · exact Or.inl rfl
  · exact Or.inr (Or.inl rfl)
  · exact Or.inr (Or.inr (Or.inl rfl))
  · exact Or.inr (Or.inr (Or.inr (Or.inl rfl)))
  · exact Or.inr (Or.inr (Or.inr (Or.inr (Or.inl rfl))))
  · exact Or.inr (Or.inr (Or.inr (Or.inr (Or.inr rfl))))
theorem tz_two {x : Int32} (h : 0 ≤ x ∧ x ≤ 1) : x = 0 ∨ x = 1 := by
  obtain ⟨j, hj, rfl⟩ := tz_pick (n := 2) h.1 h.2 (by decide)
  rcases (show j = 0 ∨ j = 1 by omega) with rfl | rfl
  · exact Or.inl rfl
  · exact Or.inr rfl
theorem tz_while {σ : Type} (G : σ → Prop) (I : σ → Prop) (μ : σ → Nat) (h : ∀ x, I x → (∀ y, I y → μ y < μ x → G y) → G x) (x : σ) (h0 : I x) : G x := by
  have key : ∀ (n : Nat) (x : σ), μ x < n → I x → G x := by
    intro n
    induction n with
    | zero => intro x hx; exact absurd hx (Nat.not_lt_zero _)
    | succ n ih => intro x hx hi; exact h x hi (fun y hy hm => ih y (by omega) hy)
  exact key (μ x + 1) x (by omega) h0
theorem tz_below {x : Int32} {n : Nat} (h0 : ¬ x < 0) (h1 : ¬ nI n ≤ x) (hn : n < 2147483648) : ∃ j, j < n ∧ x = nI j := by
  obtain ⟨j, hj, rfl⟩ := nI_of h0
  exact ⟨j, Nat.not_le.mp (fun q => h1 ((nI_leI (by omega) hj).mpr q)), rfl⟩
theorem tz_belowI {x : Int32} {n : Nat} (h : 0 ≤ x ∧ x < nI n) (hn : n < 2147483648) : ∃ j, j < n ∧ x = nI j := tz_below (fun q => tz_ltn q h.1) (fun q => absurd h.2 (fun z => tz_ltn z q)) hn
theorem tz_min {a b : Nat} (h : a ≤ b) (hb : b < 2147483648) : (if nI a < nI b then nI a else nI b) = nI a := by
  by_cases q : nI a < nI b
  · exact if_pos q
  · have e : a = b := by
      have hx : ¬ a < b := fun z => q ((nI_ltI (a := a) (b := b) (by omega) hb).mpr z)
      omega
    subst e
    exact if_neg q
def tz_lim (i : Nat) : Nat := match i with
  | 0 => 5
  | 1 => 5
  | 2 => 8
  | 3 => 6
  | _ => 8
theorem tz_up_le {z lim : Nat → Nat} (h : ∀ i, z i ≤ lim i) {k v : Nat} (hk : v ≤ lim k) : ∀ i, va_up z k v i ≤ lim i := by
  intro i
  unfold va_up
  by_cases e : i = k
  · rw [if_pos e, e]; exact hk
  · rw [if_neg e]; exact h i
abbrev tz_ear (a : Nat → Nat) : Nat → Option Nat := va_up (va_up (va_up (va_up (va_up (va_up (va_up (va_up (fun _ => none) 0 (some (a 10))) 1 (some (a 12))) 2 (some (a 14))) 3 (some (a 16))) 4 (some (a 18))) 5 (some (a 20))) 6 (some (a 22))) 7 (some (a 24))
theorem tz_minx {a b : Nat} (h : b ≤ a) (ha : a < 2147483648) : (if nI a < nI b then nI a else nI b) = nI b := if_neg (fun q => absurd ((nI_ltI (a := a) (b := b) ha (by omega)).mp q) (by omega))
theorem tz_cmp_ne {x : Int64} (h : ¬ lg_cmp x 0 = 0) : ¬ x = 0 := fun e => h (by subst e; simp [lg_cmp])
theorem tz_cmp_pos {x : Int64} (h : ¬ lg_cmp x 0 ≤ 0) : ¬ x = 0 := fun e => h (by subst e; simp [lg_cmp])
theorem tz_in_le {x M : Int32} {n : Nat} (h1 : ¬ x < 0) (h2 : ¬ M ≤ x) (hM : M.toInt ≤ (n : Int)) : vp_in x n := by
  rw [vp_in_iff]
  have a := tz_nlt h1
  have b := tz_nle h2
  rw [Int32.le_iff_toInt_le] at a
  rw [Int32.lt_iff_toInt_lt] at b
  exact ⟨a, by omega⟩
theorem tz_inb_le {x M : Int32} {n : Nat} (h : 0 ≤ x ∧ x ≤ M) (hM : M.toInt < (n : Int)) : vp_in x n := by
  rw [vp_in_iff]
  obtain ⟨a, b⟩ := h
  rw [Int32.le_iff_toInt_le] at a b
  exact ⟨a, by omega⟩
theorem tz_zb {r : Int32} (h : r = 0 ∨ r = 1) : narrow .boolean (.int r) = .int r := by
  rcases h with rfl | rfl <;> decide
theorem tz_mu {p q : Int32} (h : ¬ q ≤ p) : (q.toInt - (p + 1).toInt).toNat < (q.toInt - p.toInt).toNat := by
  have b := tz_nle h
  rw [Int32.lt_iff_toInt_lt] at b
  have hq := q.toInt_lt
  have hp := p.le_toInt
  have e : (p + 1).toInt = p.toInt + 1 := by
    rw [Int32.toInt_add, show (1 : Int32).toInt = 1 from by decide]
    exact Int.bmod_eq_of_le (by omega) (by omega)
  rw [e]
  omega
theorem tz_dec {k : Nat} (h : 1 ≤ k) : nI k + (-1) = nI (k - 1) := by
  obtain ⟨n, rfl⟩ : ∃ n, k = n + 1 := ⟨k - 1, by omega⟩
  exact pk_m1 n
theorem tz_cnt5 {k : Nat} (h : k ≤ 5) : (0 : Int32) ≤ nI k ∧ nI k ≤ 5 :=
  ⟨(nI_leI (a := 0) (b := k) (by omega) (by omega)).mpr (Nat.zero_le _), (nI_leI (a := k) (b := 5) (by omega) (by omega)).mpr h⟩
/-- a String constant with its bytes, and the JDK's statics that charAt reads -/
def tz_St (q v n : Nat) (f : Nat → Int32) (A : Nat → Prop) (U : State) (H : Heap) : Prop := va_O "java/lang/String" q A U H ∧ va_OF "java/lang/String" "coder" "B" (.int 0) q A U H ∧ va_OF "java/lang/String" "value" "[B" (.ref v) q A U H ∧ va_T .byte v n (fun j => .int (f j)) A U H ∧ va_Z "java/lang/String" "COMPACT_STRINGS" "Z" (.int 1) A U H ∧ va_Zq "jdk/internal/util/Preconditions" "SIOOBE_FORMATTER" "Ljava/util/function/BiFunction;" A U H
theorem tz_St.moved {q v n : Nat} {f : Nat → Int32} {A : Nat → Prop} {u U : State} {H : Heap} (hvm : u.vm.Alike U.vm) (h : tz_St q v n f A u H) : tz_St q v n f A U H := by
  obtain ⟨a, b, c, d, e, g⟩ := h
  exact ⟨va_O.moved hvm a, va_OF.moved hvm b, va_OF.moved hvm c, va_T.moved hvm d, va_Z.moved hvm e, va_Zq.moved hvm g⟩
theorem tz_St.kept {q v n : Nat} {f : Nat → Int32} {A : Nat → Prop} {U : State} {H H1 : Heap} (h : tz_St q v n f A U H) (hq : ∀ a : Nat, a < H.size → ¬ A a → H1[a]? = H[a]?) : tz_St q v n f A U H1 := by
  obtain ⟨a, b, c, d, e, g⟩ := h
  exact ⟨a.kept hq, b.kept hq, c.kept hq, d.kept hq, e.kept hq, g.kept hq⟩
theorem tz_St.narrow {q v n : Nat} {f : Nat → Int32} {A B : Nat → Prop} {U : State} {H : Heap} (h : tz_St q v n f A U H) (hAB : ∀ q, B q → A q) : tz_St q v n f B U H := by
  obtain ⟨a, b, c, d, e, g⟩ := h
  exact ⟨a.narrow hAB, b.narrow hAB, c.narrow hAB, d.narrow hAB, e.narrow hAB, g.narrow hAB⟩
/-- the five words of the reader: their places, texts and bytes -/
def tz_sk (i : Nat) : Nat := ([60, 73, 87, 95, 100] : List Nat).getD i 0
def tz_sx (i : Nat) : String := (["bank", "clerk", "bundle", "band", "count"] : List String).getD i ""
def tz_sb (i : Nat) : List Int32 := ([[98, 97, 110, 107], [99, 108, 101, 114, 107], [98, 117, 110, 100, 108, 101], [98, 97, 110, 100], [99, 111, 117, 110, 116]] : List (List Int32)).getD i []
def tz_sn (i : Nat) : Nat := ([4, 5, 6, 4, 5] : List Nat).getD i 0
def tz_sf (i : Nat) : Nat → Int32 := fun j => (tz_sb i).getD j 0
def tz_V (A : Nat → Prop) (U : State) (H : Heap) : Prop := ∀ i : Nat, i < 5 → ∃ q v : Nat, vk_R RX5 (tz_sk i) (tz_sx i) q U ∧ tz_St q v (tz_sn i) (tz_sf i) A U H
theorem tz_V.warm {A : Nat → Prop} {s U : State} {H : Heap} (hW : s.WarmedH U.vm) (h : tz_V A s H) : tz_V A U H := fun i hi => by
  obtain ⟨q, v, a, b⟩ := h i hi
  exact ⟨q, v, vk_R.warm hW a, tz_St.moved hW.alike b⟩
theorem tz_V.same {A : Nat → Prop} {u U : State} {H : Heap} (hv : u.vm = U.vm) (h : tz_V A u H) : tz_V A U H := fun i hi => by
  obtain ⟨q, v, a, b⟩ := h i hi
  exact ⟨q, v, vk_R.same hv.symm a, tz_St.moved (by rw [hv]; exact Vm.Alike.refl _) b⟩
theorem tz_V.kept {A : Nat → Prop} {U : State} {H H1 : Heap} (h : tz_V A U H) (hq : ∀ a : Nat, a < H.size → ¬ A a → H1[a]? = H[a]?) : tz_V A U H1 := fun i hi => by
  obtain ⟨q, v, a, b⟩ := h i hi
  exact ⟨q, v, a, b.kept hq⟩
theorem tz_V.narrow {A B : Nat → Prop} {U : State} {H : Heap} (h : tz_V A U H) (hAB : ∀ q, B q → A q) : tz_V B U H := fun i hi => by
  obtain ⟨q, v, a, b⟩ := h i hi
  exact ⟨q, v, a, b.narrow hAB⟩
