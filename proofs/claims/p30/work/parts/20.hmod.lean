theorem tz_cmp_lt {x y : Int64} (h : lg_cmp x y < 0) : ¬ y ≤ x := by
  intro hle
  unfold lg_cmp at h
  by_cases h1 : y < x
  · rw [if_pos h1] at h; exact absurd h (by decide)
  · have e : x = y := by
      rw [Int64.lt_iff_toInt_lt] at h1
      rw [Int64.le_iff_toInt_le] at hle
      exact Int64.toInt_inj.mp (by omega)
    rw [if_neg h1, if_pos e] at h; exact absurd h (by decide)
theorem tz_cmp_nlt {x y : Int64} (h : ¬ lg_cmp x y < 0) : y ≤ x := by
  unfold lg_cmp at h
  by_cases h1 : y < x
  · rw [Int64.lt_iff_toInt_lt] at h1; rw [Int64.le_iff_toInt_le]; omega
  · by_cases e : x = y
    · subst e; rw [Int64.le_iff_toInt_le]; omega
    · rw [if_neg h1, if_neg e] at h; exact absurd (by decide) h
theorem tz_cmp_gt {x y : Int64} (h : 0 < lg_cmp x y) : ¬ x ≤ y := by
  unfold lg_cmp at h
  by_cases h1 : y < x
  · rw [Int64.lt_iff_toInt_lt] at h1; rw [Int64.le_iff_toInt_le]; omega
  · by_cases e : x = y
    · rw [if_neg h1, if_pos e] at h; exact absurd h (by decide)
    · rw [if_neg h1, if_neg e] at h; exact absurd h (by decide)
theorem tz_cmp_ngt {x y : Int64} (h : ¬ 0 < lg_cmp x y) : x ≤ y := by
  unfold lg_cmp at h
  by_cases h1 : y < x
  · rw [if_pos h1] at h; exact absurd (by decide) h
  · rw [Int64.lt_iff_toInt_lt] at h1; rw [Int64.le_iff_toInt_le]; omega
theorem tz_emp {x : Int32} (h : 0 ≤ x ∧ x ≤ -1) : False := by
  obtain ⟨a, b⟩ := h
  rw [Int32.le_iff_toInt_le] at a b
  have a' : (0 : Int) ≤ x.toInt := a
  have b' : x.toInt ≤ -1 := b
  omega
-- what the reference's ways answer
def yO (k : Int32) : Int32 := if 2 ≤ k then (if k = 2 then 1 else 0) else -1
def yF (k : Int32) : Int32 := if k = 3 then -5 else yO k
def yT (k : Int32) : Int32 := yO (k / 2)
def yK (k : Int32) : Int32 := if 6 ≤ k ∧ k ≤ 8 then -2 else yO (k / 2)
def yS (w : Int32) : Int32 → Int32 := if w = 0 then yO else if w = 1 then yF else if w = 2 then zW else if w = 3 then zH else if w = 4 then yT else yK
theorem tz_yz {w : Int32} (h : 0 ≤ w ∧ w ≤ 5) : ∀ j, j < 20 → yS w (nI j) = zS w (nI j) := by
  rcases tz_six h with rfl | rfl | rfl | rfl | rfl | rfl <;> decide
theorem tz_zN_congr {f g : Int32 → Int32} (h : ∀ j, j < 20 → f (nI j) = g (nI j)) (v : Int32) : ∀ n, n ≤ 20 → zN f v n = zN g v n := by
  intro n
  induction n with
  | zero => intro _; rfl
  | succ n ih => intro hn; simp only [zN]; rw [h n (by omega), ih (by omega)]
/-! the reference: bounds of what its rows hold, by place -/
theorem tz_rem_mu {x y : Int64} (h : ¬ y = 0) : (x - x / y * y).toInt.natAbs < y.toInt.natAbs := by
  rw [Jvm.Kit.i64_rem, Int.natAbs_tmod]
  refine Nat.mod_lt _ (Nat.pos_of_ne_zero (fun e => h ?_))
  have e1 : y.toInt = 0 := Int.natAbs_eq_zero.mp e
  exact Int64.toInt_inj.mp (by rw [e1]; rfl)
def tz_any : Int × Int := (-2147483648, 2147483647)
def tz_b (i : Nat) : Int × Int :=
  if i < 5 then (0, ([5, 5, 8, 6, 8] : List Int).getD i 0)
  else if i < 10 then (0, 10)
  else if i < 30 then (if (i - 10) % 4 < 2 then (0, 110) else if (i - 10) % 4 = 2 then tz_any else (-1, 4))
  else if i < 62 then (if (i - 30) % 4 = 0 then (0, 4) else if (i - 30) % 4 = 1 then (0, 5) else tz_any)
  else if i < 86 then (if (i - 62) % 4 = 1 then (0, 20) else tz_any)
  else (if (i - 86) % 33 = 32 then (0, 8) else if (i - 86) % 33 % 4 = 0 then (0, 4) else if (i - 86) % 33 % 4 = 1 then (0, 5) else tz_any)
def tz_bd (i : Nat) (x : Int32) : Prop := (tz_b i).1 ≤ x.toInt ∧ x.toInt ≤ (tz_b i).2
def tz_pos (f : Nat → Int32) : Prop := ∀ i : Nat, i < 6 → (i : Int) < (f 3).toInt → 1 ≤ (f (63 + 4 * i)).toInt
def tz_OK (N : Nat) (f : Nat → Int32) : Prop := (∀ i : Nat, i < N → tz_bd i (f i)) ∧ tz_pos f
theorem tz_b_tr : ∀ c, c < 5 → tz_b (5 + c) = (0, 10) := by decide +kernel
theorem tz_b_lo : ∀ c, c < 5 → tz_b (10 + 4 * c + 0) = (0, 110) := by decide +kernel
theorem tz_b_hi : ∀ c, c < 5 → tz_b (10 + 4 * c + 1) = (0, 110) := by decide +kernel
theorem tz_b_sa : ∀ c, c < 5 → tz_b (10 + 4 * c + 2) = tz_any := by decide +kernel
theorem tz_b_si : ∀ c, c < 5 → tz_b (10 + 4 * c + 3) = (-1, 4) := by decide +kernel
theorem tz_b_of : ∀ c, c < 8 → tz_b (30 + 4 * c + 0) = (0, 4) := by decide +kernel
theorem tz_b_wy : ∀ c, c < 8 → tz_b (30 + 4 * c + 1) = (0, 5) := by decide +kernel
theorem tz_b_ck : ∀ c, c < 8 → tz_b (30 + 4 * c + 2) = tz_any := by decide +kernel
theorem tz_b_td : ∀ c, c < 8 → tz_b (30 + 4 * c + 3) = tz_any := by decide +kernel
theorem tz_b_c0 : ∀ c, c < 6 → tz_b (62 + 4 * c + 0) = tz_any := by decide +kernel
theorem tz_b_c1 : ∀ c, c < 6 → tz_b (62 + 4 * c + 1) = (0, 20) := by decide +kernel
theorem tz_b_c2 : ∀ c, c < 6 → tz_b (62 + 4 * c + 2) = tz_any := by decide +kernel
theorem tz_b_c3 : ∀ c, c < 6 → tz_b (62 + 4 * c + 3) = tz_any := by decide +kernel
theorem tz_b_sh : ∀ k, k < 231 → tz_b (86 + k) = tz_b (119 + k) := by decide +kernel
theorem tz_b_kp : ∀ u, u < 8 → ∀ k, k < 32 → tz_b (86 + 33 * u + k) = tz_b (30 + k) := by decide +kernel
theorem tz_b_kc : ∀ u, u < 8 → tz_b (86 + 33 * u + 32) = (0, 8) := by decide +kernel
theorem tz_b_bk : ∀ k, k < 28 → tz_b (30 + k) = tz_b (30 + k + 4) := by decide +kernel
theorem tz_b_z : ∀ i, i < 350 → (tz_b i).1 ≤ 0 ∧ 0 ≤ (tz_b i).2 := by decide +kernel
theorem tz_bd_any {K : Nat} (v : Int32) (h : tz_b K = tz_any) : tz_bd K v := by
  have h1 := v.le_toInt
  have h2 := v.toInt_lt
  unfold tz_bd
  rw [h]
  exact ⟨h1, show v.toInt ≤ 2147483647 by omega⟩
theorem tz_bd_of {K : Nat} {v : Int32} {lo hi : Int} (h : tz_b K = (lo, hi)) (h1 : lo ≤ v.toInt) (h2 : v.toInt ≤ hi) : tz_bd K v := by
  unfold tz_bd
  rw [h]
  exact ⟨h1, h2⟩
theorem tz_bd_nI {K j : Nat} {lo hi : Int} (h : tz_b K = (lo, hi)) (hj : j < 2147483648) (h1 : lo ≤ (j : Int)) (h2 : (j : Int) ≤ hi) : tz_bd K (nI j) := by
  refine tz_bd_of h ?_ ?_ <;> rw [nI_toInt (by omega)]
  · exact h1
  · exact h2
theorem tz_bd_cp {K K' : Nat} {v : Int32} (h : tz_b K = tz_b K') (hv : tz_bd K' v) : tz_bd K v := by
  unfold tz_bd at hv ⊢
  rw [h]
  exact hv
theorem tz_OK.at_ {N K : Nat} {f : Nat → Int32} (h : tz_OK N f) (hK : K < N) {lo hi : Int} (e : tz_b K = (lo, hi)) : lo ≤ (f K).toInt ∧ (f K).toInt ≤ hi := by
  have := h.1 K hK
  unfold tz_bd at this
  rw [e] at this
  exact this
theorem tz_natof {x : Int32} {n : Nat} (h0 : 0 ≤ x.toInt) (h1 : x.toInt ≤ (n : Int)) : ∃ j : Nat, j ≤ n ∧ x = nI j := by
  refine ⟨x.toInt.toNat, by omega, ?_⟩
  have hlt := x.toInt_lt
  apply Int32.toInt_inj.mp
  rw [nI_toInt (by omega)]
  omega
/-- what a place with a bound from 0 on holds is a Nat -/
theorem tz_OK.nat {N K n : Nat} {f : Nat → Int32} (h : tz_OK N f) (hK : K < N) (e : tz_b K = (0, (n : Int))) : ∃ j : Nat, j ≤ n ∧ f K = nI j := by
  obtain ⟨a, b⟩ := h.at_ hK e
  exact tz_natof a b
theorem tz_OK.natc {N K n : Nat} {f : Nat → Int32} (h : tz_OK N f) (hK : K < N) (hb : K < 2147483648) (e : tz_b K = (0, (n : Int))) : ∃ j : Nat, j ≤ n ∧ f (Int32.toNatClampNeg (nI K)) = nI j := by
  rw [nI_clamp (by omega)]
  exact h.nat hK e
theorem tz_OK.st1 {N K : Nat} {f : Nat → Int32} {v : Int32} (h : tz_OK N f) (hv : tz_bd K v) (h3 : ¬ K = 3) (hp : ∀ i : Nat, i < 6 → ¬ K = 63 + 4 * i) : tz_OK N (upd f K v) := by
  refine ⟨fun i hi => ?_, fun i hi h1 => ?_⟩
  · by_cases e : i = K
    · subst e; simp only [upd, if_true]; exact hv
    · simp only [upd, if_neg e]; exact h.1 i hi
  · simp only [upd, if_neg (fun q => h3 (Eq.symm q))] at h1
    simp only [upd, if_neg (fun q => hp i hi (Eq.symm q))]
    exact h.2 i hi h1
theorem tz_OK.updc {N K : Nat} {f : Nat → Int32} {v : Int32} (h : tz_OK N f) (hb : K < 2147483648) (hv : tz_bd K v) (h3 : ¬ K = 3) (hp : ∀ i : Nat, i < 6 → ¬ K = 63 + 4 * i) : tz_OK N (upd f (Int32.toNatClampNeg (nI K)) v) := by
  rw [nI_clamp (by omega)]
  exact h.st1 hv h3 hp
/-- an index below what a place holds -/
theorem tz_idx {x y : Int32} {n : Nat} (h : 0 ≤ x ∧ x < y) (hy : y.toInt ≤ (n : Int)) : ∃ j : Nat, j < n ∧ x = nI j := by
  obtain ⟨a, b⟩ := h
  rw [Int32.le_iff_toInt_le] at a
  rw [Int32.lt_iff_toInt_lt] at b
  have a' : (0 : Int) ≤ x.toInt := a
  refine ⟨x.toInt.toNat, by omega, ?_⟩
  have hlt := x.toInt_lt
  apply Int32.toInt_inj.mp
  rw [nI_toInt (by omega)]
  omega
theorem tz_pickL {x L M : Int32} {l n : Nat} (h : L ≤ x ∧ x ≤ M) (hL : (l : Int) ≤ L.toInt) (hM : M.toInt ≤ (n : Int)) : ∃ j : Nat, l ≤ j ∧ j ≤ n ∧ x = nI j := by
  obtain ⟨a, b⟩ := h
  rw [Int32.le_iff_toInt_le] at a b
  refine ⟨x.toInt.toNat, by omega, by omega, ?_⟩
  have hlt := x.toInt_lt
  apply Int32.toInt_inj.mp
  rw [nI_toInt (by omega)]
  omega
theorem tz_in64m {v : Int32} {V HI : Int64} {j : Nat} (hj : j ≤ 1000) (h2 : v.toInt64 = V) (h3 : (nI j - 1).toInt64 = HI) : ((0 : Int64) ≤ V ∧ V ≤ HI) ↔ (0 ≤ v ∧ v < nI j) := by
  subst h2 h3
  have e : (nI j - 1).toInt = (j : Int) - 1 := by
    have := pk_sub_toInt (a := j) (b := 1) (by omega) (by decide)
    exact this
  rw [Int64.le_iff_toInt_le, Int64.le_iff_toInt_le, Int32.le_iff_toInt_le, Int32.lt_iff_toInt_lt, Int32.toInt_toInt64, Int32.toInt_toInt64, e, nI_toInt (by omega)]
  constructor
  · intro ⟨a, b⟩; exact ⟨a, by omega⟩
  · intro ⟨a, b⟩; exact ⟨a, by omega⟩
theorem tz_bd_ld {N K : Nat} {f : Nat → Int32} {x : Int32} (h : tz_OK N f) (hb : K < 2147483648) (e : x = f (Int32.toNatClampNeg (nI K))) (hK : K < N) : tz_bd K x := by
  rw [e, nI_clamp (by omega)]
  exact h.1 K hK
theorem tz_ld_at {N K : Nat} {f : Nat → Int32} {x : Int32} {lo hi : Int} (h : tz_OK N f) (hb : K < 2147483648) (e : x = f (Int32.toNatClampNeg (nI K))) (hK : K < N) (r : tz_b K = (lo, hi)) : lo ≤ x.toInt ∧ x.toInt ≤ hi := by
  rw [e, nI_clamp (by omega)]
  exact h.at_ hK r
theorem tz_upd_ne {K k : Nat} {f : Nat → Int32} {v y : Int32} (hb : K < 2147483648) (hk : ¬ K = k) (h : f k = y) : upd f (Int32.toNatClampNeg (nI K)) v k = y := by
  rw [nI_clamp (by omega)]
  simp only [upd, if_neg (fun q => hk (Eq.symm q))]
  exact h
theorem tz_upd_eq {K : Nat} {f : Nat → Int32} {v : Int32} (hb : K < 2147483648) : upd f (Int32.toNatClampNeg (nI K)) v K = v := by
  rw [nI_clamp (by omega)]
  simp only [upd, if_true]
theorem tz_idx2 {x y : Int32} {J : Nat} (h : 0 ≤ x ∧ x < y) (e : y = nI J) (hJ : J < 2147483648) : ∃ j : Nat, j < J ∧ x = nI j := tz_belowI (by rw [← e]; exact h) hJ
theorem tz_b_kpK {K u k : Nat} (hu : u < 8) (hk : k < 32) (e : K = 86 + 33 * u + k) : tz_b K = tz_b (30 + k) := by subst e; exact tz_b_kp u hu k hk
theorem tz_b_kcK {K u : Nat} (hu : u < 8) (e : K = 86 + 33 * u + 32) : tz_b K = (0, 8) := by subst e; exact tz_b_kc u hu
theorem tz_b_shK {K K' k : Nat} (hk : k < 231) (e : K = 86 + k) (e' : K' = 119 + k) : tz_b K = tz_b K' := by subst e e'; exact tz_b_sh k hk
theorem tz_b_bkK {K K' k : Nat} (hk : k < 28) (e : K = 30 + k) (e' : K' = 30 + k + 4) : tz_b K = tz_b K' := by subst e e'; exact tz_b_bk k hk
/-- rows copied so far: k places of src to dst from o on -/
def tz_Co (src dst : Nat → Int32) (o k : Nat) (g : Nat → Int32) : Prop := (∀ i : Nat, i < k → g (o + i) = src i) ∧ ∀ i : Nat, (i < o ∨ o + k ≤ i) → g i = dst i
theorem tz_Co.rf {src dst : Nat → Int32} {o : Nat} : tz_Co src dst o 0 dst := ⟨fun i h => absurd h (Nat.not_lt_zero i), fun _ _ => rfl⟩
theorem tz_Co.step {src dst g : Nat → Int32} {o k K : Nat} {v : Int32} (h : tz_Co src dst o k g) (hb : K < 2147483648) (hK : K = o + k) (hv : v = src k) : tz_Co src dst o (k + 1) (upd g (Int32.toNatClampNeg (nI K)) v) := by
  rw [nI_clamp (by omega)]
  subst hK
  refine ⟨fun i hi => ?_, fun i hi => ?_⟩
  · by_cases e : i = k
    · subst e; simp only [upd, if_true]; exact hv
    · simp only [upd, if_neg (show ¬ o + i = o + k by omega)]; exact h.1 i (by omega)
  · simp only [upd, if_neg (show ¬ i = o + k by omega)]; exact h.2 i (by omega)
theorem tz_Co.cast {src dst g : Nat → Int32} {o k k' : Nat} (h : tz_Co src dst o k g) (e : k = k') : tz_Co src dst o k' g := e ▸ h
theorem tz_bd_zero {i : Nat} (hi : i < 350) : tz_bd i 0 := by
  have := tz_b_z i hi
  exact ⟨this.1, this.2⟩
theorem tz_OK.z86 {f g : Nat → Int32} (h : tz_Co (fun _ => 0) f 0 86 g) : tz_OK 86 g := by
  have h0 : ∀ i : Nat, i < 86 → g i = 0 := fun i hi => by have := h.1 i hi; rwa [Nat.zero_add] at this
  refine ⟨fun i hi => ?_, fun i _ h1 => ?_⟩
  · rw [h0 i hi]; exact tz_bd_zero (by omega)
  · rw [h0 3 (by omega)] at h1
    exact absurd h1 (by show ¬ ((i : Int) < 0); omega)
theorem tz_OK.z350 {f g : Nat → Int32} (hf : tz_OK 350 f) (h : tz_Co (fun _ => 0) f 0 86 g) : tz_OK 350 g := by
  refine ⟨fun i hi => ?_, (tz_OK.z86 h).2⟩
  by_cases e : i < 86
  · exact (tz_OK.z86 h).1 i e
  · rw [h.2 i (by omega)]; exact hf.1 i hi
theorem tz_OK.copy86 {x f g : Nat → Int32} (hx : tz_OK 86 x) (hf : tz_OK 350 f) (h : tz_Co x f 0 86 g) : tz_OK 350 g := by
  have h0 : ∀ i : Nat, i < 86 → g i = x i := fun i hi => by have := h.1 i hi; rwa [Nat.zero_add] at this
  refine ⟨fun i hi => ?_, fun i hi h1 => ?_⟩
  · by_cases e : i < 86
    · rw [h0 i e]; exact hx.1 i e
    · rw [h.2 i (by omega)]; exact hf.1 i hi
  · rw [h0 3 (by omega)] at h1
    rw [h0 _ (by omega)]
    exact hx.2 i hi h1
theorem tz_OK.copy350 {x f g : Nat → Int32} (hx : tz_OK 350 x) (h : tz_Co x f 0 350 g) : tz_OK 350 g := by
  have h0 : ∀ i : Nat, i < 350 → g i = x i := fun i hi => by have := h.1 i hi; rwa [Nat.zero_add] at this
  refine ⟨fun i hi => ?_, fun i hi h1 => ?_⟩
  · rw [h0 i hi]; exact hx.1 i hi
  · rw [h0 3 (by omega)] at h1
    rw [h0 _ (by omega)]
    exact hx.2 i hi h1
theorem tz_OK.congr {x y : Nat → Int32} (hx : tz_OK 350 x) (h : ∀ i : Nat, i < 350 → y i = x i) : tz_OK 350 y := by
  refine ⟨fun i hi => ?_, fun i hi h1 => ?_⟩
  · rw [h i hi]; exact hx.1 i hi
  · rw [h 3 (by omega)] at h1
    rw [h _ (by omega)]
    exact hx.2 i hi h1
/-- the two images -/
def tz_KO (f : Nat → Int32) : Prop := tz_OK 350 f ∧ tz_OK 350 (fun i => f (350 + i))
theorem tz_KO.im0 {f n g : Nat → Int32} (h : tz_KO f) (hn : tz_OK 350 n) (hc : tz_Co n f 0 350 g) : tz_KO g :=
  ⟨tz_OK.copy350 hn hc, h.2.congr (fun i hi => hc.2 (350 + i) (by omega))⟩
theorem tz_KO.im1 {f n g : Nat → Int32} (h : tz_KO f) (hn : tz_OK 350 n) (hc : tz_Co n f 350 350 g) : tz_KO g :=
  ⟨h.1.congr (fun i hi => hc.2 i (by omega)), hn.congr (fun i hi => hc.1 i hi)⟩
/-- a cause's odds at the place that comes next -/
theorem tz_OK.updo {N J K : Nat} {f : Nat → Int32} {v : Int32} (h : tz_OK N f) (h3 : f 3 = nI J) (hJ : J < 6) (hb : K < 2147483648) (hK : K = 62 + 4 * J + 1) (hv : tz_bd K v) : tz_OK N (upd f (Int32.toNatClampNeg (nI K)) v) := by
  rw [nI_clamp (by omega)]
  refine ⟨fun i hi => ?_, fun i hi h1 => ?_⟩
  · by_cases e : i = K
    · subst e; simp only [upd, if_true]; exact hv
    · simp only [upd, if_neg e]; exact h.1 i hi
  · simp only [upd, if_neg (show ¬ (3 : Nat) = K by omega)] at h1
    have h2 := h1
    rw [h3, nI_toInt (by omega)] at h2
    simp only [upd, if_neg (show ¬ 63 + 4 * i = K by omega)]
    exact h.2 i hi h1
def tz_od (J : Nat) (f : Nat → Int32) : Prop := 1 ≤ (f (63 + 4 * J)).toInt
theorem tz_od.new {J K o : Nat} {f : Nat → Int32} (hb : K < 2147483648) (hK : K = 62 + 4 * J + 1) (ho : 1 ≤ o) (ho2 : o ≤ 20) : tz_od J (upd f (Int32.toNatClampNeg (nI K)) (nI o)) := by
  unfold tz_od
  rw [nI_clamp (by omega)]
  simp only [upd, if_pos (show 63 + 4 * J = K by omega)]
  rw [nI_toInt (by omega)]
  omega
theorem tz_od.stay {J K : Nat} {f : Nat → Int32} {v : Int32} (h : tz_od J f) (hb : K < 2147483648) (hK : ¬ K = 63 + 4 * J) : tz_od J (upd f (Int32.toNatClampNeg (nI K)) v) := by
  unfold tz_od at h ⊢
  rw [nI_clamp (by omega)]
  simp only [upd, if_neg (fun q => hK (Eq.symm q))]
  exact h
theorem tz_OK.inc3 {N J : Nat} {f : Nat → Int32} (h : tz_OK N f) (h3 : f 3 = nI J) (hJ : J < 6) (ho : tz_od J f) : tz_OK N (upd f (Int32.toNatClampNeg (nI 3)) (nI (J + 1))) := by
  rw [nI_clamp (by omega)]
  refine ⟨fun i hi => ?_, fun i hi h1 => ?_⟩
  · by_cases e : i = 3
    · subst e; simp only [upd, if_true]; exact tz_bd_nI (show tz_b 3 = (0, 6) from by decide) (by omega) (by omega) (by omega)
    · simp only [upd, if_neg e]; exact h.1 i hi
  · simp only [upd, if_true] at h1
    rw [nI_toInt (by omega)] at h1
    simp only [upd, if_neg (show ¬ 63 + 4 * i = 3 by omega)]
    by_cases e : i = J
    · subst e; exact ho
    · exact h.2 i hi (by rw [h3, nI_toInt (by omega)]; omega)
theorem tz_OK.zero3 {N : Nat} {f : Nat → Int32} (h : tz_OK N f) : tz_OK N (upd f (Int32.toNatClampNeg (nI 3)) 0) := by
  rw [nI_clamp (by omega)]
  refine ⟨fun i hi => ?_, fun i hi h1 => ?_⟩
  · by_cases e : i = 3
    · subst e; simp only [upd, if_true]; exact tz_bd_zero (by omega)
    · simp only [upd, if_neg e]; exact h.1 i hi
  · simp only [upd, if_true] at h1
    exact absurd h1 (by show ¬ ((i : Int) < 0); omega)
theorem tz_pickN {x M : Int32} {l n : Nat} (h : nI l ≤ x ∧ x ≤ M) (hl : l < 2147483648) (hM : M.toInt ≤ (n : Int)) : ∃ j : Nat, l ≤ j ∧ j ≤ n ∧ x = nI j := by
  obtain ⟨a, b⟩ := h
  rw [Int32.le_iff_toInt_le] at a b
  rw [nI_toInt (by omega)] at a
  refine ⟨x.toInt.toNat, by omega, by omega, ?_⟩
  have hlt := x.toInt_lt
  apply Int32.toInt_inj.mp
  rw [nI_toInt (by omega)]
  omega
theorem tz_ldv {K : Nat} {f : Nat → Int32} {x : Int32} (hb : K < 2147483648) (e : x = f (Int32.toNatClampNeg (nI K))) : x = f K := by
  rw [e, nI_clamp (by omega)]
theorem tz_zN_nat (f : Int32 → Int32) (v : Int32) : ∀ n : Nat, n ≤ 100 → ∃ o : Nat, o ≤ n ∧ zN f v n = nI o := by
  intro n
  induction n with
  | zero => intro _; exact ⟨0, Nat.le_refl _, rfl⟩
  | succ n ih =>
    intro hn
    obtain ⟨o, ho, e⟩ := ih (by omega)
    simp only [zN]
    by_cases h : f (nI n) = v
    · rw [if_pos h, e]; exact ⟨o + 1, by omega, nI_1 o⟩
    · rw [if_neg h, e]; exact ⟨o, by omega, rfl⟩
theorem tz_cmp_eq0 {x : Int64} (h : lg_cmp x 0 = 0) : x = 0 := by
  unfold lg_cmp at h
  by_cases h1 : (0 : Int64) < x
  · rw [if_pos h1] at h; exact absurd h (by decide)
  · by_cases e : x = 0
    · exact e
    · rw [if_neg h1, if_neg e] at h; exact absurd h (by decide)
theorem tz_cmp_gt0 {x : Int64} (h : ¬ lg_cmp x 0 ≤ 0) : 0 < x.toInt := by
  unfold lg_cmp at h
  by_cases h1 : (0 : Int64) < x
  · have := Int64.lt_iff_toInt_lt.mp h1; exact this
  · by_cases e : x = 0
    · rw [if_neg h1, if_pos e] at h; exact absurd (by decide) h
    · rw [if_neg h1, if_neg e] at h; exact absurd (by decide) h
theorem tz_m1 {x : Int32} (h : -1 ≤ x.toInt ∧ x.toInt ≤ 4) : x = -1 ∨ ∃ j : Nat, j ≤ 4 ∧ x = nI j := by
  by_cases e : x.toInt = -1
  · exact Or.inl (Int32.toInt_inj.mp (by rw [e]; rfl))
  · exact Or.inr (tz_natof (by omega) (by omega))
/-- a weight behind k counts -/
def tz_wv (k : Nat) (v : Int64) : Prop := 0 ≤ v.toInt ∧ v.toInt ≤ 1100 * 20 ^ k
theorem tz_p20 : ∀ k, k ≤ 8 → (1100 * 20 ^ k : Int) ≤ 28160000000000 := by decide +kernel
theorem tz_p20p : ∀ k, k ≤ 8 → (0 : Int) ≤ 1100 * 20 ^ k := by decide +kernel
theorem tz_p20m : ∀ k, k ≤ 8 → ∀ j, j ≤ k → (1100 * 20 ^ j : Int) ≤ 1100 * 20 ^ k := by decide +kernel
theorem tz_wv.step {k o : Nat} {v : Int64} (h : tz_wv k v) (hk : k < 8) (ho : o ≤ 20) : tz_wv (k + 1) (v * (nI o).toInt64) := by
  have e0 : (nI o).toInt64.toInt = (o : Int) := by rw [Jvm.Kit.i64_of_i32, nI_toInt (by omega)]
  have h1 : 0 ≤ v.toInt * (o : Int) := Int.mul_nonneg h.1 (by omega)
  have h2 : v.toInt * (o : Int) ≤ (1100 * 20 ^ k) * 20 := Int.mul_le_mul h.2 (by omega) (by omega) (tz_p20p k (by omega))
  have h3 : ((1100 * 20 ^ k) * 20 : Int) = 1100 * 20 ^ (k + 1) := by rw [Int.pow_succ, Int.mul_assoc]
  have h4 := tz_p20 (k + 1) (by omega)
  have e : (v * (nI o).toInt64).toInt = v.toInt * (o : Int) := by
    rw [Jvm.Kit.i64_mul (by rw [e0]; omega) (by rw [e0]; omega), e0]
  unfold tz_wv
  rw [e]
  exact ⟨h1, by omega⟩
theorem tz_wv.mono {k k' : Nat} {v : Int64} (h : tz_wv k v) (hk : k ≤ k') (h8 : k' ≤ 8) : tz_wv k' v :=
  ⟨h.1, Int.le_trans h.2 (tz_p20m k' h8 k hk)⟩
theorem tz_wv.one {k : Nat} {v : Int64} (h : tz_wv k v) (hk : k < 8) : tz_wv (k + 1) (v * 1) := by
  rw [Int64.mul_one]
  exact h.mono (by omega) (by omega)
theorem tz_wv0 {m : Nat} (h : m ≤ 1100) : tz_wv 0 (nI m).toInt64 := by
  unfold tz_wv
  rw [Jvm.Kit.i64_of_i32, nI_toInt (by omega)]
  omega
theorem tz_wv1 : tz_wv 0 1 := by unfold tz_wv; decide
theorem tz_wvz : tz_wv 8 0 := by unfold tz_wv; decide
/-- the weights so far, up to n = k less 1, and which is greatest -/
def tz_We (k : Nat) (ti : Int32) (f : Nat → Int64) : Prop := (∀ i : Nat, 90 + i < k → tz_wv 8 (f i)) ∧ (ti = -1 ∨ ∃ t : Nat, 90 + t < k ∧ ti = nI (90 + t) ∧ 0 < (f t).toInt)
theorem tz_We.init {f : Nat → Int64} : tz_We 90 (-1) f := ⟨fun i h => absurd h (by omega), Or.inl rfl⟩
def tz_W2 (k : Nat) (ti : Int32) (v : Int64) (f : Nat → Int64) : Prop := tz_We k ti f ∧ f (k - 90) = v ∧ tz_wv 8 v
theorem tz_We.store {k : Nat} {ti : Int32} {v : Int64} {f : Nat → Int64} (h : tz_We k ti f) (hv : tz_wv 8 v) (hk : 90 ≤ k) (hk2 : k < 1000) : tz_W2 k ti v (vp_updL f (Int32.toNatClampNeg (nI (k - 90))) v) := by
  rw [nI_clamp (by omega)]
  refine ⟨⟨fun i hi => ?_, ?_⟩, ?_, hv⟩
  · simp only [vp_updL, if_neg (show ¬ i = k - 90 by omega)]; exact h.1 i hi
  · rcases h.2 with e | ⟨t, a, b, c⟩
    · exact Or.inl e
    · refine Or.inr ⟨t, a, b, ?_⟩
      simp only [vp_updL, if_neg (show ¬ t = k - 90 by omega)]; exact c
  · simp only [vp_updL, if_true]
theorem tz_W2.keep {k : Nat} {ti : Int32} {v : Int64} {f : Nat → Int64} (h : tz_W2 k ti v f) (hk : 90 ≤ k) : tz_We (k + 1) ti f := by
  obtain ⟨⟨a, b⟩, c, d⟩ := h
  refine ⟨fun i hi => ?_, ?_⟩
  · by_cases e : 90 + i < k
    · exact a i e
    · obtain rfl : i = k - 90 := by omega
      rw [c]; exact d
  · rcases b with e | ⟨t, x, y, z⟩
    · exact Or.inl e
    · exact Or.inr ⟨t, by omega, y, z⟩
theorem tz_W2.take {k : Nat} {ti : Int32} {v : Int64} {f : Nat → Int64} (h : tz_W2 k ti v f) (hk : 90 ≤ k) (hv : ¬ lg_cmp v 0 ≤ 0) : tz_We (k + 1) (nI k) f := by
  refine ⟨(h.keep hk).1, Or.inr ⟨k - 90, by omega, ?_, ?_⟩⟩
  · rw [show 90 + (k - 90) = k by omega]
  · rw [h.2.1]; exact tz_cmp_gt0 hv
theorem tz_W2.ex {k : Nat} {ti : Int32} {v : Int64} {f : Nat → Int64} (h : tz_W2 k ti v f) (hne : ¬ ti = -1) : ∃ t : Nat, 90 + t < k ∧ ti = nI (90 + t) := by
  rcases h.1.2 with e | ⟨t, a, b, -⟩
  · exact absurd e hne
  · exact ⟨t, a, b⟩
theorem tz_We.ex {k : Nat} {ti : Int32} {f : Nat → Int64} (h : tz_We k ti f) (hne : ¬ ti = -1) : ∃ t : Nat, 90 + t < k ∧ ti = nI (90 + t) ∧ 0 < (f t).toInt := by
  rcases h.2 with e | e
  · exact absurd e hne
  · exact e
theorem tz_We.cast {k k' : Nat} {ti : Int32} {f : Nat → Int64} (h : tz_We k ti f) (e : k = k') : tz_We k' ti f := e ▸ h
/-- a product of a weight with odds, so often -/
def tz_tp (M k o : Nat) (v x : Int64) : Prop := 0 ≤ x.toInt ∧ x.toInt ≤ ((M * 20 ^ k : Nat) : Int) ∧ (0 < v.toInt → 0 < o → 0 < x.toInt)
def tz_tv (M : Nat) (v : Int64) : Prop := 0 ≤ v.toInt ∧ v.toInt ≤ (M : Int)
theorem tz_tp.init {M o : Nat} {v : Int64} (h : tz_tv M v) : tz_tp M 0 o v v := ⟨h.1, by simpa using h.2, fun a _ => a⟩
theorem tz_tp.step {M k n o : Nat} {v x : Int64} (h : tz_tp M k o v x) (ho : o ≤ 20) (hk : k < n) (hn : M * 20 ^ n < 9223372036854775808) : tz_tp M (k + 1) o v (x * (nI o).toInt64) := by
  obtain ⟨a, b, c⟩ := h
  have e0 : (nI o).toInt64.toInt = (o : Int) := by rw [Jvm.Kit.i64_of_i32, nI_toInt (by omega)]
  have hp : M * 20 ^ (k + 1) ≤ M * 20 ^ n := Nat.mul_le_mul_left _ (Nat.pow_le_pow_right (by decide) hk)
  have hq : M * 20 ^ (k + 1) = M * 20 ^ k * 20 := by rw [Nat.pow_succ, Nat.mul_assoc]
  have h1 : 0 ≤ x.toInt * (o : Int) := Int.mul_nonneg a (by omega)
  have h2 : x.toInt * (o : Int) ≤ ((M * 20 ^ k : Nat) : Int) * 20 := Int.mul_le_mul b (by omega) (by omega) (by omega)
  have e : (x * (nI o).toInt64).toInt = x.toInt * (o : Int) := by
    rw [Jvm.Kit.i64_mul (by rw [e0]; omega) (by rw [e0]; omega), e0]
  unfold tz_tp
  rw [e]
  refine ⟨h1, by omega, fun u w => ?_⟩
  exact Int.mul_pos (c u w) (by omega)
theorem tz_tp.tv {M k o : Nat} {v x : Int64} (h : tz_tp M k o v x) : tz_tv (M * 20 ^ k) x := ⟨h.1, h.2.1⟩
theorem tz_tp.cast {M k k' o : Nat} {v x : Int64} (h : tz_tp M k o v x) (e : k = k') : tz_tp M k' o v x := e ▸ h
theorem tz_wv.tv {v : Int64} (h : tz_wv 8 v) : tz_tv 28160000000000 v := ⟨h.1, by have := h.2; have e : (1100 * 20 ^ 8 : Int) = 28160000000000 := by decide
                                                                                  omega⟩
theorem tz_pw1 {a : Nat} (h : a ≤ 3) : 28160000000000 * 20 ^ a < 9223372036854775808 := by
  rcases (show a = 0 ∨ a = 1 ∨ a = 2 ∨ a = 3 by omega) with rfl | rfl | rfl | rfl <;> decide
theorem tz_pw2 : ∀ a, a ≤ 3 → ∀ b, b ≤ 3 → a + b ≤ 3 → 28160000000000 * 20 ^ a * 20 ^ b < 9223372036854775808 := by decide +kernel
theorem tz_pw3 : ∀ a, a ≤ 3 → ∀ b, b ≤ 3 → ∀ c, c ≤ 3 → a + b + c ≤ 3 → 28160000000000 * 20 ^ a * 20 ^ b * 20 ^ c ≤ 225280000000000000 := by decide +kernel
/-- the weights then, summed up to n = k less 1; t the one that is truly -/
def tz_Al (k t : Nat) (x : Int64) : Prop := 90 ≤ k ∧ 0 ≤ x.toInt ∧ x.toInt ≤ (((k - 90) * 225280000000000000 : Nat) : Int) ∧ (90 + t < k → 0 < x.toInt)
theorem tz_Al.init {t : Nat} : tz_Al 90 t 0 := ⟨by omega, by decide, by decide, fun h => absurd h (by omega)⟩
theorem tz_Al.step {k t : Nat} {x v : Int64} (h : tz_Al k t x) (hk : k ≤ 110) (h0 : 0 ≤ v.toInt) (h1 : v.toInt ≤ 225280000000000000) (hp : k = 90 + t → 0 < v.toInt) : tz_Al (k + 1) t (x + v) := by
  obtain ⟨a, b, c, d⟩ := h
  have e : (x + v).toInt = x.toInt + v.toInt := Jvm.Kit.i64_add (by omega) (by omega)
  unfold tz_Al
  rw [e]
  refine ⟨by omega, by omega, by omega, fun q => ?_⟩
  by_cases z : k = 90 + t
  · have := hp z; omega
  · have := d (by omega); omega
theorem tz_Al.ne {t : Nat} {k : Nat} {x : Int64} (h : tz_Al k t x) (hk : 90 + t < k) : ¬ x = 0 := fun e => by
  have := h.2.2.2 hk
  rw [e] at this
  exact absurd this (by decide)
theorem tz_v3 {a b c o1 o2 o3 : Nat} {v x y z : Int64} (h1 : tz_tp 28160000000000 a o1 v x) (h2 : tz_tp (28160000000000 * 20 ^ a) b o2 x y) (h3 : tz_tp (28160000000000 * 20 ^ a * 20 ^ b) c o3 y z) (h : a + b + c ≤ 3) : 0 ≤ z.toInt ∧ z.toInt ≤ 225280000000000000 ∧ (0 < v.toInt → 0 < o1 → 0 < o2 → 0 < o3 → 0 < z.toInt) := by
  have hb := tz_pw3 a (by omega) b (by omega) c (by omega) h
  refine ⟨h3.1, ?_, fun p q r s => h3.2.2 (h2.2.2 (h1.2.2 p q) r) s⟩
  have := h3.2.1
  omega
/-! the reference's orders -/
def tz_Or (m b : Nat) (f : Nat → Int32) : Prop := (∀ a : Nat, a < m → 0 ≤ (f a).toInt ∧ (f a).toInt < (b : Int)) ∧ ∀ a c : Nat, a < c → c < m → (f a).toInt < (f c).toInt
theorem tz_Or.init {b : Nat} {f : Nat → Int32} : tz_Or 0 b f := ⟨fun a h => absurd h (Nat.not_lt_zero a), fun a c _ h => absurd h (Nat.not_lt_zero c)⟩
theorem tz_Or.mono {m b : Nat} {f : Nat → Int32} (h : tz_Or m b f) : tz_Or m (b + 1) f := ⟨fun a q => ⟨(h.1 a q).1, by have := (h.1 a q).2; omega⟩, h.2⟩
theorem tz_Or.push {m b : Nat} {f : Nat → Int32} (h : tz_Or m b f) (hm : m < 1000) (hb : b < 1000) : tz_Or (m + 1) (b + 1) (upd f (Int32.toNatClampNeg (nI m)) (nI b)) := by
  rw [nI_clamp (by omega)]
  refine ⟨fun a q => ?_, fun a c q r => ?_⟩
  · by_cases e : a = m
    · subst e; simp only [upd, if_true]; rw [nI_toInt (by omega)]; omega
    · simp only [upd, if_neg e]; have := h.1 a (by omega); omega
  · simp only [upd, if_neg (show ¬ a = m by omega)]
    by_cases e : c = m
    · subst e; simp only [if_true]; rw [nI_toInt (by omega)]; exact (h.1 a (by omega)).2
    · simp only [if_neg e]; exact h.2 a c q (by omega)
theorem tz_Or.natc {m b K : Nat} {f : Nat → Int32} (h : tz_Or m b f) (hK : K < m) (hb : K < 2147483648) : ∃ j : Nat, j < b ∧ f (Int32.toNatClampNeg (nI K)) = nI j := by
  rw [nI_clamp (by omega)]
  obtain ⟨x, y⟩ := h.1 K hK
  obtain ⟨j, hj, e⟩ := tz_natof (n := (f K).toInt.toNat) x (by omega)
  exact ⟨j, by omega, e⟩
theorem tz_Or.cast {m b b' : Nat} {f : Nat → Int32} (h : tz_Or m b f) (e : b = b') : tz_Or m b' f := e ▸ h
def tz_Di (m : Nat) (f : Nat → Int32) : Prop := (∀ a : Nat, a < m → 0 ≤ (f a).toInt ∧ (f a).toInt ≤ 5) ∧ ∀ a c : Nat, a < c → c < m → ¬ (f a).toInt = (f c).toInt
theorem tz_Or.di {m b : Nat} {f : Nat → Int32} (h : tz_Or m b f) (hb : b ≤ 6) : tz_Di m f := ⟨fun a q => by have := h.1 a q; omega, fun a c q r => by have := h.2 a c q r; omega⟩
theorem tz_Di.natc {m K : Nat} {f : Nat → Int32} (h : tz_Di m f) (hK : K < m) (hb : K < 2147483648) : ∃ j : Nat, j ≤ 5 ∧ f (Int32.toNatClampNeg (nI K)) = nI j := by
  rw [nI_clamp (by omega)]
  exact tz_natof (h.1 K hK).1 (h.1 K hK).2
theorem tz_Di.perm {m : Nat} {f g : Nat → Int32} (h : tz_Di m f) (p : Nat → Nat) (hp : ∀ a : Nat, a < m → p a < m ∧ g a = f (p a)) (hi : ∀ a : Nat, a < m → ∀ c : Nat, c < m → a < c → ¬ p a = p c) : tz_Di m g := by
  refine ⟨fun a q => ?_, fun a c q r => ?_⟩
  · rw [(hp a q).2]; exact h.1 _ (hp a q).1
  · rw [(hp a (by omega)).2, (hp c r).2]
    have hne := hi a (by omega) c r q
    rcases Nat.lt_or_gt_of_ne hne with z | z
    · exact h.2 _ _ z (hp c r).1
    · exact fun e => h.2 _ _ z (hp a (by omega)).1 e.symm
def tz_d (m : Nat) (f : Nat → Int32) (i : Nat) : Int := if i < m then (f i).toInt else 0
def tz_val (m : Nat) (f : Nat → Int32) : Int := 7776 * tz_d m f 0 + 1296 * tz_d m f 1 + 216 * tz_d m f 2 + 36 * tz_d m f 3 + 6 * tz_d m f 4 + tz_d m f 5
theorem tz_Di.d {m : Nat} {f : Nat → Int32} (h : tz_Di m f) (i : Nat) : 0 ≤ tz_d m f i ∧ tz_d m f i ≤ 5 := by
  unfold tz_d
  by_cases e : i < m
  · rw [if_pos e]; exact h.1 i e
  · rw [if_neg e]; omega
theorem tz_Di.val {m : Nat} {f : Nat → Int32} (h : tz_Di m f) : tz_val m f ≤ 46655 := by
  have h0 := h.d 0
  have h1 := h.d 1
  have h2 := h.d 2
  have h3 := h.d 3
  have h4 := h.d 4
  have h5 := h.d 5
  unfold tz_val
  omega
/-- a place that doesn't fall -/
def tz_as (m : Nat) (f : Nat → Int32) : Prop := ∃ k : Nat, k + 1 < m ∧ ¬ (f (k + 1)).toInt < (f k).toInt
def tz_fl (x : Int32) : Nat := if x = 0 then 0 else 1
theorem tz_lk1 {m : Nat} {f g : Nat → Int32} {v : Int32} (h : tz_val m f < tz_val m g) (hg : tz_Di m g) (hv : ¬ v = 0) : 2 * (46656 - tz_val m g).toNat + tz_fl 1 < 2 * (46656 - tz_val m f).toNat + tz_fl v := by
  have h1 := hg.val
  have e1 : tz_fl 1 = 1 := rfl
  have e2 : tz_fl v = 1 := if_neg hv
  rw [e1, e2]
  omega
theorem tz_lk0 {m : Nat} {f g : Nat → Int32} {v : Int32} (h : tz_val m f ≤ tz_val m g) (hv : ¬ v = 0) : 2 * (46656 - tz_val m g).toNat + tz_fl 0 < 2 * (46656 - tz_val m f).toNat + tz_fl v := by
  have e1 : tz_fl 0 = 0 := rfl
  have e2 : tz_fl v = 1 := if_neg hv
  rw [e1, e2]
  omega
theorem tz_fl1 {a b : Nat} {v : Int32} (h : b < a) (hv : ¬ v = 0) : 2 * b + tz_fl 1 < 2 * a + tz_fl v := by
  have e1 : tz_fl 1 = 1 := rfl
  have e2 : tz_fl v = 1 := if_neg hv
  rw [e1, e2]
  omega
theorem tz_fl0 {a : Nat} {v : Int32} (hv : ¬ v = 0) : 2 * a + tz_fl 0 < 2 * a + tz_fl v := by
  have e1 : tz_fl 0 = 0 := rfl
  have e2 : tz_fl v = 1 := if_neg hv
  rw [e1, e2]
  omega
def tz_ao (k : Nat) (r : Int32) : Prop := (k : Int) ≤ r.toInt ∧ r.toInt ≤ 20 * (k : Int)
theorem tz_ao.init : tz_ao 0 0 := by unfold tz_ao; decide
theorem tz_ao.step {k o : Nat} {r : Int32} (h : tz_ao k r) (hk : k < 1000) (h1 : 1 ≤ o) (h2 : o ≤ 20) : tz_ao (k + 1) (r + nI o) := by
  unfold tz_ao at h ⊢
  have e : (r + nI o).toInt = r.toInt + (o : Int) := by
    rw [Int32.toInt_add, nI_toInt (by omega)]
    exact Int.bmod_eq_of_le (by omega) (by omega)
  rw [e]
  omega
theorem tz_ao.cast {k k' : Nat} {r : Int32} (h : tz_ao k r) (e : k = k') : tz_ao k' r := e ▸ h
theorem tz_ao.ne {k : Nat} {r : Int32} (h : tz_ao k r) (h1 : 1 ≤ k) (h2 : k ≤ 6) : ¬ (10 * r.toInt64 : Int64) = 0 := by
  intro e
  have e1 : (10 * r.toInt64 : Int64).toInt = 10 * r.toInt := by
    have e0 : (10 : Int64).toInt = 10 := by decide
    rw [Jvm.Kit.i64_mul (by rw [Jvm.Kit.i64_of_i32, e0]; have := h.1; have := h.2; omega) (by rw [Jvm.Kit.i64_of_i32, e0]; have := h.1; have := h.2; omega), Jvm.Kit.i64_of_i32, e0]
  rw [e] at e1
  have e2 : (0 : Int64).toInt = 0 := by decide
  rw [e2] at e1
  have := h.1
  omega
theorem tz_OK.odds {N J jb : Nat} {f : Nat → Int32} (h : tz_OK N f) (h3 : f 3 = nI J) (hJ : J ≤ 6) (hb : jb < J) (hN : 86 ≤ N) : ∃ j : Nat, 1 ≤ j ∧ j ≤ 20 ∧ f (Int32.toNatClampNeg (nI (62 + 4 * jb + 1))) = nI j := by
  obtain ⟨j, hj, e⟩ := h.natc (K := 62 + 4 * jb + 1) (n := 20) (by omega) (by omega) (tz_b_c1 jb (by omega))
  refine ⟨j, ?_, hj, e⟩
  have hp := h.2 jb (by omega) (by rw [h3, nI_toInt (by omega)]; omega)
  rw [show 63 + 4 * jb = 62 + 4 * jb + 1 by omega] at hp
  rw [nI_clamp (by omega)] at e
  rw [e, nI_toInt (by omega)] at hp
  omega
theorem tz_le_of {x y : Int32} (h : ¬ x < y) : ¬ x.toInt < y.toInt := fun q => h (Int32.lt_iff_toInt_lt.mpr q)
theorem tz_gt_of {x y : Int32} (h : ¬ x ≤ y) : y.toInt < x.toInt := by
  have := tz_nle h
  exact Int32.lt_iff_toInt_lt.mp this
theorem tz_nle_of {x y : Int32} (h : x ≤ y) : ¬ y.toInt < x.toInt := by
  rw [Int32.le_iff_toInt_le] at h
  omega
theorem tz_ltt {x y : Int32} (h : ¬ y < x) (hne : ¬ x.toInt = y.toInt) : x.toInt < y.toInt := by
  have := tz_le_of h
  omega
theorem tz_pickM {x : Int32} {J : Nat} (h : 0 ≤ x ∧ x ≤ nI J - 1) (hJ : J ≤ 1000) : ∃ j : Nat, j < J ∧ x = nI j := by
  obtain ⟨a, b⟩ := h
  rw [Int32.le_iff_toInt_le] at a b
  have e : (nI J - 1).toInt = (J : Int) - 1 := pk_sub_toInt (a := J) (b := 1) (by omega) (by decide)
  rw [e] at b
  have a' : (0 : Int) ≤ x.toInt := a
  refine ⟨x.toInt.toNat, by omega, ?_⟩
  have hlt := x.toInt_lt
  apply Int32.toInt_inj.mp
  rw [nI_toInt (by omega)]
  omega
theorem tz_ltt2 {x y : Int32} (h : x ≤ y) (hne : ¬ x.toInt = y.toInt) : x.toInt < y.toInt := by
  rw [Int32.le_iff_toInt_le] at h
  omega
theorem tz_OK.zero (N : Nat) (h : N ≤ 350) : tz_OK N (fun _ => 0) := ⟨fun i hi => tz_bd_zero (by omega), fun i _ h1 => absurd h1 (by show ¬ ((i : Int) < 0); omega)⟩
