theorem tz_vin {a i N : Nat} (h : a + i < N) (hN : N < 2 ^ 31) : vp_in (nI a + nI i) N := by rw [nI_add]; exact vp_in_nI h hN
-- counts by a seed
def dX (sd : Nat) : Nat → Nat
  | 0 => sd
  | i + 1 => (dX sd i * 1103515245 + 12345) % 2147483648
def dT (f : Int32 → Int32) (t : Int32) (sd i : Nat) : Int32 := t + f (nI (dX sd (i + 1) / 65536 % 20))
def dR (t : Int32) (g : Nat → Int32) : Nat → Int32
  | 0 => 0
  | i + 1 => if g i = t then dR t g i + 1 else dR t g i
def dL (g : Nat → Int32) : Nat → Int32
  | 0 => -1
  | i + 1 => if i = 0 then g i else if g i < dL g i then g i else dL g i
def dG (g : Nat → Int32) : Nat → Int32
  | 0 => -1
  | i + 1 => if i = 0 then g i else if dG g i < g i then g i else dG g i
def eL (g : Nat → Int32) : Nat → Int32
  | 0 => -1
  | i + 1 => if i = 0 then g i else if eL g i ≤ g i then eL g i else g i
def eG (g : Nat → Int32) : Nat → Int32
  | 0 => -1
  | i + 1 => if g i ≤ eG g i then eG g i else g i
theorem tz_dxlt {sd : Nat} (h : sd < 2147483648) : ∀ i, dX sd i < 2147483648
  | 0 => h
  | i + 1 => Nat.mod_lt _ (by decide)
theorem tz_dx {n : Nat} (h : n < 2147483648) : lN n * 1103515245 + 12345 - (lN n * 1103515245 + 12345) / 2147483648 * 2147483648 = lN ((n * 1103515245 + 12345) % 2147483648) := by
  have e : lN n * 1103515245 + 12345 = lN (n * 1103515245 + 12345) := by
    rw [← lN_add, ← lN_mul]; rfl
  rw [e]
  exact pk_lRem (a := n * 1103515245 + 12345) (b := 2147483648) (by omega) (by decide) (by decide)
theorem tz_di {n : Nat} (h : n < 2147483648) : (lN n / 65536 - lN n / 65536 / 20 * 20).toInt32 = nI (n / 65536 % 20) := by
  have e : lN n / 65536 = lN (n / 65536) := pk_lDiv (a := n) (b := 65536) (by omega) (by decide) (by decide)
  rw [e, ← lN_i]
  exact congrArg Int64.toInt32 (pk_lRem (a := n / 65536) (b := 20) (by omega) (by decide) (by decide))
theorem tz_n0 {i : Nat} (hi : i < 2 ^ 31) (h : nI i = 0) : i = 0 := (nI_eq hi (by decide)).mp (h.trans nI_0.symm)
theorem tz_eL (g : Nat → Int32) : ∀ n, eL g n = dL g n
  | 0 => rfl
  | i + 1 => by
    simp only [eL, dL]
    rw [tz_eL g i]
    by_cases h0 : i = 0
    · rw [if_pos h0, if_pos h0]
    · rw [if_neg h0, if_neg h0]
      by_cases h1 : g i < dL g i
      · rw [if_pos h1, if_neg (tz_ltn h1)]
      · rw [if_neg h1, if_pos (tz_nlt h1)]
theorem tz_eG {g : Nat → Int32} (h : ¬ g 0 ≤ -1) : ∀ n, eG g n = dG g n
  | 0 => rfl
  | i + 1 => by
    simp only [eG, dG]
    rw [tz_eG h i]
    by_cases h0 : i = 0
    · subst h0
      rw [if_pos rfl]
      exact if_neg h
    · rw [if_neg h0]
      by_cases h1 : dG g i < g i
      · rw [if_pos h1, if_neg (tz_ltn h1)]
      · rw [if_neg h1, if_pos (tz_nlt h1)]
theorem tz_low {w : Int32} (h : 0 ≤ w ∧ w ≤ 5) : ∀ j, j < 20 → -5 ≤ (zS w (nI j)).toInt ∧ (zS w (nI j)).toInt ≤ 5 := by
  rcases tz_six h with rfl | rfl | rfl | rfl | rfl | rfl <;> decide
theorem tz_dTy {w : Int32} (h : 0 ≤ w ∧ w ≤ 5) (t : Int32) (sd : Nat) : dT (yS w) t sd = dT (zS w) t sd := by
  funext i
  unfold dT
  rw [tz_yz h _ (Nat.mod_lt _ (by decide))]
theorem tz_dT0 {w t : Int32} (h : 0 ≤ w ∧ w ≤ 5) (ht : 80 ≤ t ∧ t ≤ 120) (sd i : Nat) : ¬ dT (zS w) t sd i ≤ -1 := by
  obtain ⟨a, b⟩ := ht
  obtain ⟨u, v⟩ := tz_low h (dX sd (i + 1) / 65536 % 20) (Nat.mod_lt _ (by decide))
  unfold dT
  generalize zS w (nI (dX sd (i + 1) / 65536 % 20)) = z at u v
  rw [Int32.le_iff_toInt_le] at a b ⊢
  have a' : (80 : Int) ≤ t.toInt := a
  have b' : t.toInt ≤ (120 : Int) := b
  have e : (t + z).toInt = t.toInt + z.toInt := by
    rw [Int32.toInt_add]
    apply Int.bmod_eq_of_le <;> omega
  rw [e]
  show ¬ t.toInt + z.toInt ≤ (-1 : Int)
  omega
theorem tz_way {na nb : Int32} : (if 0 ≤ na ∧ na ≤ 5 then (if 0 ≤ nb ∧ nb ≤ 21 then (if 20 ≤ nb then (if nb = 20 then zM na else zN (zS na) 0 20) else zS na nb) else (-100)) else (-100)) = (if 0 ≤ na ∧ na ≤ 5 then (if 0 ≤ nb ∧ nb ≤ 21 then (if nb = 20 then zM na else if nb = 21 then zN (yS na) 0 20 else yS na nb) else (-100)) else (-100)) := by
  by_cases h1 : 0 ≤ na ∧ na ≤ 5
  · rw [if_pos h1, if_pos h1]
    by_cases h2 : 0 ≤ nb ∧ nb ≤ 21
    · rw [if_pos h2, if_pos h2]
      obtain ⟨j, hj, rfl⟩ := tz_pick (n := 22) h2.1 h2.2 (by decide)
      by_cases h3 : (20 : Int32) ≤ nI j
      · rw [if_pos h3]
        have h4 : 20 ≤ j := (nI_leI (a := 20) (b := j) (by decide) (by omega)).mp h3
        rcases (show j = 20 ∨ j = 21 by omega) with rfl | rfl
        · rfl
        · rw [if_neg (by decide), if_neg (by decide), if_pos (by decide)]
          exact (tz_zN_congr (tz_yz h1) 0 20 (by decide)).symm
      · rw [if_neg h3]
        have h4 : ¬ 20 ≤ j := fun q => h3 ((nI_leI (a := 20) (b := j) (by decide) (by omega)).mpr q)
        rw [if_neg (fun q => h4 (by have := (nI_eq (a := j) (b := 20) (by omega) (by decide)).mp q; omega)), if_neg (fun q => h4 (by have := (nI_eq (a := j) (b := 21) (by omega) (by decide)).mp q; omega))]
        exact (tz_yz h1 j (by omega)).symm
    · rw [if_neg h2, if_neg h2]
  · rw [if_neg h1, if_neg h1]
theorem tz_odds {na nb : Int32} : (if 0 ≤ na ∧ na ≤ 5 then (if (-40) ≤ nb ∧ nb ≤ 40 then zN (zS na) nb 20 else (-2)) else (-2)) = (if 0 ≤ na ∧ na ≤ 5 then (if (-40) ≤ nb ∧ nb ≤ 40 then zN (yS na) nb 20 else (-2)) else (-2)) := by
  by_cases h1 : 0 ≤ na ∧ na ≤ 5
  · rw [if_pos h1, if_pos h1, tz_zN_congr (tz_yz h1) nb 20 (by decide)]
  · rw [if_neg h1, if_neg h1]
theorem tz_part {na : Int32} : (if 0 ≤ na ∧ na ≤ 1 then (if na = 0 then 0 else 1) else (-2)) = (if na = 0 then (0 : Int64) else if na = 1 then 1 else (-2)) := by
  by_cases h : 0 ≤ na ∧ na ≤ 1
  · rw [if_pos h]
    rcases tz_two h with rfl | rfl <;> rfl
  · rw [if_neg h, if_neg (fun e => h (by subst e; decide)), if_neg (fun e => h (by subst e; decide))]
theorem tz_cmp_self {x y : Int64} (h : x = y) : lg_cmp x y = 0 := by subst h; simp [lg_cmp]
def dS (f : Int32 → Int32 → Int32) (L G : (Nat → Int32) → Nat → Int32) (na nb nc nd ne : Int32) : Int32 := if 0 ≤ na ∧ na ≤ 5 then (if 80 ≤ nb ∧ nb ≤ 120 then (if 0 ≤ nc ∧ nc ≤ 60 then (if 0 ≤ nd ∧ nd ≤ 999999 then (if 0 ≤ ne ∧ ne ≤ 2 then (if ne = 0 then dR nb (dT (f na) nb nd.toNatClampNeg) nc.toNatClampNeg else if ne = 1 then L (dT (f na) nb nd.toNatClampNeg) nc.toNatClampNeg else G (dT (f na) nb nd.toNatClampNeg) nc.toNatClampNeg) else (-2)) else (-2)) else (-2)) else (-2)) else (-2)
theorem tz_drawn (na nb nc nd ne : Int32) : dS zS dL dG na nb nc nd ne = dS yS eL eG na nb nc nd ne := by
  unfold dS
  by_cases h1 : 0 ≤ na ∧ na ≤ 5
  · rw [if_pos h1, if_pos h1]
    by_cases h2 : 80 ≤ nb ∧ nb ≤ 120
    · rw [if_pos h2, if_pos h2, tz_dTy h1, tz_eL, tz_eG (tz_dT0 h1 h2 _ 0)]
    · rw [if_neg h2, if_neg h2]
  · rw [if_neg h1, if_neg h1]
