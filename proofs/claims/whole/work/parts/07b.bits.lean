/-! ===== bits ===== -/
theorem bx_and (a b : Nat) : nI a &&& nI b = nI (a &&& b) := by
  apply Int32.toBitVec_inj.mp
  show BitVec.ofNat 32 a &&& BitVec.ofNat 32 b = BitVec.ofNat 32 (a &&& b)
  rw [BitVec.ofNat_and]
theorem bx_or (a b : Nat) : nI a ||| nI b = nI (a ||| b) := by
  apply Int32.toBitVec_inj.mp
  show BitVec.ofNat 32 a ||| BitVec.ofNat 32 b = BitVec.ofNat 32 (a ||| b)
  rw [BitVec.ofNat_or]
theorem bx_1 : ∀ n, n < 20 → (1 : Int32) <<< (nI n &&& 31) = nI (2 ^ n) := by decide +kernel
theorem bx_s : ∀ n, n < 20 → ((nI n &&& 31).toBitVec.smod 32).toNat = n := by decide +kernel
def bitsN (p : Nat → Bool) : Nat → Nat
  | 0 => 0
  | n + 1 => if p n then 2 ^ n + bitsN p n else bitsN p n
theorem bitsN_lt (p : Nat → Bool) : ∀ n, bitsN p n < 2 ^ n
  | 0 => by simp [bitsN]
  | n + 1 => by
    have ih := bitsN_lt p n
    rw [bitsN, Nat.pow_succ]
    split <;> omega
theorem bitsI_eq (p : Nat → Bool) : ∀ n, n ≤ 20 → bitsI p n = nI (bitsN p n)
  | 0, _ => rfl
  | n + 1, h => by
    rw [bitsI, bitsN, bitsI_eq p n (by omega), bx_1 n (by omega), bx_or]
    by_cases q : p n = true
    · rw [if_pos q, if_pos q]
      have h1 := bitsN_lt p n
      have : bitsN p n ||| 2 ^ n = 2 ^ n + bitsN p n := by
        rw [Nat.or_comm]
        have := Nat.two_pow_add_eq_or_of_lt h1 1
        rw [Nat.mul_one] at this
        exact this.symm
      rw [this]
    · rw [if_neg q, if_neg q]
theorem bitsN_test (p : Nat → Bool) : ∀ n j, (bitsN p n).testBit j = (decide (j < n) && p j)
  | 0, j => by simp [bitsN]
  | n + 1, j => by
    have ih := bitsN_test p n j
    have hl := bitsN_lt p n
    rw [bitsN]
    rcases Nat.lt_trichotomy j n with q | q | q
    · have : (2 ^ n + bitsN p n).testBit j = (bitsN p n).testBit j := Nat.testBit_two_pow_add_gt q _
      by_cases r : p n = true
      · rw [if_pos r, this, ih]; simp [q, Nat.lt_succ_of_lt q]
      · rw [if_neg r, ih]; simp [q, Nat.lt_succ_of_lt q]
    · subst q
      have : (2 ^ j + bitsN p j).testBit j = !(bitsN p j).testBit j := Nat.testBit_two_pow_add_eq _ _
      by_cases r : p j = true
      · rw [if_pos r, this, ih]; simp [r]
      · rw [if_neg r, ih]; simp [r]
    · have h1 : bitsN p (n + 1) < 2 ^ (n + 1) := bitsN_lt p (n + 1)
      have h2 : bitsN p (n + 1) < 2 ^ j := Nat.lt_of_lt_of_le h1 (Nat.pow_le_pow_right (by omega) (by omega))
      have h3 := Nat.testBit_lt_two_pow h2
      rw [bitsN] at h3
      rw [h3]
      simp [show ¬ j < n + 1 by omega]
theorem bx_test {v j : Nat} (hv : v < 2 ^ 31) (hj : j < 20) : (nI v >>> (nI j &&& 31)) &&& 1 = if v.testBit j then 1 else 0 := by
  rw [pk_shrN hv _ j (bx_s j hj), show (1 : Int32) = nI 1 from rfl, bx_and, Nat.and_one_is_mod, Nat.testBit_eq_decide_div_mod_eq]
  have : v / 2 ^ j % 2 = 0 ∨ v / 2 ^ j % 2 = 1 := by omega
  rcases this with q | q <;> rw [q] <;> rfl
theorem bitsI_test {p : Nat → Bool} {n j : Nat} (hn : n ≤ 20) (hj : j < n) : ((bitsI p n >>> (nI j &&& 31)) &&& 1 = 1) ↔ p j = true := by
  rw [bitsI_eq p n hn, bx_test (Nat.lt_of_lt_of_le (bitsN_lt p n) (Nat.pow_le_pow_right (by omega) (by omega))) (by omega), bitsN_test]
  cases p j <;> simp [hj]
theorem bitsI_t {p : Nat → Bool} {n : Nat} (h : p n = true) : bitsI p (n + 1) = bitsI p n ||| (1 <<< (nI n &&& 31)) := by rw [bitsI, if_pos h]
theorem bitsI_f {p : Nat → Bool} {n : Nat} (h : p n = false) : bitsI p (n + 1) = bitsI p n := by rw [bitsI, h]; rfl
theorem bitsI_bt {p : Nat → Bool} {n : Nat} {b : Int32} (h : p n = true) : (b ||| (1 <<< (nI n &&& 31))) ||| bitsI p n = b ||| bitsI p (n + 1) := by
  rw [bitsI_t h, Int32.or_assoc, Int32.or_comm (1 <<< (nI n &&& 31))]
theorem bitsI_bf {p : Nat → Bool} {n : Nat} {b : Int32} (h : p n = false) : b ||| bitsI p n = b ||| bitsI p (n + 1) := by rw [bitsI_f h]
/-- how many bits -/
def popN (v : Nat) : Nat := v % 2 + v / 2 % 2 + v / 4 % 2 + v / 8 % 2 + v / 16 % 2 + v / 32 % 2 + v / 64 % 2 + v / 128 % 2 + v / 256 % 2 + v / 512 % 2 + v / 1024 % 2 + v / 2048 % 2
def popI (x : Int32) : Int32 := nI (popN x.toNatClampNeg)
theorem popI_nI {v : Nat} (h : v < 4096) : popI (nI v) = nI (popN v) := by rw [popI, nI_clamp (by omega)]
def allKnF (σ : Ln) : Int32 := sum0 (fun l => popI (knowersF σ l)) (lsN σ)
theorem knowersF_eq (σ : Ln) (l : Nat) (h : hsN σ ≤ 12) : ∃ v, v < 4096 ∧ knowersF σ l = nI v := ⟨bitsN _ _, Nat.lt_of_lt_of_le (bitsN_lt _ _) (Nat.pow_le_pow_right (by omega) h), bitsI_eq _ _ (by omega)⟩
theorem knownF_eq (σ : Ln) (k : Nat) (h : lsN σ ≤ 8) : ∃ v, v < 256 ∧ knownF σ k = nI v := ⟨bitsN _ _, Nat.lt_of_lt_of_le (bitsN_lt _ _) (Nat.pow_le_pow_right (by omega) h), bitsI_eq _ _ (by omega)⟩
/-- the house at a step -/
def stepH (σ : Ln) (i : Nat) : Nat := if σ 6 0 = 0 then i else hsN σ - 1 - i
/-- the first and the last by the way -/
def fstW (p : Nat → Bool) (g : Nat → Nat) : Nat → Int32
  | 0 => -1
  | n + 1 => if fstW p g n = -1 then (if p (g n) then nI (g n) else -1) else fstW p g n
def lstW (p : Nat → Bool) (g : Nat → Nat) : Nat → Int32
  | 0 => -1
  | n + 1 => if p (g n) then nI (g n) else lstW p g n
theorem nI_ne_m1 {k : Nat} (h : k ≤ 1000) : ¬ nI k = -1 := fun q => nI_pos (n := k) (by omega) (by rw [q]; decide)
theorem fstW_stay {p : Nat → Bool} {g : Nat → Nat} {i : Nat} (h : ¬ fstW p g i = -1) : ∀ d, fstW p g (i + d) = fstW p g i
  | 0 => rfl
  | d + 1 => by
    have ih := fstW_stay h d
    rw [show i + (d + 1) = (i + d) + 1 by omega, fstW, if_neg (by rw [ih]; exact h), ih]
def firstF (σ : Ln) (l : Nat) : Int32 := fstW (fun k => knowB σ l k) (stepH σ) (hsN σ)
def lastF (σ : Ln) (l : Nat) : Int32 := lstW (fun k => knowB σ l k) (stepH σ) (hsN σ)
def loudF (σ : Ln) (k : Nat) : Int32 := (amx (fun l => heardF σ l k) 0 (-1) (lsN σ)).2
theorem amx_t {f : Nat → Int32} {m b : Int32} {n : Nat} (h : (amx f m b n).1 < f n) : amx f m b (n + 1) = (f n, nI n) := if_pos h
theorem amx_f {f : Nat → Int32} {m b : Int32} {n : Nat} (h : ¬ (amx f m b n).1 < f n) : amx f m b (n + 1) = amx f m b n := if_neg h
theorem bestN_t {f : Nat → Int32} {n : Nat} (h0 : 0 < n) (h : f (bestN f n) < f n) : bestN f (n + 1) = n := by rw [bestN, if_neg (by omega), if_pos h]
theorem bestN_f {f : Nat → Int32} {n : Nat} (h0 : 0 < n) (h : ¬ f (bestN f n) < f n) : bestN f (n + 1) = bestN f n := by rw [bestN, if_neg (by omega), if_neg h]
theorem bestN_lt {f : Nat → Int32} : ∀ {n : Nat}, 0 < n → bestN f n < n
  | 1, _ => by simp [bestN]
  | n + 2, _ => by
    have ih := bestN_lt (f := f) (n := n + 1) (by omega)
    rw [bestN, if_neg (by omega)]
    split <;> omega
theorem fewN_t {f : Nat → Int32} {n : Nat} (h0 : 0 < n) (h : f n < f (fewN f n)) : fewN f (n + 1) = n := by rw [fewN, if_neg (by omega), if_pos h]
theorem fewN_f {f : Nat → Int32} {n : Nat} (h0 : 0 < n) (h : ¬ f n < f (fewN f n)) : fewN f (n + 1) = fewN f n := by rw [fewN, if_neg (by omega), if_neg h]
theorem fewN_lt {f : Nat → Int32} : ∀ {n : Nat}, 0 < n → fewN f n < n
  | 1, _ => by simp [fewN]
  | n + 2, _ => by
    have ih := fewN_lt (f := f) (n := n + 1) (by omega)
    rw [fewN, if_neg (by omega)]
    split <;> omega
theorem knowT {σ : Ln} {l k : Nat} {t : Int32} (ht : t = tipsy σ k) (c : ¬ 2 * heardW σ l k (lout σ t) < σ 13 l) : knowB σ l k = true := by rw [knowB, heardF, ← ht]; exact decide_eq_true (Int32.not_lt.mp c)
theorem knowN {σ : Ln} {l k : Nat} {t : Int32} (ht : t = tipsy σ k) (c : 2 * heardW σ l k (lout σ t) < σ 13 l) : knowB σ l k = false := by rw [knowB, heardF, ← ht]; exact decide_eq_false (Int32.not_le.mpr c)
theorem tipsy_b2 {σ : Ln} {n i : Nat} (hb : ¬ σ 6 0 = 0) (hn : σ 0 0 = nI n) (h12 : n ≤ 12) (hi : i + 1 < n) : tipsy σ (n - 1 - (i + 1)) = tipsy σ (n - 1 - i) + σ 2 (n - 1 - i) := by
  have := tipsy_b (k := n - 1 - (i + 1)) hb hn h12 (by omega)
  rw [show n - 1 - (i + 1) + 1 = n - 1 - i by omega] at this
  exact this
theorem z_kill {D : zD} {B : Nat} {X : zX} {cs ss : Nat} {Q : zQ} {pc : Nat} {L : List (Option Value)} {st : List Value} {h : zH} {sz : Nat} (i : Nat) (k : Z D B X cs ss Q pc (L.set i none) st h sz) : Z D B X cs ss Q pc L st h sz := by
  intro p l e s m args below meth c H locs ls C hL hV hz hS
  refine k p l e s m args below meth c H locs ls C ⟨hL.1, hL.2.1, fun q hq => ?_⟩ hV hz hS
  obtain ⟨j, u⟩ := q
  have hj := zls_mem.mp hq
  rw [List.getElem?_set] at hj
  by_cases e2 : i = j
  · rw [if_pos e2] at hj
    split at hj <;> cases hj
  · rw [if_neg e2] at hj
    exact hL.2.2 (j, u) (zls_mem.mpr hj)
