/-! ===== bits ===== -/
theorem bx_and (a b : Nat) : nI a &&& nI b = nI (a &&& b) := by
  apply Int32.toBitVec_inj.mp
  show BitVec.ofNat 32 a &&& BitVec.ofNat 32 b = BitVec.ofNat 32 (a &&& b)
  rw [BitVec.ofNat_and]
theorem bx_or (a b : Nat) : nI a ||| nI b = nI (a ||| b) := by
  apply Int32.toBitVec_inj.mp
  show BitVec.ofNat 32 a ||| BitVec.ofNat 32 b = BitVec.ofNat 32 (a ||| b)
  rw [BitVec.ofNat_or]
theorem bx_1 : ∀ n, n < 20 → (1 : Int32) <<< (nI n &&& 31) = nI (2 ^ n) := by decide +kernel
theorem bx_s : ∀ n, n < 20 → ((nI n &&& 31).toBitVec.smod 32).toNat = n := by decide +kernel
def bitsN (p : Nat → Bool) : Nat → Nat
  | 0 => 0
  | n + 1 => if p n then 2 ^ n + bitsN p n else bitsN p n
theorem bitsN_lt (p : Nat → Bool) : ∀ n, bitsN p n < 2 ^ n
  | 0 => by simp [bitsN]
  | n + 1 => by
    have ih := bitsN_lt p n
    rw [bitsN, Nat.pow_succ]
    split <;> omega
theorem bitsI_eq (p : Nat → Bool) : ∀ n, n ≤ 20 → bitsI p n = nI (bitsN p n)
  | 0, _ => rfl
  | n + 1, h => by
    rw [bitsI, bitsN, bitsI_eq p n (by omega), bx_1 n (by omega), bx_or]
    by_cases q : p n = true
    · rw [if_pos q, if_pos q]
      have h1 := bitsN_lt p n
      have : bitsN p n ||| 2 ^ n = 2 ^ n + bitsN p n := by
        rw [Nat.or_comm]
        have := Nat.two_pow_add_eq_or_of_lt h1 1
        rw [Nat.mul_one] at this
        exact this.symm
      rw [this]
    · rw [if_neg q, if_neg q]
theorem bitsN_test (p : Nat → Bool) : ∀ n j, (bitsN p n).testBit j = (decide (j < n) && p j)
  | 0, j => by simp [bitsN]
  | n + 1, j => by
    have ih := bitsN_test p n j
    have hl := bitsN_lt p n
    rw [bitsN]
    rcases Nat.lt_trichotomy j n with q | q | q
    · have : (2 ^ n + bitsN p n).testBit j = (bitsN p n).testBit j := Nat.testBit_two_pow_add_gt q _
      by_cases r : p n = true
      · rw [if_pos r, this, ih]; simp [q, Nat.lt_succ_of_lt q]
      · rw [if_neg r, ih]; simp [q, Nat.lt_succ_of_lt q]
    · subst q
      have : (2 ^ j + bitsN p j).testBit j = !(bitsN p j).testBit j := Nat.testBit_two_pow_add_eq _ _
      by_cases r : p j = true
      · rw [if_pos r, this, ih]; simp [r]
      · rw [if_neg r, ih]; simp [r]
    · have h1 : bitsN p (n + 1) < 2 ^ (n + 1) := bitsN_lt p (n + 1)
      have h2 : bitsN p (n + 1) < 2 ^ j := Nat.lt_of_lt_of_le h1 (Nat.pow_le_pow_right (by omega) (by omega))
      have h3 := Nat.testBit_lt_two_pow h2
      rw [bitsN] at h3
      rw [h3]
      simp [show ¬ j < n + 1 by omega]
theorem bx_test {v j : Nat} (hv : v < 2 ^ 31) (hj : j < 20) : (nI v >>> (nI j &&& 31)) &&& 1 = if v.testBit j then 1 else 0 := by
  rw [pk_shrN hv _ j (bx_s j hj), show (1 : Int32) = nI 1 from rfl, bx_and, Nat.and_one_is_mod, Nat.testBit_eq_decide_div_mod_eq]
  have : v / 2 ^ j % 2 = 0 ∨ v / 2 ^ j % 2 = 1 := by omega
  rcases this with q | q <;> rw [q] <;> rfl
theorem bitsI_test {p : Nat → Bool} {n j : Nat} (hn : n ≤ 20) (hj : j < n) : ((bitsI p n >>> (nI j &&& 31)) &&& 1 = 1) ↔ p j = true := by
  rw [bitsI_eq p n hn, bx_test (Nat.lt_of_lt_of_le (bitsN_lt p n) (Nat.pow_le_pow_right (by omega) (by omega))) (by omega), bitsN_test]
  cases p j <;> simp [hj]
theorem bitsI_t {p : Nat → Bool} {n : Nat} (h : p n = true) : bitsI p (n + 1) = bitsI p n ||| (1 <<< (nI n &&& 31)) := by rw [bitsI, if_pos h]
theorem bitsI_f {p : Nat → Bool} {n : Nat} (h : p n = false) : bitsI p (n + 1) = bitsI p n := by rw [bitsI, h]; rfl
theorem bitsI_bt {p : Nat → Bool} {n : Nat} {b : Int32} (h : p n = true) : (b ||| (1 <<< (nI n &&& 31))) ||| bitsI p n = b ||| bitsI p (n + 1) := by
  rw [bitsI_t h, Int32.or_assoc, Int32.or_comm (1 <<< (nI n &&& 31))]
theorem bitsI_bf {p : Nat → Bool} {n : Nat} {b : Int32} (h : p n = false) : b ||| bitsI p n = b ||| bitsI p (n + 1) := by rw [bitsI_f h]
/-- how many bits -/
def popN (v : Nat) : Nat := v % 2 + v / 2 % 2 + v / 4 % 2 + v / 8 % 2 + v / 16 % 2 + v / 32 % 2 + v / 64 % 2 + v / 128 % 2 + v / 256 % 2 + v / 512 % 2 + v / 1024 % 2 + v / 2048 % 2
def popI (x : Int32) : Int32 := nI (popN x.toNatClampNeg)
theorem popI_nI {v : Nat} (h : v < 4096) : popI (nI v) = nI (popN v) := by rw [popI, nI_clamp (by omega)]
def allKnF (σ : Ln) : Int32 := sum0 (fun l => popI (knowersF σ l)) (lsN σ)
theorem knowersF_eq (σ : Ln) (l : Nat) (h : hsN σ ≤ 12) : ∃ v, v < 4096 ∧ knowersF σ l = nI v := ⟨bitsN _ _, Nat.lt_of_lt_of_le (bitsN_lt _ _) (Nat.pow_le_pow_right (by omega) h), bitsI_eq _ _ (by omega)⟩
theorem knownF_eq (σ : Ln) (k : Nat) (h : lsN σ ≤ 8) : ∃ v, v < 256 ∧ knownF σ k = nI v := ⟨bitsN _ _, Nat.lt_of_lt_of_le (bitsN_lt _ _) (Nat.pow_le_pow_right (by omega) h), bitsI_eq _ _ (by omega)⟩
/-- the house at a step -/
def stepH (σ : Ln) (i : Nat) : Nat := if σ 6 0 = 0 then i else hsN σ - 1 - i
/-- the first and the last by the way -/
def fstW (p : Nat → Bool) (g : Nat → Nat) : Nat → Int32
  | 0 => -1
  | n + 1 => if fstW p g n = -1 then (if p (g n) then nI (g n) else -1) else fstW p g n
def lstW (p : Nat → Bool) (g : Nat → Nat) : Nat → Int32
  | 0 => -1
  | n + 1 => if p (g n) then nI (g n) else lstW p g n
theorem nI_ne_m1 {k : Nat} (h : k ≤ 1000) : ¬ nI k = -1 := fun q => nI_pos (n := k) (by omega) (by rw [q]; decide)
theorem fstW_stay {p : Nat → Bool} {g : Nat → Nat} {i : Nat} (h : ¬ fstW p g i = -1) : ∀ d, fstW p g (i + d) = fstW p g i
  | 0 => rfl
  | d + 1 => by
    have ih := fstW_stay h d
    rw [show i + (d + 1) = (i + d) + 1 by omega, fstW, if_neg (by rw [ih]; exact h), ih]
def firstF (σ : Ln) (l : Nat) : Int32 := fstW (fun k => knowB σ l k) (stepH σ) (hsN σ)
def lastF (σ : Ln) (l : Nat) : Int32 := lstW (fun k => knowB σ l k) (stepH σ) (hsN σ)
def loudF (σ : Ln) (k : Nat) : Int32 := (amx (fun l => heardF σ l k) 0 (-1) (lsN σ)).2
theorem amx_t {f : Nat → Int32} {m b : Int32} {n : Nat} (h : (amx f m b n).1 < f n) : amx f m b (n + 1) = (f n, nI n) := if_pos h
theorem amx_f {f : Nat → Int32} {m b : Int32} {n : Nat} (h : ¬ (amx f m b n).1 < f n) : amx f m b (n + 1) = amx f m b n := if_neg h
theorem bestN_t {f : Nat → Int32} {n : Nat} (h0 : 0 < n) (h : f (bestN f n) < f n) : bestN f (n + 1) = n := by rw [bestN, if_neg (by omega), if_pos h]
theorem bestN_f {f : Nat → Int32} {n : Nat} (h0 : 0 < n) (h : ¬ f (bestN f n) < f n) : bestN f (n + 1) = bestN f n := by rw [bestN, if_neg (by omega), if_neg h]
theorem bestN_lt {f : Nat → Int32} : ∀ {n : Nat}, 0 < n → bestN f n < n
  | 1, _ => by simp [bestN]
  | n + 2, _ => by
    have ih := bestN_lt (f := f) (n := n + 1) (by omega)
    rw [bestN, if_neg (by omega)]
    split <;> omega
theorem fewN_t {f : Nat → Int32} {n : Nat} (h0 : 0 < n) (h : f n < f (fewN f n)) : fewN f (n + 1) = n := by rw [fewN, if_neg (by omega), if_pos h]
theorem fewN_f {f : Nat → Int32} {n : Nat} (h0 : 0 < n) (h : ¬ f n < f (fewN f n)) : fewN f (n + 1) = fewN f n := by rw [fewN, if_neg (by omega), if_neg h]
theorem fewN_lt {f : Nat → Int32} : ∀ {n : Nat}, 0 < n → fewN f n < n
  | 1, _ => by simp [fewN]
  | n + 2, _ => by
    have ih := fewN_lt (f := f) (n := n + 1) (by omega)
    rw [fewN, if_neg (by omega)]
    split <;> omega
theorem knowT {σ : Ln} {l k : Nat} {t : Int32} (ht : t = tipsy σ k) (c : ¬ 2 * heardW σ l k (lout σ t) < σ 13 l) : knowB σ l k = true := by rw [knowB, heardF, ← ht]; exact decide_eq_true (Int32.not_lt.mp c)
theorem knowN {σ : Ln} {l k : Nat} {t : Int32} (ht : t = tipsy σ k) (c : 2 * heardW σ l k (lout σ t) < σ 13 l) : knowB σ l k = false := by rw [knowB, heardF, ← ht]; exact decide_eq_false (Int32.not_le.mpr c)
theorem tipsy_b2 {σ : Ln} {n i : Nat} (hb : ¬ σ 6 0 = 0) (hn : σ 0 0 = nI n) (h12 : n ≤ 12) (hi : i + 1 < n) : tipsy σ (n - 1 - (i + 1)) = tipsy σ (n - 1 - i) + σ 2 (n - 1 - i) := by
  have := tipsy_b (k := n - 1 - (i + 1)) hb hn h12 (by omega)
  rw [show n - 1 - (i + 1) + 1 = n - 1 - i by omega] at this
  exact this
theorem z_kill {D : zD} {B : Nat} {X : zX} {cs ss : Nat} {Q : zQ} {pc : Nat} {L : List (Option Value)} {st : List Value} {h : zH} {sz : Nat} (i : Nat) (k : Z D B X cs ss Q pc (L.set i none) st h sz) : Z D B X cs ss Q pc L st h sz := by
  intro p l e s m args below meth c H locs ls C hL hV hz hS
  refine k p l e s m args below meth c H locs ls C ⟨hL.1, hL.2.1, fun q hq => ?_⟩ hV hz hS
  obtain ⟨j, u⟩ := q
  have hj := zls_mem.mp hq
  rw [List.getElem?_set] at hj
  by_cases e2 : i = j
  · rw [if_pos e2] at hj
    split at hj <;> cases hj
  · rw [if_neg e2] at hj
    exact hL.2.2 (j, u) (zls_mem.mpr hj)
theorem stepF {σ : Ln} {i : Nat} (hb : σ 6 0 = 0) : stepH σ i = i := if_pos hb
theorem stepB {σ : Ln} {n i : Nat} (hb : ¬ σ 6 0 = 0) (hn : σ 0 0 = nI n) (h12 : n ≤ 12) : stepH σ i = n - 1 - i := by rw [stepH, if_neg hb, hsN_eq hn h12]
theorem know_test {σ : Ln} {n l j : Nat} (hn : σ 0 0 = nI n) (h12 : n ≤ 12) (hj : j < n) : ((knowersF σ l >>> (nI j &&& 31)) &&& 1 = 1) ↔ knowB σ l j = true := by
  rw [knowersF, hsN_eq hn h12]
  exact bitsI_test (p := fun k => knowB σ l k) (by omega) hj
theorem fst_hit {p : Nat → Bool} {g : Nat → Nat} {i n k : Nat} (hi : i < n) (h0 : fstW p g i = -1) (hg : g i = k) (hk : k ≤ 1000) (hp : p k = true) : fstW p g n = nI k := by
  have h1 : fstW p g (i + 1) = nI k := by rw [fstW, if_pos h0, hg, if_pos hp]
  have h2 : ¬ fstW p g (i + 1) = -1 := by rw [h1]; exact nI_ne_m1 hk
  rw [show n = (i + 1) + (n - (i + 1)) by omega, fstW_stay h2, h1]
theorem fst_miss {p : Nat → Bool} {g : Nat → Nat} {i k : Nat} (h0 : fstW p g i = -1) (hg : g i = k) (hp : ¬ p k = true) : fstW p g (i + 1) = -1 := by rw [fstW, if_pos h0, hg, if_neg hp]
theorem lst_hit {p : Nat → Bool} {g : Nat → Nat} {i k : Nat} (hg : g i = k) (hp : p k = true) : lstW p g (i + 1) = nI k := by rw [lstW, hg, if_pos hp]
theorem lst_miss {p : Nat → Bool} {g : Nat → Nat} {i k : Nat} (hg : g i = k) (hp : ¬ p k = true) : lstW p g (i + 1) = lstW p g i := by rw [lstW, hg, if_neg hp]
/-! ===== Integer.bitCount ===== -/
def ushr (x y : Int32) : Int32 := (x.toUInt32 >>> (Int32.toUInt32 y &&& Int32.toUInt32 31)).toInt32
def bcF (x0 : Int32) : Int32 :=
  let x1 := x0 - (ushr x0 1 &&& 1431655765)
  let x2 := (x1 &&& 858993459) + (ushr x1 2 &&& 858993459)
  let x3 := (x2 + ushr x2 4) &&& 252645135
  let x4 := x3 + ushr x3 8
  let x5 := x4 + ushr x4 16
  x5 &&& 63
theorem bc_ok0 : ∀ a, a < 64 → ∀ b, b < 64 → bcF (nI (64 * a + b)) = nI (popN (64 * a + b)) := by decide +kernel
theorem bc_ok {v : Nat} (h : v < 4096) : bcF (nI v) = nI (popN v) := by
  have := bc_ok0 (v / 64) (by omega) (v % 64) (by omega)
  rwa [show 64 * (v / 64) + v % 64 = v by omega] at this
/-! ===== draws, rounds ===== -/
def nextS (s : Int32) : Int32 := s * 1103515245 + 12345
def drwN (s : Int32) (b : Nat) : Nat := s.toBitVec.toNat / 65536 % b
theorem drw_eq (s : Int32) {b : Nat} (h0 : 0 < b) (hb : b ≤ 1000) : ushr s 16 - ushr s 16 / nI b * nI b = nI (drwN s b) := by
  have h1 : ushr s 16 = nI (s.toBitVec.toNat / 65536) := by
    have h2 : (ushr s 16).toBitVec.toNat = s.toBitVec.toNat / 2 ^ 16 := pk_ushr s 16 16 (by decide)
    apply Int32.toBitVec_inj.mp
    apply BitVec.eq_of_toNat_eq
    rw [h2]
    have := s.toBitVec.isLt
    rw [pk_tn (by omega)]
  have := s.toBitVec.isLt
  rw [h1, pk_rem (by omega) h0 (by omega)]
  rfl
theorem drwN_lt (s : Int32) {b : Nat} (h0 : 0 < b) : drwN s b < b := Nat.mod_lt _ h0
/-- ears grown at houses 0 to i less 1 -/
def eUp (σ : Ln) (i : Nat) : Ln := fun f => if f = 4 then (fun j => if j < i then σ 4 j + wordsF σ j else σ 4 j) else σ f
theorem eUp_0 (σ : Ln) : eUp σ 0 = σ := by
  funext f
  by_cases h : f = 4
  · subst h; simp [eUp]
  · simp [eUp, h]
theorem eUp_s (σ : Ln) (i : Nat) : up2 (eUp σ i) 4 i (eUp σ i 4 i + wordsF (eUp σ i) i) = eUp σ (i + 1) := by
  have hw : wordsF (eUp σ i) i = wordsF σ i := rfl
  have he : eUp σ i 4 i = σ 4 i := by simp [eUp]
  rw [hw, he]
  funext f
  by_cases h : f = 4
  · subst h
    funext j
    by_cases q : j = i
    · subst q; simp [up2, upd, eUp]
    · by_cases r : j < i
      · simp [up2, upd, eUp, q, r, Nat.lt_succ_of_lt r]
      · simp [up2, upd, eUp, q, r, show ¬ j < i + 1 by omega]
  · simp [up2, eUp, h]
def roundF (σ : Ln) : Ln := up2 (eUp σ (hsN σ)) 7 0 (σ 7 0 + 1)
def dayF (σ : Ln) : Ln :=
  let s1 := nextS (σ 8 0)
  let s2 := nextS s1
  let s3 := nextS s2
  let s4 := nextS s3
  let σ1 := up2 σ 8 0 s1
  let σ2 := up2 (up2 σ1 8 0 s2) 1 (drwN s1 (hsN σ)) (nI (drwN s2 10))
  let σ3 := up2 σ2 8 0 s3
  let σ4 := up2 (up2 σ3 8 0 s4) 2 (drwN s3 (hsN σ)) (nI (drwN s4 10))
  roundF σ4
def upF (σ : Ln) (k : Nat) (f : Nat → Int32) : Ln := fun a => if a = k then f else σ a
def addF (σ : Ln) (m : Nat) (k a t g : Int32) : Ln := up2 (up2 (up2 (up2 (up2 σ 10 m k) 11 m a) 12 m t) 13 m g) 9 0 (nI (m + 1))
def learnF (σ : Ln) (k : Nat) (c : Int32) : Ln := up2 σ 3 k (σ 3 k ||| (1 <<< (c &&& 31)))
section ZCP
variable {D : zD} {B : Nat} {X : zX} {cs ss : Nat} {Q : zQ} {pc : Nat} {L : List (Option Value)} {st : List Value} {h : zH} {sz : Nat}
/-- a whole array copied -/
theorem z_copyA {a b n idx : Nat} {f g : Nat → Int32} {x : Int32} (hd : zdec X pc = .ok (.invokestatic idx, 3)) (hw : zCp X.1.cls idx) (ha : h a = some (zI n f)) (hb : h b = some (zI n g)) (hB : B ≤ b) (hx : x = nI n) (hn : Nat.ble n 1000 = true) (hf : Nat.ble 1 X.2.2.2.2.1 = true) (hlo : Nat.ble ((st.map fun v => v.category).sum + (nativeFrameWords "java/lang/System" "arraycopy" 5 + 11)) (36 * X.2.2.2.2.1) = true)
    (k : Z D B X cs ss Q (pc + 3) L st (zup h b (zI n f)) sz) : Z D B X cs ss Q pc L (.int x :: .int 0 :: .ref b :: .int 0 :: .ref a :: st) h sz := by
  have hn := Nat.le_of_ble_eq_true hn
  have hc : x.toNatClampNeg = n := by rw [hx]; exact nI_clamp (by omega)
  refine z_copyI hd hw ha hb hB (by decide) (by decide) (by rw [hx]; exact nI_pos (by omega)) (by rw [hc, show (0 : Int32).toNatClampNeg = 0 by decide]; omega) (by rw [hc, show (0 : Int32).toNatClampNeg = 0 by decide]; omega) hf hlo ?_
  rw [hc, show (0 : Int32).toNatClampNeg = 0 by decide]
  refine z_altI (a := b) zup_s (g := f) (fun j hj => sb_cpy0 hj) ?_
  rw [zup_zup]
  exact k
end ZCP
theorem LnAt.c1 {h : zH} {p : Nat} {σ : Ln} {f : Nat → Int32} (H : LnAt h p σ) : LnAt (zup h (p + 1) (zI 12 f)) p (upF σ 1 f) := ⟨(zup_n (by omega)).trans H.1, zup_s, (zup_n (by omega)).trans H.2.2.1, (zup_n (by omega)).trans H.2.2.2.1, (zup_n (by omega)).trans H.2.2.2.2.1, (zup_n (by omega)).trans H.2.2.2.2.2.1, (zup_n (by omega)).trans H.2.2.2.2.2.2.1, (zup_n (by omega)).trans H.2.2.2.2.2.2.2.1, (zup_n (by omega)).trans H.2.2.2.2.2.2.2.2⟩
theorem LnAt.c2 {h : zH} {p : Nat} {σ : Ln} {f : Nat → Int32} (H : LnAt h p σ) : LnAt (zup h (p + 2) (zI 12 f)) p (upF σ 2 f) := ⟨(zup_n (by omega)).trans H.1, (zup_n (by omega)).trans H.2.1, zup_s, (zup_n (by omega)).trans H.2.2.2.1, (zup_n (by omega)).trans H.2.2.2.2.1, (zup_n (by omega)).trans H.2.2.2.2.2.1, (zup_n (by omega)).trans H.2.2.2.2.2.2.1, (zup_n (by omega)).trans H.2.2.2.2.2.2.2.1, (zup_n (by omega)).trans H.2.2.2.2.2.2.2.2⟩
theorem LnAt.c3 {h : zH} {p : Nat} {σ : Ln} {f : Nat → Int32} (H : LnAt h p σ) : LnAt (zup h (p + 3) (zI 12 f)) p (upF σ 3 f) := ⟨(zup_n (by omega)).trans H.1, (zup_n (by omega)).trans H.2.1, (zup_n (by omega)).trans H.2.2.1, zup_s, (zup_n (by omega)).trans H.2.2.2.2.1, (zup_n (by omega)).trans H.2.2.2.2.2.1, (zup_n (by omega)).trans H.2.2.2.2.2.2.1, (zup_n (by omega)).trans H.2.2.2.2.2.2.2.1, (zup_n (by omega)).trans H.2.2.2.2.2.2.2.2⟩
theorem LnAt.c4 {h : zH} {p : Nat} {σ : Ln} {f : Nat → Int32} (H : LnAt h p σ) : LnAt (zup h (p + 4) (zI 12 f)) p (upF σ 4 f) := ⟨(zup_n (by omega)).trans H.1, (zup_n (by omega)).trans H.2.1, (zup_n (by omega)).trans H.2.2.1, (zup_n (by omega)).trans H.2.2.2.1, zup_s, (zup_n (by omega)).trans H.2.2.2.2.2.1, (zup_n (by omega)).trans H.2.2.2.2.2.2.1, (zup_n (by omega)).trans H.2.2.2.2.2.2.2.1, (zup_n (by omega)).trans H.2.2.2.2.2.2.2.2⟩
theorem LnAt.c5 {h : zH} {p : Nat} {σ : Ln} {f : Nat → Int32} (H : LnAt h p σ) : LnAt (zup h (p + 5) (zI 8 f)) p (upF σ 10 f) := ⟨(zup_n (by omega)).trans H.1, (zup_n (by omega)).trans H.2.1, (zup_n (by omega)).trans H.2.2.1, (zup_n (by omega)).trans H.2.2.2.1, (zup_n (by omega)).trans H.2.2.2.2.1, zup_s, (zup_n (by omega)).trans H.2.2.2.2.2.2.1, (zup_n (by omega)).trans H.2.2.2.2.2.2.2.1, (zup_n (by omega)).trans H.2.2.2.2.2.2.2.2⟩
theorem LnAt.c6 {h : zH} {p : Nat} {σ : Ln} {f : Nat → Int32} (H : LnAt h p σ) : LnAt (zup h (p + 6) (zI 8 f)) p (upF σ 11 f) := ⟨(zup_n (by omega)).trans H.1, (zup_n (by omega)).trans H.2.1, (zup_n (by omega)).trans H.2.2.1, (zup_n (by omega)).trans H.2.2.2.1, (zup_n (by omega)).trans H.2.2.2.2.1, (zup_n (by omega)).trans H.2.2.2.2.2.1, zup_s, (zup_n (by omega)).trans H.2.2.2.2.2.2.2.1, (zup_n (by omega)).trans H.2.2.2.2.2.2.2.2⟩
theorem LnAt.c7 {h : zH} {p : Nat} {σ : Ln} {f : Nat → Int32} (H : LnAt h p σ) : LnAt (zup h (p + 7) (zI 8 f)) p (upF σ 12 f) := ⟨(zup_n (by omega)).trans H.1, (zup_n (by omega)).trans H.2.1, (zup_n (by omega)).trans H.2.2.1, (zup_n (by omega)).trans H.2.2.2.1, (zup_n (by omega)).trans H.2.2.2.2.1, (zup_n (by omega)).trans H.2.2.2.2.2.1, (zup_n (by omega)).trans H.2.2.2.2.2.2.1, zup_s, (zup_n (by omega)).trans H.2.2.2.2.2.2.2.2⟩
theorem LnAt.c8 {h : zH} {p : Nat} {σ : Ln} {f : Nat → Int32} (H : LnAt h p σ) : LnAt (zup h (p + 8) (zI 8 f)) p (upF σ 13 f) := ⟨(zup_n (by omega)).trans H.1, (zup_n (by omega)).trans H.2.1, (zup_n (by omega)).trans H.2.2.1, (zup_n (by omega)).trans H.2.2.2.1, (zup_n (by omega)).trans H.2.2.2.2.1, (zup_n (by omega)).trans H.2.2.2.2.2.1, (zup_n (by omega)).trans H.2.2.2.2.2.2.1, (zup_n (by omega)).trans H.2.2.2.2.2.2.2.1, zup_s⟩
theorem nI_ge_not {a i : Nat} (ha : a ≤ 1000) (hi : i ≤ 1000) (c : ¬ nI a ≤ nI i) : i < a := by
  rcases Nat.lt_or_ge i a with q | q
  · exact q
  · exact absurd ((nI_le_iff ha hi).mpr q) c
theorem nI_ge_yes {a i : Nat} (ha : a ≤ 1000) (hi : i ≤ 1000) (h : i ≤ a) (c : nI a ≤ nI i) : i = a := by
  have := (nI_le_iff ha hi).mp c
  omega
theorem nI_gt_not {a i : Nat} (hi : a ≤ 999 ∧ i ≤ a + 1) (c : ¬ nI a < nI i) : i < a + 1 := by
  rcases Nat.lt_or_ge i (a + 1) with q | q
  · exact q
  · exact absurd ((nI_ltI (by omega) (by omega)).mpr (by omega)) c
theorem nI_gt_yes {a i : Nat} (hi : a ≤ 999) (h : i ≤ a + 1) (c : nI a < nI i) : i = a + 1 := by
  have := (nI_ltI (by omega) (by omega)).mp c
  omega
/-- between -/
def okR (a b x : Int32) : Bool := decide (a ≤ x) && decide (x ≤ b)
theorem fa_lt (a b : Int32) : a < b ↔ a.toInt < b.toInt := Int32.lt_iff_toInt_lt
theorem fa_le (a b : Int32) : a ≤ b ↔ a.toInt ≤ b.toInt := Int32.le_iff_toInt_le
theorem fa_wide_le (a b : Int32) : a.toInt64 ≤ b.toInt64 ↔ a ≤ b := by
  rw [Int64.le_iff_toInt_le, Int32.toInt_toInt64, Int32.toInt_toInt64, Int32.le_iff_toInt_le]
theorem fa_wide_lt (a b : Int32) : a.toInt64 < b.toInt64 ↔ a < b := by
  rw [Int64.lt_iff_toInt_lt, Int32.toInt_toInt64, Int32.toInt_toInt64, Int32.lt_iff_toInt_lt]
theorem nI_sub1I (n : Nat) (hn : n ≤ 1000) : (nI n - 1).toInt = (n : Int) - 1 := pk_sub_toInt (a := n) (b := 1) (by omega) (by omega)
theorem okR_nI {n : Nat} {x : Int32} (hn : n ≤ 1000) (h : okR 0 (nI n - 1) x = true) : ∃ k, k < n ∧ x = nI k := by
  unfold okR at h
  rw [Bool.and_eq_true, decide_eq_true_eq, decide_eq_true_eq] at h
  have h2 : 0 ≤ x.toInt := by simpa using (fa_le 0 x).mp h.1
  have h3 := (fa_le _ _).mp h.2
  rw [nI_sub1I n hn] at h3
  obtain ⟨k, hk, rfl⟩ := nI_of (x := x) (Int32.not_lt.mpr h.1)
  rw [nI_toInt hk] at h3
  exact ⟨k, by omega, rfl⟩
theorem okR_k {n k : Nat} (hn : n ≤ 1000) (hk : k < n) : okR 0 (nI n - 1) (nI k) = true := by
  unfold okR
  rw [Bool.and_eq_true, decide_eq_true_eq, decide_eq_true_eq]
  refine ⟨nI_pos' (by omega), (fa_le _ _).mpr ?_⟩
  rw [nI_sub1I n hn, nI_toInt (by omega)]
  omega
theorem okR_c {c : Nat} {x : Int32} (hc : c ≤ 900) (h : okR 0 (nI c) x = true) : ∃ k, k < c + 1 ∧ x = nI k := by
  unfold okR at h
  rw [Bool.and_eq_true, decide_eq_true_eq, decide_eq_true_eq] at h
  obtain ⟨k, hk, rfl⟩ := nI_of (x := x) (Int32.not_lt.mpr h.1)
  have h3 := (nI_leI (a := k) (b := c) hk (by omega)).mp h.2
  exact ⟨k, by omega, rfl⟩
theorem okR_01 {x : Int32} (h : okR 0 1 x = true) : x = 0 ∨ x = 1 := by
  obtain ⟨k, hk, rfl⟩ := okR_c (c := 1) (by decide) h
  rcases (show k = 0 ∨ k = 1 by omega) with rfl | rfl
  · exact Or.inl rfl
  · exact Or.inr rfl
theorem okR_02 {x : Int32} (h : okR 0 2 x = true) : x = 0 ∨ x = 1 ∨ x = 2 := by
  obtain ⟨k, hk, rfl⟩ := okR_c (c := 2) (by decide) h
  rcases (show k = 0 ∨ k = 1 ∨ k = 2 by omega) with rfl | rfl | rfl
  · exact Or.inl rfl
  · exact Or.inr (Or.inl rfl)
  · exact Or.inr (Or.inr rfl)
theorem okR_03 {x : Int32} (h : okR 0 3 x = true) : x = 0 ∨ x = 1 ∨ x = 2 ∨ x = 3 := by
  obtain ⟨k, hk, rfl⟩ := okR_c (c := 3) (by decide) h
  rcases (show k = 0 ∨ k = 1 ∨ k = 2 ∨ k = 3 by omega) with rfl | rfl | rfl | rfl
  · exact Or.inl rfl
  · exact Or.inr (Or.inl rfl)
  · exact Or.inr (Or.inr (Or.inl rfl))
  · exact Or.inr (Or.inr (Or.inr rfl))
theorem up2_id (σ : Ln) (f j : Nat) : up2 σ f j (σ f j) = σ := by
  funext a
  by_cases h : a = f
  · subst h
    funext b
    by_cases q : b = j
    · subst q; simp [up2, upd]
    · simp [up2, upd, q]
  · simp [up2, h]
theorem up2_up2 (σ : Ln) (f j : Nat) (v w : Int32) : up2 (up2 σ f j v) f j w = up2 σ f j w := by
  funext a
  by_cases h : a = f
  · subst h
    funext b
    by_cases q : b = j
    · subst q; simp [up2, upd]
    · simp [up2, upd, q]
  · simp [up2, h]
theorem up2_ne (σ : Ln) {f g : Nat} (j : Nat) (v : Int32) (h : g ≠ f) : up2 σ f j v g = σ g := by simp [up2, h]
theorem up2_eq (σ : Ln) (f j : Nat) (v : Int32) : up2 σ f j v f j = v := by simp [up2, upd]
theorem up2_sw (σ : Ln) {f g : Nat} (i j : Nat) (v w : Int32) (h : f ≠ g) : up2 (up2 σ f i v) g j w = up2 (up2 σ g j w) f i v := by
  funext a
  by_cases q : a = f
  · subst q; simp [up2, h]
  · by_cases r : a = g
    · subst r; simp [up2, q]
    · simp [up2, q, r]
theorem up2_id2 (σ : Ln) {f g : Nat} (i j : Nat) (v : Int32) (h : g ≠ f) : up2 (up2 σ f i v) g j (σ g j) = up2 σ f i v := by
  have := up2_id (up2 σ f i v) g j
  rwa [up2_ne σ i v h] at this
