/-! ===== what every call answers, and what is then: over the lane σ, shelves, tape and refusals τ, elements ε ===== -/
abbrev S3 : Type := Ln × Ln × El
def rfN (τ : Ln) (j : Nat) : Ln := up2 τ 7 j (τ 7 j + 1)
def ix (x : Int32) : Nat := x.toNatClampNeg
theorem ix_nI {k : Nat} (h : k ≤ 1000) : ix (nI k) = k := nI_clamp (by omega)
def sBad (σ τ : Ln) (ε : El) : Int32 × S3 := (-2, σ, rfN τ 2, ε)
def sOther (σ τ : Ln) (ε : El) : Int32 × S3 := (-3, σ, rfN τ 3, ε)
def sNone (σ τ : Ln) (ε : El) : Int32 × S3 := (-4, σ, rfN τ 4, ε)
def sFull (σ τ : Ln) (ε : El) : Int32 × S3 := (-6, σ, rfN τ 6, ε)
def okS (x : Int32) : Bool := okR 0 7 x
def okH (σ : Ln) (x : Int32) : Bool := okR 0 (σ 0 0 - 1) x
def okL (σ : Ln) (x : Int32) : Bool := okR 0 (σ 9 0 - 1) x
def okT (σ : Ln) (x : Int32) : Bool := okR 0 (1 <<< (σ 0 0 &&& 31) - 1) x
def heldF (τ : Ln) (s : Nat) : Int32 := if τ 1 s = 0 then -1 else if τ 1 s = 1 then τ 2 s else 10 + τ 4 s
def sizeF (τ : Ln) (s : Nat) : Int32 := if τ 1 s = 1 then τ 3 s else 0
/-- the first i elements of row s are 0 -/
def zrE (ε : El) (s i : Nat) : El := fun a => if a = s then (fun j => if j < i then 0 else ε s j) else ε a
def sp_row (σ τ : Ln) (ε : El) (s sort n : Int32) : Int32 × S3 :=
  if okS s && okR 0 4 sort && okR 0 40 n then (1, σ, up2 (up2 (up2 τ 1 (ix s) 1) 2 (ix s) sort) 3 (ix s) n, zrE ε (ix s) 40) else sBad σ τ ε
def fitF (sort : Int32) (v : Int64) : Int64 :=
  if sort = 0 then v.toInt32.toInt8.toInt32.toInt64 else if sort = 1 then v.toInt32.toInt16.toInt32.toInt64 else if sort = 2 then v.toInt32.toInt64 else if sort = 3 then v else if v = 0 then 0 else 1
def sp_set (σ τ : Ln) (ε : El) (s i : Int32) (v : Int64) : Int32 × S3 :=
  if okS s = false then sBad σ τ ε else if τ 1 (ix s) = 2 then sOther σ τ ε else if τ 1 (ix s) = 0 then sNone σ τ ε
  else if okR 0 (τ 3 (ix s) - 1) i = false then sBad σ τ ε else (1, σ, τ, upE ε (ix s) (ix i) (fitF (τ 2 (ix s)) v))
def cpE (ε : El) (p q i j n : Nat) : El := fun a => if a = q then va_cpy (ε p) (ε q) i j n else ε a
def sp_copy (σ τ : Ln) (ε : El) (p q i j n : Int32) : Int32 × S3 :=
  if okS p = false then sBad σ τ ε else if okS q = false then sBad σ τ ε
  else if τ 1 (ix p) = 2 then sOther σ τ ε else if τ 1 (ix q) = 2 then sOther σ τ ε
  else if τ 1 (ix p) = 1 ∧ τ 1 (ix q) = 1 ∧ ¬ τ 2 (ix p) = τ 2 (ix q) then sOther σ τ ε
  else if τ 1 (ix p) = 0 then sNone σ τ ε else if τ 1 (ix q) = 0 then sNone σ τ ε
  else if n < 0 ∨ i < 0 ∨ j < 0 ∨ τ 3 (ix p) < n ∨ τ 3 (ix q) < n ∨ τ 3 (ix p) - n < i ∨ τ 3 (ix q) - n < j then sBad σ τ ε
  else (n, σ, τ, cpE ε (ix p) (ix q) (ix i) (ix j) (ix n))
def sp_element (τ : Ln) (ε : El) (s i : Int32) : Int64 :=
  if okS s = true then (if τ 1 (ix s) = 1 then (if okR 0 (τ 3 (ix s) - 1) i = true then ε (ix s) (ix i) else 0) else 0) else 0
def sp_holds (σ τ : Ln) (ε : El) (s : Int32) : Int32 × S3 := (if okS s = true then heldF τ (ix s) else -1, σ, τ, ε)
def sp_show (σ τ : Ln) (ε : El) (s l : Int32) : Int32 × S3 :=
  if okS s = false then sBad σ τ ε else if l = -1 then (1, σ, up2 (up2 τ 1 (ix s) 0) 4 (ix s) l, ε)
  else if okL σ l = true then (1, σ, up2 (up2 τ 1 (ix s) 2) 4 (ix s) l, ε) else sBad σ τ ε
def undK (own k : Int32) : Bool := decide (k = 0) || decide (own = k) || (decide (k = 1) && decide (own = 3)) || (decide (k = 2) && decide (own = 4))
def sp_says (σ τ : Ln) (ε : El) (s k : Int32) : Int32 × S3 :=
  if okS s = false then sBad σ τ ε else if okR 0 5 k = false then sBad σ τ ε
  else if τ 1 (ix s) = 1 then sOther σ τ ε
  else if τ 1 (ix s) = 2 ∧ undK (σ 10 (ix (τ 4 (ix s)))) k = false then sOther σ τ ε
  else if τ 1 (ix s) = 0 then sNone σ τ ε
  else if k = 0 then (σ 11 (ix (τ 4 (ix s))), σ, τ, ε) else (heardF σ (ix (τ 4 (ix s))) 0, σ, τ, ε)
def sp_houses (σ τ : Ln) (ε : El) (x : Int32) : Int32 × S3 := if okR (σ 0 0) 12 x = true then (σ 0 0, up2 σ 0 0 x, τ, ε) else sBad σ τ ε
def sp_letter (σ τ : Ln) (ε : El) (k a t g : Int32) : Int32 × S3 :=
  if okR 0 5 k && okR 0 9 a && okH σ t && okR 1 40 g then (if σ 9 0 = 8 then sFull σ τ ε else (σ 9 0, addF σ (ix (σ 9 0)) k a t g, τ, ε)) else sBad σ τ ε
def sp_mend (σ τ : Ln) (ε : El) (l w v : Int32) : Int32 × S3 :=
  if okL σ l = false then sBad σ τ ε else if okR 0 1 w = false then sBad σ τ ε
  else if w = 0 then (if okH σ v = true then (σ 12 (ix l), up2 σ 12 (ix l) v, τ, ε) else sBad σ τ ε)
  else (if okR 1 40 v = true then (σ 13 (ix l), up2 σ 13 (ix l) v, τ, ε) else sBad σ τ ε)
def sp_tell (σ τ : Ln) (ε : El) (k w v : Int32) : Int32 × S3 :=
  if okH σ k && okR 0 1 w && okR 0 9 v then (if w = 0 then (σ 1 (ix k), up2 σ 1 (ix k) v, τ, ε) else (σ 2 (ix k), up2 σ 2 (ix k) v, τ, ε)) else sBad σ τ ε
def setC (σ : Ln) (k : Nat) (c : Int32) (b : Bool) : Ln := if b then learnF σ k c else up2 σ 3 k (σ 3 k &&& ((1 <<< (c &&& 31)) ^^^ -1))
def sp_code (σ τ : Ln) (ε : El) (k c : Int32) (b : Bool) : Int32 × S3 :=
  if okH σ k && okR 0 9 c then ((σ 3 (ix k) >>> (c &&& 31)) &&& 1, setC σ (ix k) c b, τ, ε) else sBad σ τ ε
def sp_cold (σ τ : Ln) (ε : El) (v : Int32) : Int32 × S3 := if okR 0 9 v = true then (σ 5 0, up2 σ 5 0 v, τ, ε) else sBad σ τ ε
def sp_way (σ τ : Ln) (ε : El) (b : Bool) : Int32 × S3 := (σ 6 0, up2 σ 6 0 (oI b), τ, ε)
def sp_feed (σ τ : Ln) (ε : El) (x : Int32) : Int32 × S3 :=
  if okR 0 255 x = false then sBad σ τ ε else if τ 6 0 = 250 then sFull σ τ ε else (τ 6 0 + 1, σ, up2 (up2 τ 6 0 (τ 6 0 + 1)) 5 (ix (τ 6 0)) x, ε)
def sp_wipe (σ τ : Ln) (ε : El) : Int32 × S3 := (τ 6 0, σ, up2 τ 6 0 0, ε)
/-- an answer that changes nothing, or a refusal -/
def sRd (c : Bool) (σ τ : Ln) (ε : El) (v : Int32) : Int32 × S3 := if c then (v, σ, τ, ε) else sBad σ τ ε
def sp_letterOf (σ τ : Ln) (ε : El) (l w : Int32) : Int32 × S3 := sRd (okL σ l && okR 0 3 w) σ τ ε (if w = 0 then σ 10 (ix l) else if w = 1 then σ 11 (ix l) else if w = 2 then σ 12 (ix l) else σ 13 (ix l))
def sp_houseOf (σ τ : Ln) (ε : El) (k w : Int32) : Int32 × S3 := sRd (okH σ k && okR 0 5 w) σ τ ε (if w = 0 then σ 1 (ix k) else if w = 1 then σ 2 (ix k) else if w = 2 then σ 3 (ix k) else if w = 3 then σ 4 (ix k) else if w = 4 then tipsy σ (ix k) else lout σ (tipsy σ (ix k)))
def okB (σ : Ln) (l k : Int32) : Bool := okL σ l && okH σ k
def sp_heard (σ τ : Ln) (ε : El) (l k : Int32) : Int32 × S3 := sRd (okB σ l k) σ τ ε (heardF σ (ix l) (ix k))
def sp_isRead (σ τ : Ln) (ε : El) (l k : Int32) : Int32 × S3 := sRd (okB σ l k) σ τ ε (oI (readB σ (ix l) (ix k)))
def sp_whoKnows (σ τ : Ln) (ε : El) (l : Int32) : Int32 × S3 := sRd (okL σ l) σ τ ε (knowersF σ (ix l))
def sp_knows (σ τ : Ln) (ε : El) (k : Int32) : Int32 × S3 := sRd (okH σ k) σ τ ε (knownF σ (ix k))
def sp_first (σ τ : Ln) (ε : El) (l w : Int32) : Int32 × S3 := sRd (okL σ l && okR 0 1 w) σ τ ε (if w = 0 then firstF σ (ix l) else lastF σ (ix l))
def sp_loudest (σ τ : Ln) (ε : El) (k : Int32) : Int32 × S3 := sRd (okH σ k) σ τ ε (loudF σ (ix k))
def sp_words (σ τ : Ln) (ε : El) (k : Int32) : Int32 × S3 := sRd (okH σ k) σ τ ε (wordsF σ (ix k))
def sp_best (σ τ : Ln) (ε : El) (w : Int32) : Int32 × S3 := sRd (okR 0 2 w) σ τ ε (if w = 0 then nI (bestN (wordsF σ) (hsN σ)) else if w = 1 then wordsF σ (bestN (wordsF σ) (hsN σ)) else nI (fewN (wordsF σ) (hsN σ)))
def sp_common (σ τ : Ln) (ε : El) (l o : Int32) : Int32 × S3 := sRd (okL σ l && okL σ o) σ τ ε (knowersF σ (ix l) &&& knowersF σ (ix o))
def sp_alike (σ τ : Ln) (ε : El) (k o : Int32) : Int32 × S3 := sRd (okH σ k && okH σ o) σ τ ε (oI (decide (knownF σ (ix k) = knownF σ (ix o))))
def sp_ofKind (σ τ : Ln) (ε : El) (k : Int32) : Int32 × S3 := sRd (okR 0 5 k) σ τ ε (sum0 (fun l => oI (decide (σ 10 l = k))) (lsN σ))
def lackF (σ : Ln) (l k : Nat) : Int32 := if σ 13 l - 2 * heardF σ l k ≤ 0 then 0 else (σ 13 l - 2 * heardF σ l k + 1) / 2
def sp_lacks (σ τ : Ln) (ε : El) (l k : Int32) : Int32 × S3 := sRd (okB σ l k) σ τ ε (lackF σ (ix l) (ix k))
def sp_doubt (σ τ : Ln) (ε : El) (l : Int32) : Int32 × S3 := sRd (okL σ l) σ τ ε (bitsI (fun k => readB σ (ix l) k && !knowB σ (ix l) k) (hsN σ))
def sp_reach (σ τ : Ln) (ε : El) (l w : Int32) : Int32 × S3 := sRd (okL σ l && okR 0 1 w) σ τ ε (if w = 0 then sum0 (fun k => oI (decide (0 < heardF σ (ix l) k))) (hsN σ) else sum0 (fun k => heardF σ (ix l) k) (hsN σ))
def sp_wise (σ τ : Ln) (ε : El) : Int32 × S3 := (bitsI (fun k => decide (¬ readsF σ k = 0) && decide (readsF σ k &&& (knownF σ k ^^^ -1) = 0)) (hsN σ), σ, τ, ε)
def sp_secret (σ τ : Ln) (ε : El) : Int32 × S3 := (bitsI (fun l => decide (knowersF σ l = 1 <<< (σ 12 l &&& 31))) (lsN σ), σ, τ, ε)
def sp_lost (σ τ : Ln) (ε : El) : Int32 × S3 := (bitsI (fun l => !knowB σ l (ix (σ 12 l))) (lsN σ), σ, τ, ε)
/-- two houses that know most letters both -/
def gosI (σ : Ln) (a : Nat) (q : Int32 × Int32) : Nat → Int32 × Int32
  | 0 => q
  | d + 1 => if (gosI σ a q d).1 < popI (knownF σ a &&& knownF σ (a + 1 + d)) then (popI (knownF σ a &&& knownF σ (a + 1 + d)), 100 * nI a + nI (a + 1 + d)) else gosI σ a q d
def gosO (σ : Ln) (n : Nat) : Nat → Int32 × Int32
  | 0 => (0, -1)
  | a + 1 => gosI σ a (gosO σ n a) (n - (a + 1))
def sp_gossips (σ τ : Ln) (ε : El) : Int32 × S3 := ((gosO σ (hsN σ) (hsN σ)).2, σ, τ, ε)
/-- the first of n that p says, NONE -/
def frstI (p : Nat → Bool) : Nat → Int32
  | 0 => -1
  | n + 1 => if p 0 then 0 else (if frstI (fun j => p (j + 1)) n = -1 then -1 else frstI (fun j => p (j + 1)) n + 1)
/-- the least of a, a + 1 .. (n of them) that p says, by going down; NONE -/
def lstD (p : Nat → Bool) (a : Nat) : Nat → Int32
  | 0 => -1
  | n + 1 => if p a then nI a else lstD p (a + 1) n
def sp_address (σ τ : Ln) (ε : El) (l t : Int32) : Int32 × S3 := sRd (okL σ l && okT σ t) σ τ ε (lstD (fun k => decide (knowersF (up2 σ 12 (ix l) (nI k)) (ix l) = t)) 0 (hsN σ))
def wdF (σ : Ln) (l : Nat) : Int32 × Int32 := amx (fun k => popI (knowersF (up2 σ 12 l (nI k)) l)) (-1) 0 (hsN σ)
def sp_widest (σ τ : Ln) (ε : El) (l w : Int32) : Int32 × S3 := sRd (okL σ l && okR 0 1 w) σ τ ε (if w = 0 then (wdF σ (ix l)).2 else (wdF σ (ix l)).1)
def sp_seal (σ τ : Ln) (ε : El) (l t : Int32) : Int32 × S3 := sRd (okL σ l && okT σ t) σ τ ε (lstD (fun k => decide (knowersF (up2 σ 10 (ix l) (nI k)) (ix l) = t)) 0 6)
def sp_shout (σ τ : Ln) (ε : El) (l k : Int32) : Int32 × S3 := sRd (okB σ l k) σ τ ε (lstD (fun g => knowB (up2 σ 13 (ix l) (nI g)) (ix l) (ix k)) 1 40)
def hushB (σ : Ln) (l : Nat) (t : Int32) : Bool := decide (knowersF σ l &&& t = 0) && (decide ((t >>> (σ 12 l &&& 31)) &&& 1 = 1) || knowB σ l (ix (σ 12 l)))
def pourD (σ : Ln) (k : Nat) (x : Int32) : Ln := up2 σ 2 k (σ 2 k + x)
/-- at which house first -/
def hshW (σ : Ln) (l : Nat) (t : Int32) (x : Nat) : Int32 := lstD (fun k => hushB (pourD σ k (nI x)) l t) 0 (hsN σ)
/-- how much, where: from x on, n of them -/
def hshF (σ : Ln) (l : Nat) (t : Int32) (x : Nat) : Nat → Int32 × Int32
  | 0 => (-1, -1)
  | n + 1 => if hshW σ l t x = -1 then hshF σ l t (x + 1) n else (nI x, hshW σ l t x)
def hshA (σ : Ln) (l : Nat) (t : Int32) : Int32 × Int32 := if hushB σ l t then (0, -1) else hshF σ l t 1 40
def sp_hush (σ τ : Ln) (ε : El) (l t w : Int32) : Int32 × S3 := sRd (okL σ l && okT σ t && okR 0 1 w) σ τ ε (if w = 0 then (hshA σ (ix l) t).1 else (hshA σ (ix l) t).2)
def sp_turned (σ τ : Ln) (ε : El) (l : Int32) : Int32 × S3 := sRd (okL σ l) σ τ ε (popI (knowersF (up2 σ 6 0 (oI (decide (σ 6 0 = 0)))) (ix l)))
def sp_colds (σ τ : Ln) (ε : El) (l k : Int32) : Int32 × S3 := sRd (okB σ l k) σ τ ε (lstD (fun c => !knowB (up2 σ 5 0 (nI c)) (ix l) (ix k)) 0 10)
def sp_quiet (σ τ : Ln) (ε : El) (k : Int32) : Int32 × S3 := sRd (okH σ k) σ τ ε (lstD (fun c => decide (knownF (up2 σ 1 (ix k) (nI c)) (ix k) = 0)) 0 10)
/-- no drink at houses 0 to i less 1 -/
def dry (σ : Ln) (i : Nat) : Ln := fun f => if f = 2 then (fun j => if j < i then 0 else σ 2 j) else σ f
def sp_sober (σ τ : Ln) (ε : El) (l : Int32) : Int32 × S3 := sRd (okL σ l) σ τ ε (popI (knowersF (dry σ (hsN σ)) (ix l)))
def sp_thirst (σ τ : Ln) (ε : El) (k : Int32) : Int32 × S3 := sRd (okH σ k) σ τ ε (allKnF σ - allKnF (up2 σ 2 (ix k) 9))
def sp_taught (σ τ : Ln) (ε : El) (l k : Int32) : Int32 × S3 := sRd (okB σ l k) σ τ ε (oI (knowB (learnF σ (ix k) (σ 11 (ix l))) (ix l) (ix k)))
def sp_merry (σ τ : Ln) (ε : El) (l : Int32) : Int32 × S3 := sRd (okL σ l) σ τ ε (amx (fun k => popI (knowersF (up2 σ 2 k 0) (ix l))) (-1) 0 (hsN σ)).2
/-- what a told row wants ahead: 0 if it may be, else the refusal's place -/
def rowF (τ : Ln) (s n : Int32) (most : Int32) (may : Bool) : Nat :=
  if (okS s && okR 0 most n && may) = false then 2 else if τ 1 (ix s) = 2 then 3 else if τ 1 (ix s) = 0 then 4 else if τ 3 (ix s) < n then 2 else 0
def sTold (j : Nat) (σ τ : Ln) (ε : El) (v : Int32) : Int32 × S3 := if j = 0 then (v, σ, τ, ε) else (-(nI j), σ, rfN τ j, ε)
/-- the first n elements of a row are what is heard of l at houses 0, 1 .. -/
def sndB (σ : Ln) (e : Nat → Int64) (l : Nat) : Nat → Bool
  | 0 => true
  | n + 1 => sndB σ e l n && decide ((heardF σ l n).toInt64 = e n)
def lenB (σ : Ln) (e : Nat → Int64) (n l g : Nat) : Bool := sndB (up2 σ 13 l (nI g)) e l n
def lenC (σ : Ln) (e : Nat → Int64) (n l : Nat) : Int32 := sum0 (fun j => oI (lenB σ e n l (j + 1))) 40
/-- the last of 1 to i that p says -/
def lstU (p : Nat → Bool) : Nat → Int32
  | 0 => -1
  | n + 1 => if p (n + 1) then nI (n + 1) else lstU p n
def sp_lengths (σ τ : Ln) (ε : El) (s n l w : Int32) : Int32 × S3 :=
  sTold (rowF τ s n (σ 0 0) (okL σ l && okR 0 2 w)) σ τ ε (if w = 0 then lenC σ (ε (ix s)) (ix n) (ix l) else if w = 1 then lstD (lenB σ (ε (ix s)) (ix n) (ix l)) 1 40 else lstU (lenB σ (ε (ix s)) (ix n) (ix l)) 40)
def sp_fits (σ τ : Ln) (ε : El) (s n l w : Int32) : Int32 × S3 :=
  sTold (rowF τ s n (σ 0 0) (okL σ l && okR 0 1 w)) σ τ ε (if w = 0 then bitsI (fun k => sndB (up2 σ 10 (ix l) (nI k)) (ε (ix s)) (ix l) (ix n)) 6 else bitsI (fun k => sndB (up2 σ 12 (ix l) (nI k)) (ε (ix s)) (ix l) (ix n)) (hsN σ))
/-- how many of the lengths that fit are heard as g is -/
def likeC (σ : Ln) (e : Nat → Int64) (n l k g : Nat) : Int32 := sum0 (fun j => oI (lenB σ e n l (j + 1) && decide (heardF (up2 σ 13 l (nI (j + 1))) l k = heardF (up2 σ 13 l (nI g)) l k))) 40
def wrstF (σ : Ln) (e : Nat → Int64) (n l k : Nat) : Nat → Int32
  | 0 => 0
  | g + 1 => if lenB σ e n l (g + 1) then (if wrstF σ e n l k g < likeC σ e n l k (g + 1) then likeC σ e n l k (g + 1) else wrstF σ e n l k g) else wrstF σ e n l k g
/-- the least and where first -/
def amn (f : Nat → Int32) (m b : Int32) : Nat → Int32 × Int32
  | 0 => (m, b)
  | n + 1 => if f n < (amn f m b n).1 then (f n, nI n) else amn f m b n
def askF (σ : Ln) (e : Nat → Int64) (n l : Nat) : Int32 := if 1 < lenC σ e n l then (amn (fun k => wrstF σ e n l k 40) 41 (-1) (hsN σ)).2 else -1
def sp_ask (σ τ : Ln) (ε : El) (s n l : Int32) : Int32 × S3 := sTold (rowF τ s n (σ 0 0) (okL σ l)) σ τ ε (askF σ (ε (ix s)) (ix n) (ix l))
def wndB (σ : Ln) (e : Nat → Int64) (k : Nat) : Nat → Bool
  | 0 => true
  | n + 1 => wndB σ e k n && decide ((heardF σ n k).toInt64 = e n)
def sp_winds (σ τ : Ln) (ε : El) (s n k : Int32) : Int32 × S3 := sTold (rowF τ s n (σ 9 0) (okH σ k)) σ τ ε (bitsI (fun v => wndB (up2 σ 1 (ix k) (nI v)) (ε (ix s)) (ix k) (ix n)) 10)
/-- the least that is heard by the other's drink, and by which -/
def lstH (σ : Ln) (d l k : Nat) : Int32 × Int32 := amn (fun v => heardF (up2 σ 2 d (nI v)) l k) (heardF (up2 σ 2 d 0) l k) 0 10
def pourA (σ : Ln) (c d l k : Nat) : Int32 × Int32 := amx (fun v => (lstH (up2 σ 2 c (nI v)) d l k).1) (-1) 0 10
def okP (σ : Ln) (c d l k : Int32) : Bool := okH σ c && okH σ d && !decide (c = d) && okB σ l k
def sp_pour (σ τ : Ln) (ε : El) (c d l k w : Int32) : Int32 × S3 := sRd (okP σ c d l k && okR 0 1 w) σ τ ε (if w = 0 then (pourA σ (ix c) (ix d) (ix l) (ix k)).1 else (pourA σ (ix c) (ix d) (ix l) (ix k)).2)
def sp_answer (σ τ : Ln) (ε : El) (c d l k v : Int32) : Int32 × S3 := sRd (okP σ c d l k && okR 0 9 v) σ τ ε (lstH (up2 σ 2 (ix c) v) (ix d) (ix l) (ix k)).2
def byC (σ : Ln) (l k : Nat) : Int32 := sum0 (fun v => oI (knowB (up2 σ 1 k (nI v)) l k)) 10
def sp_chance (σ τ : Ln) (ε : El) (l k : Int32) : Int32 × S3 := sRd (okB σ l k) σ τ ε (100000 * byC σ (ix l) (ix k))
def sureB (σ : Ln) (l k : Nat) : Bool := !decide (nI k = σ 12 l) && readB σ l k && decide (byC σ l k = 10)
def sp_sure (σ τ : Ln) (ε : El) (l : Int32) : Int32 × S3 := sRd (okL σ l) σ τ ε (sum0 (fun k => oI (sureB σ (ix l) k)) (hsN σ))
/-- the first of n elements that isn't so -/
def jdgF (σ : Ln) (e : Nat → Int64) : Nat → Nat → Int32
  | _, 0 => -1
  | k, n + 1 => if k = hsN σ then nI k else if (knownF σ k).toInt64 = e k then jdgF σ e (k + 1) n else nI k
def sp_judge (σ τ : Ln) (ε : El) (s n : Int32) : Int32 × S3 := sTold (rowF τ s n 40 true) σ τ ε (jdgF σ (ε (ix s)) 0 (ix n))
/-- shelves without their letters hold nothing -/
def flwT (τ : Ln) (m : Int32) (i : Nat) : Ln := fun f => if f = 1 then (fun s => if s < i ∧ τ 1 s = 2 ∧ m ≤ τ 4 s then 0 else τ 1 s) else τ f
def earsF (σ : Ln) : Int32 := sum0 (σ 4) (hsN σ)
def goneF (σ : Ln) (b : Bool) : Ln := if b then up2 (roundF σ) 9 0 0 else roundF σ
def sp_round (σ τ : Ln) (ε : El) (b : Bool) : Int32 × S3 := (earsF (goneF σ b), goneF σ b, flwT τ (goneF σ b 9 0) 8, ε)
def daysF (σ : Ln) : Nat → Ln
  | 0 => σ
  | n + 1 => dayF (daysF σ n)
def sp_days (σ τ : Ln) (ε : El) (n : Int32) : Int32 × S3 := if okR 1 60 n = true then (earsF (daysF σ (ix n)), daysF σ (ix n), τ, ε) else sBad σ τ ε
def sp_seed (σ τ : Ln) (ε : El) (v : Int32) : Int32 × S3 := (σ 8 0, up2 σ 8 0 v, τ, ε)
def useC (τ : Ln) : Int32 := sum0 (fun s => oI (!decide (τ 1 s = 0))) 8
def sp_status (σ τ : Ln) (ε : El) (w : Int32) : Int32 × S3 := (if w = 0 then σ 9 0 else if w = 1 then σ 0 0 else if w = 2 then σ 5 0 else if w = 3 then σ 6 0 else if w = 4 then sum0 (σ 2) (hsN σ) else if w = 5 then earsF σ else if w = 6 then σ 7 0 else if w = 7 then τ 6 0 else if w = 8 then σ 8 0 else if w = 9 then useC τ else if okR 12 16 w = true then τ 7 (ix (w - 10)) else -1, σ, τ, ε)
/-! ===== what holds of the lane and the shelves ===== -/
def ToOk (σ : Ln) (l : Nat) : Prop := ∃ t, t < 12 ∧ σ 12 l = nI t
def LW (σ : Ln) (n m : Nat) : Prop := σ 0 0 = nI n ∧ (2 ≤ n ∧ n ≤ 12) ∧ σ 9 0 = nI m ∧ m ≤ 8 ∧ (σ 6 0 = 0 ∨ σ 6 0 = 1) ∧ (∀ l, l < m → ∃ t, t < n ∧ σ 12 l = nI t) ∧ (∀ l, l < m → ∃ g, 1 ≤ g ∧ g ≤ 40 ∧ σ 13 l = nI g) ∧ (∀ l, l < m → ∃ k, k < 6 ∧ σ 10 l = nI k) ∧ (∀ l, l < m → ∃ a, a < 10 ∧ σ 11 l = nI a)
def SW (τ : Ln) (m : Nat) : Prop := (∀ s, s < 8 → (τ 1 s = 0 ∨ (τ 1 s = 1 ∧ (∃ k, k < 5 ∧ τ 2 s = nI k) ∧ ∃ k, k ≤ 40 ∧ τ 3 s = nI k) ∨ (τ 1 s = 2 ∧ ∃ l, l < m ∧ τ 4 s = nI l))) ∧ (∃ k, k ≤ 250 ∧ τ 6 0 = nI k) ∧ ∀ j, j < 250 → ∃ b, b < 256 ∧ τ 5 j = nI b
