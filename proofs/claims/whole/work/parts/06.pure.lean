/-! what the calls do to the state, as functions: both classes are held against them -/
def bI (w : Bool) : Int32 := if w then 1 else 0
def iN (x : Int32) : Nat := x.toNatClampNeg
theorem iN_nI {n : Nat} (h : n < 2 ^ 31) : iN (nI n) = n := nI_clamp h
def tch (σ : St) (o ln : Nat) (w : Bool) : Bool := decide ((((if w then σ.1 22 o 0 ||| σ.1 23 o 0 else σ.1 23 o 0) >>> (nI ln &&& 31)) &&& 1) = 1)
def pClose (σ : St) (k : Nat) : St := putL (put (put (put (put σ 18 k 0 0) 19 k 0 0) 22 k 0 0) 23 k 0 0) k 0
def pAdd (σ : St) (a b c d : Int32) : St :=
  let o := iN (σ.1 8 0 0)
  let q := iN (σ.1 7 0 0)
  let row := (o + q) % 100 * 4
  let σ1 := putA σ 6 0 (upd (upd (upd (upd (fun j => σ.1 6 0 j) row a) (row + 1) b) (row + 2) c) (row + 3) d)
  let σ2 := if q < 100 then put σ1 7 0 0 (nI (q + 1)) else put σ1 8 0 0 (nI ((o + 1) % 100))
  let q' := if q < 100 then q else 99
  let g := if q < 100 then (fun j => σ.1 24 0 j) else (fun j => if j < 396 then σ.1 24 0 (j + 4) else σ.1 24 0 j)
  putA σ2 24 0 (upd (upd (upd (upd g (4 * q') a) (4 * q' + 1) b) (4 * q' + 2) c) (4 * q' + 3) d)
def pGive (σ : St) (k j : Nat) (v : Int32) : St := if j = 0 then σ else put σ 10 k j v
def pBreak (σ : St) (k : Nat) (code : Int32) : St :=
  pClose (put (put (putA (pAdd σ (nI k) (σ.1 20 k 0) code (σ.1 19 k 0)) 10 k (upd (fun j => if j < 8 then σ.1 11 k j else σ.1 10 k j) 1 code)) 13 k 0 (σ.1 21 k 0)) 17 k 0 (σ.1 17 k 0 + 1)) k
def pBA (acc : Int32) (ln : Nat) (w : Bool) : Nat → St → St
  | 0, σ => σ
  | m + 1, σ => if nI m ≠ acc ∧ tch (pBA acc ln w m σ) m ln w = true then pBreak (pBA acc ln w m σ) m 4 else pBA acc ln w m σ
def mOld (σ : St) (k ln : Nat) (w : Bool) : Nat → Bool
  | 0 => false
  | m + 1 => mOld σ k ln w m || (decide (m ≠ k) && tch σ m ln w && decide (σ.1 19 m 0 < σ.1 19 k 0))
def pMark (σ : St) (k ln : Nat) (w : Bool) : St := if w then put σ 23 k 0 (σ.1 23 k 0 ||| ((1 : Int32) <<< (nI ln &&& 31))) else put σ 22 k 0 (σ.1 22 k 0 ||| ((1 : Int32) <<< (nI ln &&& 31)))
def lnb (σ : St) (k m : Nat) : Bool := decide ((((σ.1 22 k 0 ||| σ.1 23 k 0) >>> (nI m &&& 31)) &&& 1) = 1)
def cntL (σ : St) (k s t : Nat) : Nat → Nat
  | 0 => 0
  | m + 1 => cntL σ k s t m + (if m % s = t ∧ lnb σ k m = true then 1 else 0)
def pFault (σ : St) (k : Nat) : St := if 0 < σ.1 18 k 0 then pBreak σ k 1 else put σ 14 k 0 1
def pMay (σ : St) (n k : Nat) (word : Int32) (w : Bool) : St × Bool :=
  if 0 ≤ word ∧ word < 64 then
    (if mOld σ k (iN word / 4) w n = true then (pBreak σ k 4, false)
    else if (pBA (nI k) (iN word / 4) w n σ).1 18 k 0 = 0 then (pBA (nI k) (iN word / 4) w n σ, true)
    else if σ.1 28 0 0 < nI (cntL (pMark (pBA (nI k) (iN word / 4) w n σ) k (iN word / 4) w) k (iN (σ.1 27 0 0)) (iN word / 4 % iN (σ.1 27 0 0)) 16) then (pBreak (pMark (pBA (nI k) (iN word / 4) w n σ) k (iN word / 4) w) k 3, false)
    else (pMark (pBA (nI k) (iN word / 4) w n σ) k (iN word / 4) w, true))
  else (pFault σ k, false)
def hasS (σ : St) (k j : Nat) : Bool := decide (((σ.2 k >>> ((nI j).toInt64 &&& 63)) &&& 1) = 1)
def pSeen (σ : St) (k j : Nat) : Int32 := if hasS σ k j then σ.1 12 k j else σ.1 0 0 j
def pKeep (σ : St) (k j : Nat) (v : Int32) : St := put (putL σ k (σ.2 k ||| ((1 : Int64) <<< ((nI j).toInt64 &&& 63)))) 12 k j v
def pWrite (σ : St) (k j : Nat) (v : Int32) : St := if 0 < σ.1 18 k 0 then pKeep σ k j v else put σ 0 0 j v
def pOpen (σ : St) (k : Nat) (g b c : Int32) : St := putA (put (put (put σ 19 k 0 g) 20 k 0 b) 21 k 0 c) 11 k (fun j => if j < 8 then σ.1 10 k j else σ.1 11 k j)
def pBegin (σ : St) (k i : Nat) : St × Bool :=
  if 8 ≤ σ.1 18 k 0 then (pBreak σ k 2, false)
  else if σ.1 18 k 0 = 0 then (put (pOpen (put σ 9 0 0 (σ.1 9 0 0 + 1)) k (σ.1 9 0 0 + 1) (nI i) (σ.1 4 0 i)) 18 k 0 (σ.1 18 k 0 + 1), true)
  else (put σ 18 k 0 (σ.1 18 k 0 + 1), true)
def pMemo (σ : St) (k m : Nat) : St := putA σ 0 0 (fun j => if j < m then pSeen σ k j else σ.1 0 0 j)
def pEnd (σ : St) (k : Nat) : St :=
  if σ.1 18 k 0 = 1 then put (pClose (pMemo σ k 64) k) 16 k 0 (σ.1 16 k 0 + 1)
  else if 1 < σ.1 18 k 0 then put σ 18 k 0 (σ.1 18 k 0 - 1) else σ
/-- the instruction at i: the state behind it but for the place, the next place, whether it is retired -/
def pDoes (σ : St) (n k i : Nat) : St × Int32 × Bool :=
  let op := σ.1 1 0 i
  let a := iN (σ.1 2 0 i)
  let b := iN (σ.1 3 0 i)
  let d := σ.1 4 0 i
  let nx := nI i + 1
  if op = 0 then (pGive σ k a d, nx, true)
  else if op = 1 then (pGive σ k a (σ.1 10 k b + σ.1 10 k (iN d)), nx, true)
  else if op = 2 then (pGive σ k a (σ.1 10 k b - σ.1 10 k (iN d)), nx, true)
  else if op = 3 then (pGive σ k a (σ.1 10 k b * σ.1 10 k (iN d)), nx, true)
  else if op = 4 then (pGive σ k a (σ.1 10 k b + d), nx, true)
  else if op = 5 then (if (pMay σ n k (σ.1 10 k b + d) false).2 = true then (pGive (pMay σ n k (σ.1 10 k b + d) false).1 k a (pSeen (pMay σ n k (σ.1 10 k b + d) false).1 k (iN (σ.1 10 k b + d))), nx, true) else ((pMay σ n k (σ.1 10 k b + d) false).1, nx, false))
  else if op = 6 then (if (pMay σ n k (σ.1 10 k b + d) true).2 = true then (pWrite (pMay σ n k (σ.1 10 k b + d) true).1 k (iN (σ.1 10 k b + d)) (σ.1 10 k a), nx, true) else ((pMay σ n k (σ.1 10 k b + d) true).1, nx, false))
  else if op = 7 then (σ, if σ.1 10 k a < σ.1 10 k b then d else nx, true)
  else if op = 8 then (σ, if σ.1 10 k a ≠ σ.1 10 k b then d else nx, true)
  else if op = 9 then (σ, d, true)
  else if op = 10 then ((pBegin σ k i).1, nx, (pBegin σ k i).2)
  else if op = 11 then (pEnd σ k, nx, true)
  else if op = 12 then (if σ.1 18 k 0 = 0 then (σ, nx, true) else (pBreak σ k (256 + σ.1 10 k a), nx, false))
  else (if σ.1 18 k 0 = 0 then (put σ 14 k 0 1, nx, true) else (pBreak (put σ 14 k 0 0) k 5, nx, false))
def pExec (σ : St) (n k i : Nat) : St × Bool := if (pDoes σ n k i).2.2 = true then (put (pDoes σ n k i).1 13 k 0 (pDoes σ n k i).2.1, true) else ((pDoes σ n k i).1, false)
def pStep (σ : St) (n k : Nat) : St × Int32 :=
  if σ.1 14 k 0 ≠ 0 then (σ, 0)
  else if 0 ≤ σ.1 13 k 0 ∧ σ.1 13 k 0 < σ.1 5 0 0 then
    (if (pExec σ n k (iN (σ.1 13 k 0))).2 = true then (put (pExec σ n k (iN (σ.1 13 k 0))).1 15 k 0 ((pExec σ n k (iN (σ.1 13 k 0))).1.1 15 k 0 + 1), 1) else ((pExec σ n k (iN (σ.1 13 k 0))).1, 0))
  else (pFault σ k, 0)
def pPick (n k : Nat) : Nat → Int32 → St → St × Int32
  | 0, acc, σ => (σ, acc)
  | t + 1, acc, σ => if σ.1 14 k 0 ≠ 0 then (σ, acc) else pPick n k t (acc + (pStep σ n k).2) (pStep σ n k).1
def rnd (x : Int32) : Int32 := x * 1103515245 + 12345
def rcore (x : Int32) (n : Nat) : Nat := x.toBitVec.toNat / 65536 % n
def pRun (n : Nat) : Nat → Int32 → Int32 → St → St × Int32
  | 0, _, acc, σ => (σ, acc)
  | t + 1, x, acc, σ => pRun n t (rnd x) (acc + (pStep σ n (rcore (rnd x) n)).2) (pStep σ n (rcore (rnd x) n)).1
def pApp (σ : St) (o a b c : Int32) : St := put (put (put (put (put σ 1 0 (iN (σ.1 5 0 0)) o) 2 0 (iN (σ.1 5 0 0)) a) 3 0 (iN (σ.1 5 0 0)) b) 4 0 (iN (σ.1 5 0 0)) c) 5 0 0 (σ.1 5 0 0 + 1)
def pClr (σ : St) : St := (fun f k j => if (f = 13 ∨ f = 14 ∨ f = 15 ∨ f = 16 ∨ f = 17 ∨ f = 18 ∨ f = 19 ∨ f = 22 ∨ f = 23) ∧ k < 4 ∧ j = 0 then 0 else if f = 10 ∧ k < 4 ∧ j < 8 then 0 else if f = 0 ∧ k = 0 ∧ j < 64 then 0 else if (f = 5 ∨ f = 7 ∨ f = 8 ∨ f = 9) ∧ k = 0 ∧ j = 0 then 0 else σ.1 f k j, fun k => if k < 4 then 0 else σ.2 k)
def isR (x : Int32) : Prop := 0 ≤ x ∧ x < 8
def nmA (o : Int32) : Prop := o ≤ 8 ∨ o = 12
def nmB (o : Int32) : Prop := 1 ≤ o ∧ o ≤ 8
def nmC (o : Int32) : Prop := 1 ≤ o ∧ o ≤ 3
/-- what holds between the calls: at most G transactions have begun -/
def okI (σ : St) (i : Nat) : Prop := 0 ≤ σ.1 1 0 i ∧ σ.1 1 0 i ≤ 13 ∧ (nmA (σ.1 1 0 i) → isR (σ.1 2 0 i)) ∧ (nmB (σ.1 1 0 i) → isR (σ.1 3 0 i)) ∧ (nmC (σ.1 1 0 i) → isR (σ.1 4 0 i))
def okK (σ : St) (G k : Nat) : Prop := σ.1 10 k 0 = 0 ∧ σ.1 11 k 0 = 0 ∧ zq (σ.1 14 k 0) ∧ (∃ d, d ≤ 8 ∧ σ.1 18 k 0 = nI d) ∧ (∃ g, g ≤ G ∧ σ.1 19 k 0 = nI g) ∧ (∃ x, x < 65536 ∧ σ.1 22 k 0 = nI x) ∧ (∃ x, x < 65536 ∧ σ.1 23 k 0 = nI x) ∧ (σ.1 18 k 0 = 0 → σ.1 19 k 0 = 0 ∧ σ.1 22 k 0 = 0 ∧ σ.1 23 k 0 = 0 ∧ σ.2 k = 0)
def okR (σ : St) : Prop := ∃ o q, o < 100 ∧ q ≤ 100 ∧ σ.1 8 0 0 = nI o ∧ σ.1 7 0 0 = nI q ∧ ∀ i w, i < q → w < 4 → σ.1 6 0 ((o + i) % 100 * 4 + w) = σ.1 24 0 (4 * i + w)
def okS (σ : St) : Prop := (∃ s, (s = 1 ∨ s = 2 ∨ s = 4) ∧ σ.1 27 0 0 = nI s)
def Inv (σ : St) (G : Nat) : Prop := G < 2 ^ 30 ∧ (∃ L, L ≤ 80 ∧ σ.1 5 0 0 = nI L ∧ ∀ i, i < L → okI σ i) ∧ (∃ g, g ≤ G ∧ σ.1 9 0 0 = nI g) ∧ okR σ ∧ okS σ ∧ ∀ k, k < 4 → okK σ G k
