/-! WHAT EACH CALL DOES: (0 or the number of the exception, the answer, the state behind it) -/
def imax (a b : Int32) : Int32 := if a < b then b else a
def imin (a b : Int32) : Int32 := if b < a then b else a
def fL (S : jS) (i : Nat) : Nat := ix (sf S 11 i)
def fF (S : jS) (i : Nat) : Nat := ix (sf S 9 i)
def o_setLast (S : jS) (f u : Int32) : Nat × Int32 × jS := if bad f 10 then (1, 0, S) else if u ≠ -1 ∧ (u < sf S 17 2 ∨ 1000 < u) then (2, 0, S) else if ¬ canR S (ix f) then (3, 0, S) else (0, sf S 0 (ix f), su S 0 (ix f) u)
def o_converter (S : jS) (a b lo co : Int32) : Nat × Int32 × jS := if bad a 10 ∨ bad b 10 then (1, 0, S) else if (lo < 0 ∨ 500 < lo) ∨ (co < 0 ∨ 100 < co) ∨ a = b then (2, 0, S) else if sn S 1 = 30 then (3, 0, S) else
  (0, nI (sn S 1), sa (su (su (su (su (su S 1 (sn S 1) a) 2 (sn S 1) b) 3 (sn S 1) lo) 4 (sn S 1) co) 5 (sn S 1) 0) 1)
def o_law (S : jS) (j y w q : Int32) : Nat × Int32 × jS := if bad j 5 then (1, 0, S) else if (y < 1 ∨ 100 < y) ∨ (w < 0 ∨ 1000 < w) ∨ (q < 1 ∨ 50 < q) then (2, 0, S) else (0, 0, su (su (su S 6 (ix j) y) 7 (ix j) w) 8 (ix j) q)
noncomputable def o_quality (S : jS) (a b : Int32) : Nat × Int32 × jS := if bad a 10 ∨ bad b 10 then (1, 0, S) else (0, bq (best S (ix a) (ix b)), S)
noncomputable def o_byAll (S : jS) (a b : Int32) : Nat × Int32 × jS := if bad a 10 ∨ bad b 10 then (1, 0, S) else (0, gq S (ix b) 10 (ix a) [ix a] 1000 (-1), S)
noncomputable def o_cost (S : jS) (a b : Int32) : Nat × Int32 × jS := if bad a 10 ∨ bad b 10 then (1, 0, S) else (0, bc (best S (ix a) (ix b)), S)
noncomputable def o_stepAt (S : jS) (a b p : Int32) : Nat × Int32 × jS := if bad a 10 ∨ bad b 10 ∨ p < 0 then (1, 0, S) else (0, if p < nI (bw (best S (ix a) (ix b))).length then nI ((bw (best S (ix a) (ix b))).getD (ix p) 0) else -1, S)
def o_file (S : jS) (f sz j : Int32) : Nat × Int32 × jS := if bad f 10 ∨ bad j 5 then (1, 0, S) else if sz < 1 ∨ 100 < sz then (2, 0, S) else if sn S 0 = 40 ∨ ¬ canR S (ix f) then (3, 0, S) else
  (0, nI (sn S 0), sa (su (su (su (su (su (su (su (su S 9 (sn S 0) f) 10 (sn S 0) sz) 11 (sn S 0) j) 12 (sn S 0) 1000) 13 (sn S 0) (sf S 17 2 + sf S 6 (ix j))) 14 (sn S 0) (sf S 17 2)) 15 (sn S 0) 0) 16 (sn S 0) 0) 0)
def o_hold (S : jS) (i v : Int32) : Nat × Int32 × jS := if bad i (sn S 0) then (1, 0, S) else if sf S 15 (ix i) ≠ 0 then (3, 0, S) else (0, b1 (sf S 16 (ix i) ≠ v), su S 16 (ix i) v)
def o_read (S : jS) (i : Int32) : Nat × Int32 × jS := if bad i (sn S 0) then (1, 0, S) else if sf S 15 (ix i) ≠ 0 ∨ ¬ canR S (fF S (ix i)) ∨ sf S 12 (ix i) < sf S 7 (fL S (ix i)) then (3, 0, S) else (0, sf S 17 2 - sf S 14 (ix i), su S 14 (ix i) (sf S 17 2))
/-- a file is taken along the best way -/
noncomputable def tk (S : jS) (i j : Nat) : jS := su (su (su S 17 1 (sf S 17 1 - sf S 10 i * bc (best S (fF S i) j))) 12 i (alg S (bw (best S (fF S i) j)) (sf S 12 i))) 9 i (nI j)
noncomputable def o_move (S : jS) (i f : Int32) : Nat × Int32 × jS := if bad i (sn S 0) ∨ bad f 10 then (1, 0, S) else if sf S 9 (ix i) = f then (2, 0, S) else
  if sf S 15 (ix i) ≠ 0 ∨ ¬ canR S (ix f) ∨ bq (best S (fF S (ix i)) (ix f)) = -1 ∨ sf S 17 1 < sf S 10 (ix i) * bc (best S (fF S (ix i)) (ix f)) then (3, 0, S) else (0, alg S (bw (best S (fF S (ix i)) (ix f))) (sf S 12 (ix i)), tk S (ix i) (ix f))
/-- one format more is looked at: (found, its quality, its cost) -/
noncomputable def hv1 (S : jS) (i : Nat) (t : Int32 × Int32 × Int32) (j : Nat) : Int32 × Int32 × Int32 :=
  if bq (best S (fF S i) j) ≠ -1 ∧ safe S i j ∧ sf S 7 (fL S i) ≤ alg S (bw (best S (fF S i) j)) (sf S 12 i) ∧ (t.2.1 < alg S (bw (best S (fF S i) j)) (sf S 12 i) ∨ (alg S (bw (best S (fF S i) j)) (sf S 12 i) = t.2.1 ∧ bc (best S (fF S i) j) < t.2.2))
  then (nI j, alg S (bw (best S (fF S i) j)) (sf S 12 i), bc (best S (fF S i) j)) else t
noncomputable def hv (S : jS) (i : Nat) : Int32 := if sf S 15 i = 0 then ((List.range 10).foldl (hv1 S i) (-1, -1, 0)).1 else -1
noncomputable def o_haven (S : jS) (i : Int32) : Nat × Int32 × jS := if bad i (sn S 0) then (1, 0, S) else (0, hv S (ix i), S)
def o_isSafe (S : jS) (i : Int32) : Nat × Int32 × jS := if bad i (sn S 0) then (1, 0, S) else (0, b1 (sf S 15 (ix i) = 0 ∧ safe S (ix i) (fF S (ix i))), S)
def o_get (S : jS) (a : Nat) (i : Int32) : Nat × Int32 × jS := if bad i (sn S 0) then (1, 0, S) else (0, sf S a (ix i), S)
def o_setBudget (S : jS) (b : Int32) : Nat × Int32 × jS := if b < 0 ∨ 1000000 < b then (2, 0, S) else (0, sf S 17 0, su S 17 0 b)
/-- how many files have a haven no more -/
noncomputable def lostHv (S S' : jS) : Nat → Nat
  | 0 => 0
  | i + 1 => lostHv S S' i + (if hv S i ≠ -1 ∧ hv S' i = -1 then 1 else 0)
noncomputable def o_withdraw (S : jS) (c : Int32) : Nat × Int32 × jS := if bad c (sn S 1) then (1, 0, S) else if sf S 5 (ix c) ≠ 0 then (3, 0, S) else (0, nI (lostHv S (su S 5 (ix c) 1) (sn S 0)), su S 5 (ix c) 1)
/-- a file when a year has begun -/
def ny (S : jS) (i : Nat) : Int32 := if sf S 15 i = 0 then (if sf S 13 i < sf S 17 2 ∧ sf S 16 i = 0 then 1 else if canR S (fF S i) then 0 else 2) else sf S 15 i
def nys (S : jS) : Nat → Nat × jS
  | 0 => (0, S)
  | i + 1 => ((nys S i).1 + (if sf S 15 i = 0 ∧ ny S i = 2 then 1 else 0), su (nys S i).2 15 i (ny S i))
def o_begin (S : jS) : Nat × Int32 × jS := if sf S 17 2 = 900 then (3, 0, S) else (0, nI (nys (su (su S 17 2 (sf S 17 2 + 1)) 17 1 (sf S 17 0)) (sn S 0)).1, (nys (su (su S 17 2 (sf S 17 2 + 1)) 17 1 (sf S 17 0)) (sn S 0)).2)
def odue (S : jS) : Nat → Nat
  | 0 => 0
  | i + 1 => odue S i + (if sf S 15 i = 0 ∧ sf S 14 i + sf S 8 (fL S i) < sf S 17 2 then 1 else 0)
/-- for how many years in one format -/
def span (S : jS) (j : Nat) : Int32 := if sf S 0 j = -1 ∨ 100 < sf S 0 j - sf S 17 2 then 100 else sf S 0 j - sf S 17 2
noncomputable def prm (S : jS) (a l : Nat) : Nat → Int32
  | 0 => 0
  | j + 1 => if bq (best S a j) ≠ -1 ∧ sf S 7 l ≤ bq (best S a j) ∧ prm S a l j < span S j then span S j else prm S a l j
noncomputable def o_promise (S : jS) (f j : Int32) : Nat × Int32 × jS := if bad f 10 ∨ bad j 5 then (1, 0, S) else (0, if canR S (ix f) then prm S (ix f) (ix j) 10 else 0, S)
/-- is a file due to be moved ahead -/
def due0 (S : jS) (i : Nat) : Prop := sf S 15 i = 0 ∧ ¬ safe S i (fF S i)
