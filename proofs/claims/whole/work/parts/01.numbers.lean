/-! numbers of the class, as its code branches -/
def pu_nan (x : Int32) : Int32 := if x &&& 15 ≤ 12 then 0 else 1
def pu_inf (x : Int32) : Int32 := if x &&& 15 = 12 then 1 else 0
def pu_zer (x : Int32) : Int32 := if x &&& 15 = 0 then 1 else 0
def pu_neg (x : Int32) : Int32 := x ^^^ 16
def pu_mag (x : Int32) : Int32 := if x &&& 15 < 8 then x &&& 15 else 2 * (x &&& 15) - 8
def pu_sq (x : Int32) : Int32 := if x &&& 16 = 0 then pu_mag x else -(pu_mag x)
def pu_eq (x y : Int32) : Int32 := if pu_nan x = 0 then (if pu_nan y = 0 then (if x = y then 1 else if pu_zer x = 0 then 0 else if pu_zer y = 0 then 0 else 1) else 0) else 0
def pu_les (x y : Int32) : Int32 := if pu_nan x = 0 then (if pu_nan y = 0 then (if pu_sq x < pu_sq y then 1 else 0) else 0) else 0
def pu_stp (s : Int32) : Int32 := if s < 32 then 4 else 8
def pu_num (s : Int32) : Int32 := s / pu_stp s + (if s < 32 then 0 else 4)
def pu_twi (s : Int32) : Int32 := 2 * (s - s / pu_stp s * pu_stp s)
def pu_up (s : Int32) : Int32 := if pu_stp s < pu_twi s ∨ (pu_twi s = pu_stp s ∧ pu_num s - pu_num s / 2 * 2 = 1) then pu_num s + 1 else pu_num s
def pu_rnd (s : Int32) : Int32 := if pu_up s < 12 then pu_up s else 12
def pu_abs (x : Int32) : Int32 := if 0 ≤ x then x else 0 - x
def pu_add (x y : Int32) : Int32 :=
  if pu_nan x = 0 ∧ pu_nan y = 0 then
    (if pu_inf x = 0 then
      (if pu_inf y = 0 then
        (if pu_sq x + pu_sq y = 0 then (if x = 16 ∧ y = 16 then 16 else 0)
         else (if pu_sq x + pu_sq y < 0 then 16 else 0) ||| pu_rnd (4 * pu_abs (pu_sq x + pu_sq y)))
       else y)
     else if ¬ pu_inf y = 0 ∧ ¬ x = y then 13 else x)
  else 13
def pu_mul (x y : Int32) : Int32 :=
  if pu_nan x = 0 ∧ pu_nan y = 0 ∧ ¬ (¬ pu_inf x = 0 ∧ ¬ pu_zer y = 0) ∧ ¬ (¬ pu_zer x = 0 ∧ ¬ pu_inf y = 0) then
    (if pu_inf x = 0 ∧ pu_inf y = 0 then ((x ^^^ y) &&& 16) ||| pu_rnd (pu_abs (pu_sq x * pu_sq y)) else ((x ^^^ y) &&& 16) ||| 12)
  else 13
def pu_op (k x y : Int32) : Int32 :=
  if k = 2 then pu_neg x else if k = 3 then x &&& 15 else if k = 4 then pu_add x y else if k = 5 then pu_add x (pu_neg y) else if k = 6 then pu_mul x y
  else if k = 7 then (if ¬ pu_nan x = 0 ∨ ¬ pu_les y x = 0 then y else x)
  else if k = 8 then (if ¬ pu_nan x = 0 ∨ ¬ pu_les x y = 0 then y else x)
  else if k = 10 then (if x = y ∨ (¬ pu_nan x = 0 ∧ ¬ pu_nan y = 0) then 1 else 0)
  else if k = 11 then (if pu_eq x y = 0 then 0 else 1)
  else if k = 12 then (if pu_les x y = 0 then 0 else 1)
  else if k = 13 then (if ¬ pu_les x y = 0 ∨ ¬ pu_eq x y = 0 then 1 else 0)
  else if k = 14 then (if pu_nan x = 0 then 0 else 1)
  else if k = 15 then (if pu_inf x = 0 then 0 else 1)
  else if k = 16 then (if pu_zer x = 0 then 0 else 1)
  else 0
/-! numbers of the reference -/
def pm_q (k : Int32) : Int32 := if k < 8 then k else if k < 12 then 2 * k - 8 else 16
def pm_out (k n : Int32) : Int32 := if k < 0 then 1 else if n ≤ k then 1 else 0
def pm_wor (x : Int32) : Int32 := if 16 ≤ x then -(if pu_inf x = 0 then pm_q (x &&& 15) else 100) else (if pu_inf x = 0 then pm_q (x &&& 15) else 100)
def pm_ab (x : Int32) : Int32 := if x < 0 then -x else x
def pm_rst (s best : Int32) (k : Int32) : Int32 :=
  if pm_ab (s - 4 * pm_q k) < pm_ab (s - 4 * pm_q best) ∨ (pm_ab (s - 4 * pm_q k) = pm_ab (s - 4 * pm_q best) ∧ k - k / 2 * 2 = 0) then k else best
def pm_rlp (s : Int32) : Nat → Int32
  | 0 => 0
  | k + 1 => pm_rst s (pm_rlp s k) (nI (k + 1))
def pm_rnd (s : Int32) : Int32 := pm_rlp s 12
def pm_add (x y : Int32) : Int32 :=
  if ¬ pu_nan x = 0 ∨ ¬ pu_nan y = 0 ∨ (¬ pu_inf x = 0 ∧ ¬ pu_inf y = 0 ∧ ¬ x = y) then 13
  else if ¬ pu_inf x = 0 then x else if ¬ pu_inf y = 0 then y
  else if pm_wor x + pm_wor y = 0 then (if x = 16 ∧ y = 16 then 16 else 0)
  else if pm_wor x + pm_wor y < 0 then 16 + pm_rnd (-4 * (pm_wor x + pm_wor y)) else pm_rnd (4 * (pm_wor x + pm_wor y))
def pm_mul (x y : Int32) : Int32 :=
  if ¬ pu_nan x = 0 ∨ ¬ pu_nan y = 0 ∨ (¬ pu_inf x = 0 ∧ ¬ pu_zer y = 0) ∨ (¬ pu_inf y = 0 ∧ ¬ pu_zer x = 0) then 13
  else if ¬ pu_inf x = 0 ∨ ¬ pu_inf y = 0 then ((x ^^^ y) &&& 16) + 12
  else ((x ^^^ y) &&& 16) + pm_rnd (pm_q (x &&& 15) * pm_q (y &&& 15))
def pm_eq (x y : Int32) : Int32 := if pu_nan x = 0 ∧ pu_nan y = 0 ∧ (x = y ∨ (¬ pu_zer x = 0 ∧ ¬ pu_zer y = 0)) then 1 else 0
def pm_les (x y : Int32) : Int32 := if pu_nan x = 0 ∧ pu_nan y = 0 ∧ pm_wor x < pm_wor y then 1 else 0
def pm_op (k x y : Int32) : Int32 :=
  if k = 2 then x ^^^ 16 else if k = 3 then x &&& 15 else if k = 4 then pm_add x y else if k = 5 then pm_add x (y ^^^ 16) else if k = 6 then pm_mul x y
  else if k = 7 then (if ¬ pu_nan x = 0 ∨ ¬ pm_les y x = 0 then y else x)
  else if k = 8 then (if ¬ pu_nan x = 0 ∨ ¬ pm_les x y = 0 then y else x)
  else if k = 10 then (if x = y ∨ (¬ pu_nan x = 0 ∧ ¬ pu_nan y = 0) then 1 else 0)
  else if k = 11 then (if pm_eq x y = 0 then 0 else 1)
  else if k = 12 then (if pm_les x y = 0 then 0 else 1)
  else if k = 13 then (if ¬ pm_les x y = 0 ∨ ¬ pm_eq x y = 0 then 1 else 0)
  else if k = 14 then (if pu_nan x = 0 then 0 else 1)
  else if k = 15 then (if pu_inf x = 0 then 0 else 1)
  else if k = 16 then (if pu_zer x = 0 then 0 else 1)
  else if k = 17 then 1 - x
  else if k = 18 then x * y
  else (if 0 < x + y then 1 else 0)
/-! the two agree on numbers -/
theorem pe_op : (List.range 17).all (fun k => (k < 2 || k == 9) || (List.range 32).all fun x => (List.range 32).all fun y => decide (pu_op (nI k) (nI x) (nI y) = pm_op (nI k) (nI x) (nI y))) = true := by decide +kernel
theorem pe_num : (List.range 9).all (fun k => k < 2 || (List.range 32).all fun x => (List.range 32).all fun y => decide (pm_op (nI k) (nI x) (nI y) &&& 31 = pm_op (nI k) (nI x) (nI y))) = true := by decide +kernel
theorem pe_tru : (List.range 17).all (fun k => k < 10 || (List.range 32).all fun x => (List.range 32).all fun y => decide (pm_op (nI k) (nI x) (nI y) = 0 ∨ pm_op (nI k) (nI x) (nI y) = 1)) = true := by decide +kernel
