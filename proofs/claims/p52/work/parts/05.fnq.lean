/-! tables copied, a RULE dropped (behind fnc) -/
def tsel (j : Nat) (a b c : Nat → Nat → Int32) : Nat → Nat → Int32 := if j = 0 then a else if j = 1 then b else c
def cpT (t' t : Nat → Nat → Int32) : Prop := fxTc t' = fxTc t ∧ t' 0 1 = t 0 1
/-- a RULE is dropped, or is there again -/
def dpC (d rule isd : Int32) : Int32 := if isd.toInt = 0 then d &&& (((1 : Int32) <<< (rule &&& 31)) ^^^ (-1 : Int32)) else d ||| ((1 : Int32) <<< (rule &&& 31))
def dpM (d rule isd : Int32) : Int32 := (d &&& (((1 : Int32) <<< (rule &&& 31)) ^^^ (-1 : Int32))) ||| (if isd.toInt = 0 then 0 else (1 : Int32) <<< (rule &&& 31))
