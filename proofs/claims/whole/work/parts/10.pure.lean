/-! what the fours' methods compute, over longs -/
abbrev z4 : Type := Int64 × Int64 × Int64 × Int64
abbrev zFo (P : z4) : va_E := .inr (4, [.long P.1, .long P.2.1, .long P.2.2.1, .long P.2.2.2])
def zSq (P : z4) : Int64 := P.1 * P.1 + P.2.1 * P.2.1 + P.2.2.1 * P.2.2.1 + P.2.2.2 * P.2.2.2
def zNm (P : z4) : Int64 := zSq P / 4
def zMul (P Q : z4) : z4 := ((P.1 * Q.1 - P.2.1 * Q.2.1 - P.2.2.1 * Q.2.2.1 - P.2.2.2 * Q.2.2.2) / 2, (P.1 * Q.2.1 + P.2.1 * Q.1 + P.2.2.1 * Q.2.2.2 - P.2.2.2 * Q.2.2.1) / 2, (P.1 * Q.2.2.1 - P.2.1 * Q.2.2.2 + P.2.2.1 * Q.1 + P.2.2.2 * Q.2.1) / 2, (P.1 * Q.2.2.2 + P.2.1 * Q.2.2.1 - P.2.2.1 * Q.2.1 + P.2.2.2 * Q.1) / 2)
def zBk (P : z4) : z4 := (P.1, -P.2.1, -P.2.2.1, -P.2.2.2)
def zAdd (P Q : z4) : z4 := (P.1 + Q.1, P.2.1 + Q.2.1, P.2.2.1 + Q.2.2.1, P.2.2.2 + Q.2.2.2)
def zSub (P Q : z4) : z4 := (P.1 - Q.1, P.2.1 - Q.2.1, P.2.2.1 - Q.2.2.1, P.2.2.2 - Q.2.2.2)
def zDiv (P : z4) (d : Int64) : z4 := (P.1 / d, P.2.1 / d, P.2.2.1 / d, P.2.2.2 / d)
def zAt (P : z4) (k : Int32) : Int64 := if k = 0 then P.1 else if k = 1 then P.2.1 else if k = 2 then P.2.2.1 else P.2.2.2
abbrev zNil (P : z4) : Prop := P.1 = 0 ∧ P.2.1 = 0 ∧ P.2.2.1 = 0 ∧ P.2.2.2 = 0
abbrev zEv (P : z4) : Prop := (P.1 ||| P.2.1 ||| P.2.2.1 ||| P.2.2.2) &&& 1 = 0
abbrev zOd (P : z4) : Prop := P.1 &&& P.2.1 &&& P.2.2.1 &&& P.2.2.2 &&& 1 = 1
abbrev zFar (x : Int64) : Prop := x < -63245 ∨ 63245 < x
abbrev zBig (P : z4) : Prop := zFar P.1 ∨ zFar P.2.1 ∨ zFar P.2.2.1 ∨ zFar P.2.2.2 ∨ 1000000000 < zNm P
abbrev zLess (P Q : z4) : Prop := if P.1 = Q.1 then if P.2.1 = Q.2.1 then if P.2.2.1 = Q.2.2.1 then P.2.2.2 < Q.2.2.2 else P.2.2.1 < Q.2.2.1 else P.2.1 < Q.2.1 else P.1 < Q.1
abbrev zPar (P Q : z4) : Prop := P.1 * Q.2.1 = P.2.1 * Q.1 ∧ P.1 * Q.2.2.1 = P.2.2.1 * Q.1 ∧ P.1 * Q.2.2.2 = P.2.2.2 * Q.1 ∧ P.2.1 * Q.2.2.1 = P.2.2.1 * Q.2.1 ∧ P.2.1 * Q.2.2.2 = P.2.2.2 * Q.2.1 ∧ P.2.2.1 * Q.2.2.2 = P.2.2.2 * Q.2.2.1
def zUn (k : Int32) : z4 := if ¬ 16 ≤ k then ((1 - (k &&& 2) : Int32).toInt64, (1 - ((k >>> ((1 : Int32) &&& 31)) &&& 2) : Int32).toInt64, (1 - ((k >>> ((2 : Int32) &&& 31)) &&& 2) : Int32).toInt64, (1 - ((k <<< ((1 : Int32) &&& 31)) &&& 2) : Int32).toInt64)
  else (if (k - 16 : Int32) >>> ((1 : Int32) &&& 31) = 0 then (if k &&& 1 = 0 then 2 else -2) else 0, if (k - 16 : Int32) >>> ((1 : Int32) &&& 31) = 1 then (if k &&& 1 = 0 then 2 else -2) else 0, if (k - 16 : Int32) >>> ((1 : Int32) &&& 31) = 2 then (if k &&& 1 = 0 then 2 else -2) else 0, if (k - 16 : Int32) >>> ((1 : Int32) &&& 31) = 3 then (if k &&& 1 = 0 then 2 else -2) else 0)
