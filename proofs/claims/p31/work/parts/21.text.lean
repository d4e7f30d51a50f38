def hereF (TT : Int → Int) (lt p : Int) : Int := if p < lt then TT p else 0
/-- a character at the end of the text: the answer, the text, the fields (2: how many letters) -/
def typP (TT F : Int → Int) (ch : Int) : Int × (Int → Int) × (Int → Int) := if ¬ (32 ≤ ch ∧ ch ≤ 126) then (-1, TT, F) else if F 2 = 80 then (-3, TT, F) else (F 2 + 1, uZ TT (F 2) ch, uZ F 2 (F 2 + 1))
