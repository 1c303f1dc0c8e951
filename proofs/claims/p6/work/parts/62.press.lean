/-! ===== Pane: press ===== -/
def pPress (cm of sz k : Int) : Int × Int := if k = 107 then (cm, pLook cm of sz 1) else if k = 106 then (cm, pLook cm of sz (-1)) else if k = 113 then (0, if 0 = cm then of else 0) else (cm, of)
