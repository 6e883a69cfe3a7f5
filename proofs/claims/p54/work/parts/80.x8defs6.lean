/-! ===== texts that are appended or written; what two paths have in common ===== -/
def app4 (F : Int → Int) (n v : Int) : Int → Int := upI (upI (upI (upI F n (v / 16777216)) (n + 1) (v / 65536)) (n + 1 + 1) (v / 256)) (n + 1 + 1 + 1) (v / 1)
def apd5 (F : Int → Int) (n a b c d e : Int) : Int → Int := app4 (app4 (app4 (app4 (app4 F n a) (n + 4) b) (n + 4 + 4) c) (n + 4 + 4 + 4) d) (n + 4 + 4 + 4 + 4) e
