/-! NoSuchElementException's own constructor calls its superclass by another index than the kit's chain of constructors has: its words, the two that differ exchanged. -/
def gNS : String := "java/util/NoSuchElementException"
def gRE : String := "java/lang/RuntimeException"
def gNSnames : List String := [gRE, "java/lang/Exception"]
def gNSall : List Cond := Bundle.passSAtoms gNS gRE 13 prog_13_method_4_code ++ (Bundle.ownAtoms "Stairflow" 185 gNS gNSnames).filter (fun w => decide (w ≠ .code (Bundle.initS gNS) Bundle.six 2 none) && decide (w ≠ .methodLink gNS 7 (Bundle.initS gRE)))
def gNSat : List Cond := gNSall.filter vx_no
