/-! throws of the class: 'throw new E()' of two classes of exceptions; the words that it takes -/
def nsE : String := "java/util/NoSuchElementException"
def iaE : String := "java/lang/IllegalArgumentException"
def upE : List String := ["java/lang/RuntimeException", "java/lang/Exception"]
def tNG (E : String) : List Cond := [.castable E E, .declares (Bundle.init0 "java/lang/RuntimeException"), .declares (Bundle.init0 "java/lang/Exception"), .declares (Bundle.init0 Bundle.tN), .laysStatic Bundle.tN "UNASSIGNED_STACK" Bundle.steD, .laysStatic Bundle.tN "SUPPRESSED_SENTINEL" Bundle.listD, .isRef (.static Bundle.tN "UNASSIGNED_STACK" Bundle.steD), .isRef (.static Bundle.tN "SUPPRESSED_SENTINEL" Bundle.listD)]
theorem t_at_ns : ∀ w ∈ Bundle.ownAtoms0 RX 25 nsE upE, w ∈ wAll ∨ w ∈ tNG nsE := by decide +kernel
theorem t_at_ia : ∀ w ∈ Bundle.ownAtoms0 RX 51 iaE upE, w ∈ wAll ∨ w ∈ tNG iaE := by decide +kernel
