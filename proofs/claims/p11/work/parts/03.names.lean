def F_X : u_T := fun k => match k with
  | 0 => ("Generations", "limit", "I", true)
  | 1 => ("Generations", "scratches", "Z", true)
  | 2 => ("Generations", "emptyRule", "Z", false)
  | 3 => ("Generations", "row", "LGenerations$Row;", true)
  | 4 => ("Generations", "jobs", "Ljava/util/ArrayList;", true)
  | 5 => ("Generations", "known", "Ljava/util/ArrayList;", true)
  | 6 => ("Generations", "nowhere", "LGenerations$Generation;", true)
  | 7 => ("Generations", "gone", "[I", true)
  | _ => ("Generations", "goneCount", "I", false)
def t_X : Nat → FieldType := fun k => match k with
  | 0 => .int
  | 1 => .boolean
  | 2 => .boolean
  | 3 => .object "Generations$Row"
  | 4 => .object "java/util/ArrayList"
  | 5 => .object "java/util/ArrayList"
  | 6 => .object "Generations$Generation"
  | 7 => .array .int
  | _ => .int
def F_Row : u_T := fun k => match k with
  | 0 => ("Generations$Row", "numbers", "[I", true)
  | _ => ("Generations$Row", "size", "I", false)
def t_Row : Nat → FieldType := fun k => match k with
  | 0 => .array .int
  | _ => .int
def F_Gen : u_T := fun k => match k with
  | 0 => ("Generations$Generation", "number", "I", true)
  | 1 => ("Generations$Generation", "state", "I", false)
  | 2 => ("Generations$Generation", "version", "I", false)
  | 3 => ("Generations$Generation", "maker", "I", false)
  | _ => ("Generations$Generation", "failedAtEnd", "I", false)
def t_Gen : Nat → FieldType := fun k => match k with
  | 0 => .int
  | 1 => .int
  | 2 => .int
  | 3 => .int
  | _ => .int
def F_Job : u_T := fun k => match k with
  | 0 => ("Generations$Job", "rowThen", "[I", true)
  | _ => ("Generations$Job", "ends", "I", false)
def t_Job : Nat → FieldType := fun k => match k with
  | 0 => .array .int
  | _ => .int
def F_AL : u_T := fun k => match k with
  | 0 => ("java/util/AbstractList", "modCount", "I", false)
  | 1 => ("java/util/ArrayList", "elementData", "[Ljava/lang/Object;", false)
  | _ => ("java/util/ArrayList", "size", "I", false)
def t_AL : Nat → FieldType := fun k => match k with
  | 0 => .int
  | 1 => .array (.object "java/lang/Object")
  | _ => .int
def F_Mo : u_T := fun k => match k with
  | 0 => ("GenerationsModel", "code", "I", false)
  | 1 => ("GenerationsModel", "limit", "I", true)
  | 2 => ("GenerationsModel", "scratch", "Z", true)
  | 3 => ("GenerationsModel", "empties", "Z", false)
  | 4 => ("GenerationsModel", "there", "[I", true)
  | 5 => ("GenerationsModel", "row", "[I", true)
  | 6 => ("GenerationsModel", "size", "I", false)
  | 7 => ("GenerationsModel", "found", "[I", true)
  | 8 => ("GenerationsModel", "foundSize", "[I", true)
  | 9 => ("GenerationsModel", "ends", "[I", true)
  | 10 => ("GenerationsModel", "made", "[I", true)
  | 11 => ("GenerationsModel", "jobs", "I", false)
  | 12 => ("GenerationsModel", "maker", "I", false)
  | 13 => ("GenerationsModel", "drops", "[I", true)
  | _ => ("GenerationsModel", "dropped", "I", false)
def t_Mo : Nat → FieldType := fun k => match k with
  | 0 => .int
  | 1 => .int
  | 2 => .boolean
  | 3 => .boolean
  | 4 => .array .int
  | 5 => .array .int
  | 6 => .int
  | 7 => .array .int
  | 8 => .array .int
  | 9 => .array .int
  | 10 => .array .int
  | 11 => .int
  | 12 => .int
  | 13 => .array .int
  | _ => .int
abbrev vwCl : List vw_C := [("Generations", F_X, 9), ("Generations$Row", F_Row, 2), ("Generations$Generation", F_Gen, 5), ("Generations$Job", F_Job, 2), ("java/util/ArrayList", F_AL, 3), ("GenerationsModel", F_Mo, 15)]
theorem n_X : ∀ a, a < 9 → ∀ b, b < 9 → a ≠ b → (F_X a).2.1 ≠ (F_X b).2.1 := by decide +kernel
theorem t_X_ok : ∀ k, k < 9 → parseFieldDescriptor (F_X k).2.2.1 = some (t_X k) := by decide +kernel
theorem n_Row : ∀ a, a < 2 → ∀ b, b < 2 → a ≠ b → (F_Row a).2.1 ≠ (F_Row b).2.1 := by decide +kernel
theorem t_Row_ok : ∀ k, k < 2 → parseFieldDescriptor (F_Row k).2.2.1 = some (t_Row k) := by decide +kernel
theorem n_Gen : ∀ a, a < 5 → ∀ b, b < 5 → a ≠ b → (F_Gen a).2.1 ≠ (F_Gen b).2.1 := by decide +kernel
theorem t_Gen_ok : ∀ k, k < 5 → parseFieldDescriptor (F_Gen k).2.2.1 = some (t_Gen k) := by decide +kernel
theorem n_Job : ∀ a, a < 2 → ∀ b, b < 2 → a ≠ b → (F_Job a).2.1 ≠ (F_Job b).2.1 := by decide +kernel
theorem t_Job_ok : ∀ k, k < 2 → parseFieldDescriptor (F_Job k).2.2.1 = some (t_Job k) := by decide +kernel
theorem n_AL : ∀ a, a < 3 → ∀ b, b < 3 → a ≠ b → (F_AL a).2.1 ≠ (F_AL b).2.1 := by decide +kernel
theorem t_AL_ok : ∀ k, k < 3 → parseFieldDescriptor (F_AL k).2.2.1 = some (t_AL k) := by decide +kernel
theorem n_Mo : ∀ a, a < 15 → ∀ b, b < 15 → a ≠ b → (F_Mo a).2.1 ≠ (F_Mo b).2.1 := by decide +kernel
theorem t_Mo_ok : ∀ k, k < 15 → parseFieldDescriptor (F_Mo k).2.2.1 = some (t_Mo k) := by decide +kernel
