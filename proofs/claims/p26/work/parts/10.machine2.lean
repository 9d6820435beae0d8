/-- the pool entry 'index' of own is the field i of the objects of kind ci -/
def LK (own : String) (index ci i : Nat) : Prop := ∃ r : vw_C, vwCl[ci]? = some r ∧ i < r.2.2 ∧ (Cond.fieldLink own index (r.2.1 i).1 (r.2.1 i).2.1 (r.2.1 i).2.2.1 ∈ BIG ∨ ∃ host, Cond.fieldLinkNest own index (r.2.1 i).1 (r.2.1 i).2.1 (r.2.1 i).2.2.1 host ∈ NST)
/-- and may be written, as a value of type ty -/
def LQ (ci i : Nat) (ty : FieldType) : Prop := ∃ r : vw_C, vwCl[ci]? = some r ∧ (r.2.1 i).2.2.2 = false ∧ parseFieldDescriptor (r.2.1 i).2.2.1 = some ty
/-- calls: what the tables say of the method y -/
def MW (y : MethodName) (code : ByteArray) (maxL : Nat) (ret : Option FieldType) (np : Nat) : Prop := Cond.code y code maxL ret ∈ BIG ∧ Cond.instanceMethod y ∈ BIG ∧ Cond.selects y.cls y y ∈ BIG ∧ Cond.initialized y.cls ∈ BIG ∧ (y.cls ≠ "java/lang/invoke/MethodHandle" ∧ y.cls ≠ "java/lang/invoke/VarHandle" ∧ (parseMethodDescriptor y.desc).map (fun d => d.parameters.length) = some np)
def MS (y : MethodName) (code : ByteArray) (maxL : Nat) (ret : Option FieldType) (np : Nat) : Prop := Cond.code y code maxL ret ∈ BIG ∧ Cond.static y ∈ BIG ∧ Cond.initialized y.cls ∈ BIG ∧ (y.cls ≠ "java/lang/invoke/MethodHandle" ∧ y.cls ≠ "java/lang/invoke/VarHandle" ∧ (parseMethodDescriptor y.desc).map (fun d => d.parameters.length) = some np)
/-- the pool entry 'index' of own is the method y -/
def ML (own : String) (index : Nat) (y : MethodName) : Prop := Cond.methodLink own index y ∈ BIG ∨ ∃ host, Cond.methodLinkNest own index y host ∈ NST
