def zR (k : Nat) : String := match k with | 0 => RX0 | 1 => RX1 | 2 => RX2 | 3 => RX3 | _ => RX4
def zT (k : Nat) : u_T := match k with | 0 => TX0 | 1 => TX1 | 2 => TX2 | 3 => TX3 | _ => TX4
/-- which field an instruction names: field j of the class k, by the entry i of the class own -/
def zFl (own : String) (i k j : Nat) : Prop := (Cond.fieldLink own i (zR k) (zT k j).2.1 (zT k j).2.2.1 ∈ lw_tbl) ∨ ∃ host, Cond.fieldLinkNest own i (zR k) (zT k j).2.1 (zT k j).2.2.1 host ∈ lw_tbl
/-- what the tables say of a method that is called -/
def zMv (y : MethodName) (cc : ByteArray) (nL : Nat) (ret : Option FieldType) (k : Nat) : Prop := Cond.instanceMethod y ∈ lw_tbl ∧ Cond.selects y.cls y y ∈ lw_tbl ∧ Cond.initialized y.cls ∈ lw_tbl ∧ Cond.code y cc nL ret ∈ lw_tbl ∧ y.cls ≠ "java/lang/invoke/MethodHandle" ∧ y.cls ≠ "java/lang/invoke/VarHandle" ∧ (parseMethodDescriptor y.desc).map (fun d => d.parameters.length) = some k
def zMs (y : MethodName) (cc : ByteArray) (nL : Nat) (ret : Option FieldType) (k : Nat) : Prop := Cond.static y ∈ lw_tbl ∧ Cond.initialized y.cls ∈ lw_tbl ∧ Cond.code y cc nL ret ∈ lw_tbl ∧ y.cls ≠ "java/lang/invoke/MethodHandle" ∧ y.cls ≠ "java/lang/invoke/VarHandle" ∧ (parseMethodDescriptor y.desc).map (fun d => d.parameters.length) = some k
def zMi (y : MethodName) (cc : ByteArray) (nL k : Nat) : Prop := Cond.instanceMethod y ∈ lw_tbl ∧ y.name = "<init>" ∧ Cond.initialized y.cls ∈ lw_tbl ∧ Cond.code y cc nL none ∈ lw_tbl ∧ y.cls ≠ "java/lang/invoke/MethodHandle" ∧ y.cls ≠ "java/lang/invoke/VarHandle" ∧ (parseMethodDescriptor y.desc).map (fun d => d.parameters.length) = some k
/-- an instruction's entry i of the class own names the method y -/
def zMl (own : String) (i : Nat) (y : MethodName) : Prop := Cond.methodLink own i y ∈ lw_tbl ∨ ∃ host, Cond.methodLinkNest own i y host ∈ lw_tbl
