/-! ===== THE ABSTRACT MACHINE: the bytecode's steps over numbered cells, a function of its own ===== -/
/-- from here on an index names a cell that nobody writes (texts, statics, the script) -/
def aRO : Nat := 1000000
/-- cells made so far, slots made so far, what each index holds -/
abbrev aH : Type := Nat × Nat × (Nat → Option va_E)
/-- own class's number, name, code, locals, answer's type -/
abbrev aM : Type := Nat × MethodName × ByteArray × Nat × Option FieldType
/-- place, locals, stack, heap -/
abbrev aS : Type := Nat × List (Option Value) × List Value × aH
abbrev aR : Type := Option Value × aH
/-- kinds of a call: 0 virtual, 1 virtual of a nest mate, 2 static, 3 static of a nest mate, 4 <init>, 5 <init> of a nest mate, 6 Object.<init>, 7 arraycopy; how many parameters; the method -/
abbrev aL : Type := Nat × Nat × aM
