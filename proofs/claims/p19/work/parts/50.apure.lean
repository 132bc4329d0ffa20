/-! where a new object's cells lie -/
def zad (q : Nat) (u : Nat → Nat) : Nat → Nat
  | 0 => q
  | n + 1 => u (n + 1)
def kad (q : Nat) (u : Nat → Nat) : Nat → Nat
  | 1 => q
  | n => u n
def oad (h q r : Nat) (u : Nat → Nat) : Nat → Nat
  | 0 => h
  | 1 => q
  | 5 => r
  | n => u n
def cal0 : sS := fun r _ => match r with
  | 2 => 60
  | 3 => 3
  | _ => 0
def bst0 : sS := fun _ _ => 0
