-- the constructors, run by the kernel
def hE : Hp := ((true, 0, 0, fun _ => 99, fun _ => 0, fun _ _ => none), fun _ _ => 0, fun _ _ => 0, fun _ _ => none)
def lngU (i : Nat) : Nat → Int32 := fun k => if k < 21 then nI (lngL.getD k 0) else 0
/-- Tokens.<init>: the tape, the language -/
def tokT : Orc := fun M as h => match as with
  | [.ref a, .ref t] => gd (M.2.2.2.2 == 110 && hAl h) (some (none, stA (stF (stF (hNew h 14 21) a 1 (some (hTop h))) a 0 (some t)) (hTop h) (lngU 0)))
  | _ => none
def hX1 : Option Rs := Cfu tokT 6 MX11_init [.ref 0] (hNew hE 11 (NN 11))
theorem tst1 : (match hX1 with | some (none, h) => hTop h == 123 | _ => false) = true := by decide +kernel
