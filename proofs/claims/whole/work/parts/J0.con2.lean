-- THE CONSTRUCTORS, run by the kernel, 2
def hE : Hp := ((true, 0, 0, fun _ => 99, fun _ => 0, fun _ _ => none), fun _ _ => 0, fun _ _ => 0, fun _ _ => none)
/-- the language's words, packed -/
def lngU : Nat → Int32 := fun k => if k < 21 then nI (lngL.getD k 0) else 0
/-- Tokens.<init>: the language, the tape -/
def tokH (h : Hp) (a t : Nat) : Hp := stA (stF (stF (hNew h 14 21) a 1 (some (hTop h))) a 0 (some t)) (hTop h) lngU
def tokT : Orc := fun M as h => match as with
  | [.ref a, .ref t] => gd (decide (M = MX10_init) && hAl h && hK h a == 10 && decide (a < hTop h)) (some (none, tokH h a t))
  | _ => none
def rA : Option Rs := Cfu tokT 11 MX11_init [.ref 0] (hNew hE 11 (NN 11))
def hA1 : Hp := match rA with
  | some r => r.2
  | none => hE
def hA2 : Hp := hNew hA1 12 (NN 12)
def kdB (a : Nat) : Nat := if a < 124 then kd0 a else 99
def fiB (a : Nat) : Nat → Option Nat := if a < 123 then fi0 a else fun _ => none
def sB : Hs := (true, 124, 32695, kdB, ln0, fiB)
def hB : Hp := (sB, hA2.2)
def cB : Option Cf := runC (Cfu tokT 10) MX12_init rwX12 (0, [some (.ref 123)], [], hB)
def hB2 : Hp := match cB with
  | some c => c.2.2.2
  | none => hE
def zeC : List (Nat × Nat) := [(3, 1), (7, 1), (17, 1), (2, 12), (21, 0), (21, 1), (25, 0), (25, 1), (60, 1), (60, 2), (60, 3), (60, 4), (0, 7), (105, 1), (107, 4), (0, 1), (117, 4), (112, 7), (123, 1)]
def chI (h : Hp) : Bool := zeC.all (fun x => hI h x.1 x.2 == 0) && (List.range 6).all (fun i => hI h 9 i == -1 && hI h 62 i == -1) && (hI h 107 5 == -1 && hI h 56 2 == hI h 123 4 && hI h 56 3 == hI h 123 5) && (List.range 107).all (fun k => hI h 125 k == nI (wrdL.getD k 0)) && (List.range 21).all (fun k => hI h 58 k == nI (lngL.getD k 0)) && (hR h 0 3 == some 2 && hR h 0 4 == some 29 && hR h 60 0 == some 2)
theorem evA : ((match rA with
  | some (none, _) => true
  | _ => false) && chT 124 hA2 hB) = true := by decide +kernel
theorem evB : ((match cB with
  | some (1030, [some (.ref 123)], [], _) => true
  | _ => false) && chT 171 hB2 (Gq, hB2.2)) = true := by decide +kernel
theorem evI : chI hB2 = true := by decide +kernel
