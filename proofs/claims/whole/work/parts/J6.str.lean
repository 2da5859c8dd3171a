-- STRINGS: what the law's entry gives of the one constant that Tokens.<init> reads
def lngS : String := "not   and   or    speed swing pull  weightplace step  count beam  clock phase drive start wall  law   lose  go    may   hang  "
def lngB : List Int32 := lngS.toList.map (fun ch => Int32.ofNat ch.toNat)
def gvL : List Cond := flatC (Cond.and given_1 narrow_1)
def SF (b sa va : Nat) (U : State) (H : Heap) : Prop := vk_R "BeamClocks$Tokens" 19 lngS sa U ∧ va_O "java/lang/String" sa (fun q => b ≤ q) U H ∧ va_OF "java/lang/String" "coder" "B" (.int 0) sa (fun q => b ≤ q) U H ∧ va_OF "java/lang/String" "value" "[B" (.ref va) sa (fun q => b ≤ q) U H ∧ va_T .byte va 126 (fun j => .int (lngB.getD j 0)) (fun q => b ≤ q) U H ∧ va_Z "java/lang/String" "COMPACT_STRINGS" "Z" (.int 1) (fun q => b ≤ q) U H ∧ va_Zq "jdk/internal/util/Preconditions" "SIOOBE_FORMATTER" "Ljava/util/function/BiFunction;" (fun q => b ≤ q) U H
theorem gv_el : ∀ j, j < 126 → gvL[43 + j]? = some (Cond.eq (.elem (.field (.string "BeamClocks$Tokens" 19) "java/lang/String" "value" "[B") (.int (Int32.ofNat j))) (.int (([lngB].getD 0 []).getD j 0))) := by decide +kernel
theorem gv_39 : gvL[39]? = some (Cond.exactly (.string "BeamClocks$Tokens" 19) "java/lang/String") := by decide +kernel
theorem gv_40 : gvL[40]? = some (Cond.eq (.field (.string "BeamClocks$Tokens" 19) "java/lang/String" "coder" "B") (.int 0)) := by decide +kernel
theorem gv_41 : gvL[41]? = some (Cond.arrayOf (.field (.string "BeamClocks$Tokens" 19) "java/lang/String" "value" "[B") .byte) := by decide +kernel
theorem gv_42 : gvL[42]? = some (Cond.eq (.length (.field (.string "BeamClocks$Tokens" 19) "java/lang/String" "value" "[B")) (.int (Int32.ofNat ([126].getD 0 0)))) := by decide +kernel
theorem gv_4 : gvL[4]? = some (Cond.eq (.static "java/lang/String" "COMPACT_STRINGS" "Z") (.int 1)) := by decide +kernel
theorem gv_5 : gvL[5]? = some (Cond.isRef (.static "jdk/internal/util/Preconditions" "SIOOBE_FORMATTER" "Ljava/util/function/BiFunction;")) := by decide +kernel
theorem lng1 : [lngB].getD 0 [] = lngB := List.getD_cons_zero
theorem len1 : [126].getD 0 0 = 126 := List.getD_cons_zero
theorem t1_in {w : Cond} (i : Nat) (h : tables_1_1[i]? = some w) : w ∈ tables_1 := List.mem_append_left _ (List.mem_of_getElem? h)
theorem KP_SF {b : Nat} {U : State} (k : KP b U) : ∃ sa va, SF b sa va U U.heap := by
  obtain ⟨s0, a0, h1, h2, h3, h4, h5⟩ := k
  have hf : ∀ c ∈ gvL, c.before #[Value.ref a0] s0 = true := flat_of_before _ h3
  have hA : ∀ a : Nat, a < s0.heap.size → ¬ b ≤ a := fun a ha => by omega
  have hkept : ∀ a : Nat, a < s0.heap.size → ¬ b ≤ a → U.heap[a]? = s0.heap[a]? := fun a ha _ => h5 a (by omega)
  obtain ⟨adK, adV, hS, hE⟩ := vk_Sof (args := #[Value.ref a0]) (s := s0) (N := 1) (tm := fun _ => Term.string "BeamClocks$Tokens" 19) (len := [126]) (byt := [lngB]) (A := fun q => b ≤ q) (fun i hi => by obtain rfl : i = 0 := (by omega); rw [len1]; omega) (fun i _ => hf _ (List.mem_of_getElem? gv_39)) (fun i _ => hf _ (List.mem_of_getElem? gv_40)) (fun i _ => hf _ (List.mem_of_getElem? gv_41)) (fun i hi => by obtain rfl : i = 0 := (by omega); exact hf _ (List.mem_of_getElem? gv_42)) (fun i hi j hj => by obtain rfl : i = 0 := (by omega); exact hf _ (List.mem_of_getElem? (gv_el j hj))) (fun i j hi hj q => absurd (show i = j by omega) q) hA
  have g := hS.1 0 (by omega)
  rw [lng1, len1] at g
  have hw : vk_R "BeamClocks$Tokens" 19 lngS (adK 0) s0 := vk_R.of (h2 _ (t1_in 190 rfl)) (hE 0 (by omega))
  refine ⟨adK 0, adV 0, vk_R.warm h4 hw, (g.1.moved h4.alike).kept hkept, (g.2.1.moved h4.alike).kept hkept, (g.2.2.1.moved h4.alike).kept hkept, (g.2.2.2.moved h4.alike).kept hkept, ?_, ?_⟩
  · exact ((va_Zof (h2 _ (t1_in 200 rfl)) (h2 _ (t1_in 7 rfl)) (va_eqi (hf _ (List.mem_of_getElem? gv_4))) hA).moved h4.alike).kept hkept
  · exact ((va_Zqof (h2 _ (t1_in 216 rfl)) (h2 _ (t1_in 9 rfl)) (hf _ (List.mem_of_getElem? gv_5)) hA).moved h4.alike).kept hkept
