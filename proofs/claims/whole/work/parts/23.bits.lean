/-! BITS of small sets, and Integer.bitCount -/
def popc (s : Nat) : Nat := (if s.testBit 0 then 1 else 0) + (if s.testBit 1 then 1 else 0) + (if s.testBit 2 then 1 else 0) + (if s.testBit 3 then 1 else 0) + (if s.testBit 4 then 1 else 0) + (if s.testBit 5 then 1 else 0) + (if s.testBit 6 then 1 else 0) + (if s.testBit 7 then 1 else 0)
def bc1 (i : Int) : Int := i - bAnd (bUsr i 1) 1431655765
def bc2 (i : Int) : Int := bAnd (bc1 i) 858993459 + bAnd (bUsr (bc1 i) 2) 858993459
def bc3 (i : Int) : Int := bAnd (bc2 i + bUsr (bc2 i) 4) 252645135
def bc4 (i : Int) : Int := bc3 i + bUsr (bc3 i) 8
def bc5 (i : Int) : Int := bc4 i + bUsr (bc4 i) 16
theorem bc_all : ∀ n : Nat, n < 256 → (0 ≤ bc1 (n : Int) ∧ bc1 (n : Int) ≤ 255) ∧ (0 ≤ bc2 (n : Int) ∧ bc2 (n : Int) ≤ 255) ∧ (0 ≤ bc2 (n : Int) + bUsr (bc2 (n : Int)) 4 ∧ bc2 (n : Int) + bUsr (bc2 (n : Int)) 4 ≤ 1000) ∧ (0 ≤ bc4 (n : Int) ∧ bc4 (n : Int) ≤ 1000) ∧ (0 ≤ bc5 (n : Int) ∧ bc5 (n : Int) ≤ 1000) ∧ bAnd (bc5 (n : Int)) 63 = (popc n : Int) := by decide +kernel
theorem bit_t : ∀ s : Nat, s < 256 → ∀ g : Nat, g < 8 → (bAnd (bShr (s : Int) (g : Int)) 1 = 1 ↔ s.testBit g = true) := by decide +kernel
theorem bit_d : ∀ s : Nat, s < 64 → ∀ g : Nat, g < 6 → s.testBit g = true → bAnd (s : Int) (bXor (bShl 1 (g : Int)) (-1)) = ((s - 2 ^ g : Nat) : Int) ∧ s - 2 ^ g < s ∧ popc (s - 2 ^ g) + 1 = popc s := by decide +kernel
theorem bit_p : ∀ s : Nat, s < 64 → popc s ≤ 6 ∧ (s ≠ 0 → 1 ≤ popc s) := by decide +kernel
theorem bit_f : ∀ n : Nat, n ≤ 6 → popc (2 ^ n - 1) = n ∧ 2 ^ n ≤ 64 := by decide +kernel
theorem bit_n : ∀ n : Nat, n ≤ 6 → ∀ s : Nat, s < 64 → s < 2 ^ n → (popc s ≤ n ∧ ∀ g, g < 6 → s.testBit g = true → g < n) := by decide +kernel
theorem ki_0 : (Cond.constant RJ6 265 (Int32.ofInt 1431655765) ∈ TBL ∧ Cond.constant RJ6 266 (Int32.ofInt 858993459) ∈ TBL) ∧ Cond.constant RJ6 267 (Int32.ofInt 252645135) ∈ TBL := ⟨⟨ki_J6_265, ki_J6_266⟩, ki_J6_267⟩
section BITC
variable {l : Launch} {w : Wd} {own : String} {cc : ByteArray} {nL : Nat} {R : Room} {cs sl : Nat} {A : State → Nat → Prop} {Qf : List Frame → Array Value → State → State → Prop} {Ex : State → Array Value → Method → Prop} {pc : Nat} {L : List (Option MV)} {st : List MV} {M : Mem}
theorem e_ldcw {i : Nat} {x : Int} (hd : decode cc pc = .ok (.ldc_w i, 3)) (hw : Cond.constant own i (Int32.ofInt x) ∈ TBL) (hr : inR (vI x))
    (k : WW l w own cc nL R cs sl A Qf Ex (pc + 3) L (vI x :: st) M) : WW l w own cc nL R cs sl A Qf Ex pc L st M := by
  intro p e s m args below meth c H locs ls hF hE hS hA hP hSS hM hL hst
  refine lv_ldcw hF.1 hF.2.1 hF.2.2.2.1 (hF.2.2.2.2 _ hw) hd ?_
  exact k p e s m args below meth c H locs ls hF hE hS hA hP hSS hM hL (List.forall_mem_cons.mpr ⟨hr, hst⟩)
end BITC
section BITC2
variable {l : Launch} {w : Wd} {d : Nat} {M : Mem} {Q : Option MV → Mem → Prop}
theorem ct_J6_bitCount_0f7a4 (hd : 1 ≤ d) {n : Nat} (hn : n < 256) : PI l w yJ6_bitCount_0f7a4 cJ6_bitCount_0f7a4 1 d [vI n] M (popc n) M := by
  obtain ⟨h1, h2, h3, h4, h5, h6⟩ := bc_all n hn
  refine MT.of [some (vI n)] ⟨by decide, rfl⟩ rfl (Nat.le_of_ble_eq_true rfl) (fun hA hM => ?_)
  refine e_iload0 dJ6_bitCount_0f7a4_0 ?_
  refine e_iload0 dJ6_bitCount_0f7a4_1 ?_
  refine e_iconst dJ6_bitCount_0f7a4_2 rfl kc_1 ?_
  refine e_iushr dJ6_bitCount_0f7a4_3 ?_
  refine e_ldcw dJ6_bitCount_0f7a4_4 ki_J6_265 ⟨by decide, by decide⟩ ?_
  refine e_iand dJ6_bitCount_0f7a4_7 ?_
  refine e_isub dJ6_bitCount_0f7a4_8 (by show inR (vI (bc1 n)); exact ⟨by omega, by omega⟩) ?_
  refine e_istore0 dJ6_bitCount_0f7a4_9 ?_
  refine e_iload0 dJ6_bitCount_0f7a4_10 ?_
  refine e_ldcw dJ6_bitCount_0f7a4_11 ki_J6_266 ⟨by decide, by decide⟩ ?_
  refine e_iand dJ6_bitCount_0f7a4_14 ?_
  refine e_iload0 dJ6_bitCount_0f7a4_15 ?_
  refine e_iconst dJ6_bitCount_0f7a4_16 rfl kc_2 ?_
  refine e_iushr dJ6_bitCount_0f7a4_17 ?_
  refine e_ldcw dJ6_bitCount_0f7a4_18 ki_J6_266 ⟨by decide, by decide⟩ ?_
  refine e_iand dJ6_bitCount_0f7a4_21 ?_
  refine e_iadd dJ6_bitCount_0f7a4_22 (by show inR (vI (bc2 n)); exact ⟨by omega, by omega⟩) ?_
  refine e_istore0 dJ6_bitCount_0f7a4_23 ?_
  refine e_iload0 dJ6_bitCount_0f7a4_24 ?_
  refine e_iload0 dJ6_bitCount_0f7a4_25 ?_
  refine e_iconst dJ6_bitCount_0f7a4_26 rfl kc_4 ?_
  refine e_iushr dJ6_bitCount_0f7a4_27 ?_
  refine e_iadd dJ6_bitCount_0f7a4_28 (by show inR (vI (bc2 n + bUsr (bc2 n) 4)); exact ⟨by omega, by omega⟩) ?_
  refine e_ldcw dJ6_bitCount_0f7a4_29 ki_J6_267 ⟨by decide, by decide⟩ ?_
  refine e_iand dJ6_bitCount_0f7a4_32 ?_
  refine e_istore0 dJ6_bitCount_0f7a4_33 ?_
  refine e_iload0 dJ6_bitCount_0f7a4_34 ?_
  refine e_iload0 dJ6_bitCount_0f7a4_35 ?_
  refine e_bipush dJ6_bitCount_0f7a4_36 rfl kb_8 ?_
  refine e_iushr dJ6_bitCount_0f7a4_38 ?_
  refine e_iadd dJ6_bitCount_0f7a4_39 (by show inR (vI (bc4 n)); exact ⟨by omega, by omega⟩) ?_
  refine e_istore0 dJ6_bitCount_0f7a4_40 ?_
  refine e_iload0 dJ6_bitCount_0f7a4_41 ?_
  refine e_iload0 dJ6_bitCount_0f7a4_42 ?_
  refine e_bipush dJ6_bitCount_0f7a4_43 rfl kb_16 ?_
  refine e_iushr dJ6_bitCount_0f7a4_45 ?_
  refine e_iadd dJ6_bitCount_0f7a4_46 (by show inR (vI (bc5 n)); exact ⟨by omega, by omega⟩) ?_
  refine e_istore0 dJ6_bitCount_0f7a4_47 ?_
  refine e_iload0 dJ6_bitCount_0f7a4_48 ?_
  refine e_bipush dJ6_bitCount_0f7a4_49 rfl kb_63 ?_
  refine e_iand dJ6_bitCount_0f7a4_51 ?_
  refine e_iret dJ6_bitCount_0f7a4_52 ?_
  exact ⟨rfl, by rw [← h6]; rfl⟩
end BITC2
