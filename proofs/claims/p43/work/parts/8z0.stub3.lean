def f_J1_charAt_3b067 (i : Nat) (p1 : Int32) : Option (Int32) :=
  (if ckB p1 (Int32.ofNat (lenS.getD i 0)) = true then (if ib p1 (lenS.getD i 0) = true then (if crB ((((bytS.getD i []).getD p1.toNatClampNeg 0) &&& (255 : Int32)).toUInt32 % 65536).toInt32 = true then (some ((((bytS.getD i []).getD p1.toNatClampNeg 0) &&& (255 : Int32)).toUInt32 % 65536).toInt32) else none) else none) else none)
def f_J0_charAt_5068e (i : Nat) (p1 : Int32) : Option (Int32) :=
  (oB none (f_J1_charAt_3b067 i p1) (fun (r1259 : Int32) => (if crB r1259 = true then (some r1259) else none)))
def f_To_fillKeywords_L4  (z : Int64 × Int32 × Int32 × (Nat → Int64)) : (Int64 × Int32 × Int32 × (Nat → Int64)) ⊕ (Option (Int32 × (Nat → Int64))) :=
  (if (f_J0_length_8abf5 0) ≤ z.2.1 then (.inr (some (z.2.2.1, z.2.2.2))) else (oB (.inr none) (f_J0_charAt_5068e 0 z.2.1) (fun (r1263 : Int32) => (if r1263 = (32 : Int32) then (.inl ((0 : Int64), (z.2.1 + (1 : Int32)), (nacnt 25 z.2.2.1), (nadd 25 z.2.2.2 z.2.2.1 z.1))) else (.inl ((f_To_pack z.1 r1263), (z.2.1 + (1 : Int32)), z.2.2.1, z.2.2.2))))))
def f_To_fillKeywords (N : Nat) (Na_count : Int32) (Na_words : (Nat → Int64)) : Option (Int32 × (Nat → Int64)) :=
  (lpS (f_To_fillKeywords_L4) none N ((0 : Int64), (0 : Int32), Na_count, Na_words))
def kwR : Option (Int32 × (Nat → Int64)) := f_To_fillKeywords 200 0 (fun _ => 0)
theorem kwS : kwR.isSome = true := by decide +kernel
def kwO : Int32 × (Nat → Int64) := kwR.get kwS
theorem ct_Main_init {g : GG} {a : Nat} {t : va_W}   : Ct g mX9_init 8 76 6678 [.ref a] ((a, .inr (9, [.null, .null, .null, .null, .null, .null, .int 0, .int 0])) :: t) (Dx1 a fun b => wlX g b (0 : Int32) (-1 : Int32) (fun _ => 0) (0) (0) (0 : Int32) (fun _ => 0) (fun _ => 0) (fun _ => 0) (fun _ => 0) (fun _ => 0) (0 : Int32) (0 : Int32) (fun _ => 0) (fun _ => 0) (fun _ => 0) (fun _ => 0) (fun _ => 0) (-1 : Int32) (0) (0) (fun _ => 0) (fun _ => 0) (fun _ => 0) (0) (0) (0) (0) (0) (0) (0) (0) (0) (fun _ => 0) (fun _ => 0) (fun _ => 0) (fun _ => 0) (kwO.1) kwO.2 (0) (0) (0 : Int32) (fun _ => 0) (fun _ => 0) (fun _ => 0) (fun _ => 0) (fun _ => 0) (0 : Int32) (0 : Int32) (fun _ => 0) (fun _ => 0) (fun _ => 0) (fun _ => 0) (fun _ => 0) (0 : Int32) (fun _ => 0) (0 : Int32) (fun _ => 0) (0) (0) (0) (0) (fun _ => 0) (0) (0) (0) (0) (fun _ => 0) ++ t) := by
  sorry
