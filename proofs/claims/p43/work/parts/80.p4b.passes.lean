/-! evenings -/
section PA
variable {A : Nat → Nat} {nt ne n d : Nat} {xT xK xE xF xL uK uB uO uR uL f1 f2 : Nat → Int32} {no : Nat} {xD xW xEd xSk xSp uD uW uBg uEd uOr uWi uAl : Nat → Int32}
theorem add0 (x : Int32) : x + 0 = x := Int32.add_zero x
end PA
