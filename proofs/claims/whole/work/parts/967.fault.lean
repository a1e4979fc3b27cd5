/-! a fault's row of a field -/
def kF1 (φ : Nat) (t : Nat) (vz7 : Int64) (M10 : Mem) : Option (Int32 × Mem) :=
 (ldr 6 (M10.2.2 t 1)).bind fun vr11 =>
 bd (fX6_passWord vr11 (10 : Int32) M10) fun v12 M13 =>
 if v12 = 0 then
 some ((0 : Int32), M13)
 else
 bd (fX1_passCoordinate t (0 : Int32) M13) fun v14 M15 =>
 if v14 = 0 then
 some ((0 : Int32), M15)
 else
 bd (fX1_passCoordinate t (1 : Int32) M15) fun v16 M17 =>
 if v16 = 0 then
 some ((0 : Int32), M17)
 else
 (ldr 6 (M17.2.2 t 1)).bind fun vr18 =>
 bd (fX6_passWord vr18 (11 : Int32) M17) fun v19 M20 =>
 if v19 = 0 then
 some ((0 : Int32), M20)
 else
 bd (fX1_passCoordinate t (2 : Int32) M20) fun v21 M22 =>
 if v21 = 0 then
 some ((0 : Int32), M22)
 else
 (ldr 6 (M22.2.2 t 1)).bind fun vr23 =>
 (fX6_isNumber vr23 (0 : Int32) (999 : Int32) M22).bind fun v24 =>
 if v24 = 0 then
 (ldr 6 (M22.2.2 t 1)).bind fun vr51 =>
 (ldr 6 (M22.2.2 t 1)).bind fun vr52 =>
 (fX6_numberFault vr52 M22).bind fun v53 =>
 bd (fX6_refuseToken vr51 v53 M22) fun v54 M55 =>
 if v54 = 0 ∨ v54 = 1 then some (v54, M55) else none
 else
 (ldr 6 (M22.2.2 t 1)).bind fun vr25 =>
 (fX6_value vr25 M22).bind fun v26 =>
 ixk (3 : Int32) 4 (nm (stI M22 (t + 1) (3 : Int32).toNatClampNeg v26) (fun M27 =>
 ixk (0 : Int32) 4 (
 ixk (2 : Int32) 4 (
 jn ((ldr 6 (M27.2.2 t 1)).bind fun vr29 =>
 bd (fX6_goOn vr29 M27) fun vu30 M31 =>
 (ldr 6 (M31.2.2 t 1)).bind fun vr32 =>
 bd (fX6_passWord vr32 (12 : Int32) M31) fun v33 M34 =>
 if v33 = 0 then
 some ((0 : Int32), M34)
 else
 (ldr 6 (M34.2.2 t 1)).bind fun vr35 =>
 (fX6_value vr35 M34).bind fun v36 =>
 (ldr 6 (M34.2.2 t 1)).bind fun vr37 =>
 bd (fX6_passNumber vr37 (0 : Int32) (999 : Int32) M34) fun v38 M39 =>
 if v38 = 0 then
 some ((0 : Int32), M39)
 else
 (ldr 2 (M39.2.2 t 2)).bind fun vr40 =>
 bd (fX2_addFault 4 vr40 vz7 (t + 1) v36 M39) fun vu41 M42 =>
 (ldr 6 (M42.2.2 t 1)).bind fun vr43 =>
 bd (fX6_passSemicolon vr43 M42) fun v44 M45 =>
 if v44 = 0 ∨ v44 = 1 then some (v44, M45) else none) (fun J28 => if (M27.1 (t + 1) (0 : Int32).toNatClampNeg) = (M27.1 (t + 1) (2 : Int32).toNatClampNeg) then
 ixk (1 : Int32) 4 (
 ixk (3 : Int32) 4 (
 if (M27.1 (t + 1) (1 : Int32).toNatClampNeg) = (M27.1 (t + 1) (3 : Int32).toNatClampNeg) then
 (ldr 6 (M27.2.2 t 1)).bind fun vr47 =>
 bd (fX6_refuseToken vr47 (5 : Int32) M27) fun v48 M49 =>
 if v48 = 0 ∨ v48 = 1 then some (v48, M49) else none
 else
 J28))
 else
 J28)))))
def kF2 (φ : Nat) (t : Nat) (vz7 : Int64) (M13 : Mem) : Option (Int32 × Mem) :=
 bd (fX1_passCoordinate t (0 : Int32) M13) fun v14 M15 =>
 if v14 = 0 then
 some ((0 : Int32), M15)
 else
 bd (fX1_passCoordinate t (1 : Int32) M15) fun v16 M17 =>
 if v16 = 0 then
 some ((0 : Int32), M17)
 else
 (ldr 6 (M17.2.2 t 1)).bind fun vr18 =>
 bd (fX6_passWord vr18 (11 : Int32) M17) fun v19 M20 =>
 if v19 = 0 then
 some ((0 : Int32), M20)
 else
 bd (fX1_passCoordinate t (2 : Int32) M20) fun v21 M22 =>
 if v21 = 0 then
 some ((0 : Int32), M22)
 else
 (ldr 6 (M22.2.2 t 1)).bind fun vr23 =>
 (fX6_isNumber vr23 (0 : Int32) (999 : Int32) M22).bind fun v24 =>
 if v24 = 0 then
 (ldr 6 (M22.2.2 t 1)).bind fun vr51 =>
 (ldr 6 (M22.2.2 t 1)).bind fun vr52 =>
 (fX6_numberFault vr52 M22).bind fun v53 =>
 bd (fX6_refuseToken vr51 v53 M22) fun v54 M55 =>
 if v54 = 0 ∨ v54 = 1 then some (v54, M55) else none
 else
 (ldr 6 (M22.2.2 t 1)).bind fun vr25 =>
 (fX6_value vr25 M22).bind fun v26 =>
 ixk (3 : Int32) 4 (nm (stI M22 (t + 1) (3 : Int32).toNatClampNeg v26) (fun M27 =>
 ixk (0 : Int32) 4 (
 ixk (2 : Int32) 4 (
 jn ((ldr 6 (M27.2.2 t 1)).bind fun vr29 =>
 bd (fX6_goOn vr29 M27) fun vu30 M31 =>
 (ldr 6 (M31.2.2 t 1)).bind fun vr32 =>
 bd (fX6_passWord vr32 (12 : Int32) M31) fun v33 M34 =>
 if v33 = 0 then
 some ((0 : Int32), M34)
 else
 (ldr 6 (M34.2.2 t 1)).bind fun vr35 =>
 (fX6_value vr35 M34).bind fun v36 =>
 (ldr 6 (M34.2.2 t 1)).bind fun vr37 =>
 bd (fX6_passNumber vr37 (0 : Int32) (999 : Int32) M34) fun v38 M39 =>
 if v38 = 0 then
 some ((0 : Int32), M39)
 else
 (ldr 2 (M39.2.2 t 2)).bind fun vr40 =>
 bd (fX2_addFault 4 vr40 vz7 (t + 1) v36 M39) fun vu41 M42 =>
 (ldr 6 (M42.2.2 t 1)).bind fun vr43 =>
 bd (fX6_passSemicolon vr43 M42) fun v44 M45 =>
 if v44 = 0 ∨ v44 = 1 then some (v44, M45) else none) (fun J28 => if (M27.1 (t + 1) (0 : Int32).toNatClampNeg) = (M27.1 (t + 1) (2 : Int32).toNatClampNeg) then
 ixk (1 : Int32) 4 (
 ixk (3 : Int32) 4 (
 if (M27.1 (t + 1) (1 : Int32).toNatClampNeg) = (M27.1 (t + 1) (3 : Int32).toNatClampNeg) then
 (ldr 6 (M27.2.2 t 1)).bind fun vr47 =>
 bd (fX6_refuseToken vr47 (5 : Int32) M27) fun v48 M49 =>
 if v48 = 0 ∨ v48 = 1 then some (v48, M49) else none
 else
 J28))
 else
 J28)))))
def kF3 (φ : Nat) (t : Nat) (vz7 : Int64) (M15 : Mem) : Option (Int32 × Mem) :=
 bd (fX1_passCoordinate t (1 : Int32) M15) fun v16 M17 =>
 if v16 = 0 then
 some ((0 : Int32), M17)
 else
 (ldr 6 (M17.2.2 t 1)).bind fun vr18 =>
 bd (fX6_passWord vr18 (11 : Int32) M17) fun v19 M20 =>
 if v19 = 0 then
 some ((0 : Int32), M20)
 else
 bd (fX1_passCoordinate t (2 : Int32) M20) fun v21 M22 =>
 if v21 = 0 then
 some ((0 : Int32), M22)
 else
 (ldr 6 (M22.2.2 t 1)).bind fun vr23 =>
 (fX6_isNumber vr23 (0 : Int32) (999 : Int32) M22).bind fun v24 =>
 if v24 = 0 then
 (ldr 6 (M22.2.2 t 1)).bind fun vr51 =>
 (ldr 6 (M22.2.2 t 1)).bind fun vr52 =>
 (fX6_numberFault vr52 M22).bind fun v53 =>
 bd (fX6_refuseToken vr51 v53 M22) fun v54 M55 =>
 if v54 = 0 ∨ v54 = 1 then some (v54, M55) else none
 else
 (ldr 6 (M22.2.2 t 1)).bind fun vr25 =>
 (fX6_value vr25 M22).bind fun v26 =>
 ixk (3 : Int32) 4 (nm (stI M22 (t + 1) (3 : Int32).toNatClampNeg v26) (fun M27 =>
 ixk (0 : Int32) 4 (
 ixk (2 : Int32) 4 (
 jn ((ldr 6 (M27.2.2 t 1)).bind fun vr29 =>
 bd (fX6_goOn vr29 M27) fun vu30 M31 =>
 (ldr 6 (M31.2.2 t 1)).bind fun vr32 =>
 bd (fX6_passWord vr32 (12 : Int32) M31) fun v33 M34 =>
 if v33 = 0 then
 some ((0 : Int32), M34)
 else
 (ldr 6 (M34.2.2 t 1)).bind fun vr35 =>
 (fX6_value vr35 M34).bind fun v36 =>
 (ldr 6 (M34.2.2 t 1)).bind fun vr37 =>
 bd (fX6_passNumber vr37 (0 : Int32) (999 : Int32) M34) fun v38 M39 =>
 if v38 = 0 then
 some ((0 : Int32), M39)
 else
 (ldr 2 (M39.2.2 t 2)).bind fun vr40 =>
 bd (fX2_addFault 4 vr40 vz7 (t + 1) v36 M39) fun vu41 M42 =>
 (ldr 6 (M42.2.2 t 1)).bind fun vr43 =>
 bd (fX6_passSemicolon vr43 M42) fun v44 M45 =>
 if v44 = 0 ∨ v44 = 1 then some (v44, M45) else none) (fun J28 => if (M27.1 (t + 1) (0 : Int32).toNatClampNeg) = (M27.1 (t + 1) (2 : Int32).toNatClampNeg) then
 ixk (1 : Int32) 4 (
 ixk (3 : Int32) 4 (
 if (M27.1 (t + 1) (1 : Int32).toNatClampNeg) = (M27.1 (t + 1) (3 : Int32).toNatClampNeg) then
 (ldr 6 (M27.2.2 t 1)).bind fun vr47 =>
 bd (fX6_refuseToken vr47 (5 : Int32) M27) fun v48 M49 =>
 if v48 = 0 ∨ v48 = 1 then some (v48, M49) else none
 else
 J28))
 else
 J28)))))
def kF4 (φ : Nat) (t : Nat) (vz7 : Int64) (M17 : Mem) : Option (Int32 × Mem) :=
 (ldr 6 (M17.2.2 t 1)).bind fun vr18 =>
 bd (fX6_passWord vr18 (11 : Int32) M17) fun v19 M20 =>
 if v19 = 0 then
 some ((0 : Int32), M20)
 else
 bd (fX1_passCoordinate t (2 : Int32) M20) fun v21 M22 =>
 if v21 = 0 then
 some ((0 : Int32), M22)
 else
 (ldr 6 (M22.2.2 t 1)).bind fun vr23 =>
 (fX6_isNumber vr23 (0 : Int32) (999 : Int32) M22).bind fun v24 =>
 if v24 = 0 then
 (ldr 6 (M22.2.2 t 1)).bind fun vr51 =>
 (ldr 6 (M22.2.2 t 1)).bind fun vr52 =>
 (fX6_numberFault vr52 M22).bind fun v53 =>
 bd (fX6_refuseToken vr51 v53 M22) fun v54 M55 =>
 if v54 = 0 ∨ v54 = 1 then some (v54, M55) else none
 else
 (ldr 6 (M22.2.2 t 1)).bind fun vr25 =>
 (fX6_value vr25 M22).bind fun v26 =>
 ixk (3 : Int32) 4 (nm (stI M22 (t + 1) (3 : Int32).toNatClampNeg v26) (fun M27 =>
 ixk (0 : Int32) 4 (
 ixk (2 : Int32) 4 (
 jn ((ldr 6 (M27.2.2 t 1)).bind fun vr29 =>
 bd (fX6_goOn vr29 M27) fun vu30 M31 =>
 (ldr 6 (M31.2.2 t 1)).bind fun vr32 =>
 bd (fX6_passWord vr32 (12 : Int32) M31) fun v33 M34 =>
 if v33 = 0 then
 some ((0 : Int32), M34)
 else
 (ldr 6 (M34.2.2 t 1)).bind fun vr35 =>
 (fX6_value vr35 M34).bind fun v36 =>
 (ldr 6 (M34.2.2 t 1)).bind fun vr37 =>
 bd (fX6_passNumber vr37 (0 : Int32) (999 : Int32) M34) fun v38 M39 =>
 if v38 = 0 then
 some ((0 : Int32), M39)
 else
 (ldr 2 (M39.2.2 t 2)).bind fun vr40 =>
 bd (fX2_addFault 4 vr40 vz7 (t + 1) v36 M39) fun vu41 M42 =>
 (ldr 6 (M42.2.2 t 1)).bind fun vr43 =>
 bd (fX6_passSemicolon vr43 M42) fun v44 M45 =>
 if v44 = 0 ∨ v44 = 1 then some (v44, M45) else none) (fun J28 => if (M27.1 (t + 1) (0 : Int32).toNatClampNeg) = (M27.1 (t + 1) (2 : Int32).toNatClampNeg) then
 ixk (1 : Int32) 4 (
 ixk (3 : Int32) 4 (
 if (M27.1 (t + 1) (1 : Int32).toNatClampNeg) = (M27.1 (t + 1) (3 : Int32).toNatClampNeg) then
 (ldr 6 (M27.2.2 t 1)).bind fun vr47 =>
 bd (fX6_refuseToken vr47 (5 : Int32) M27) fun v48 M49 =>
 if v48 = 0 ∨ v48 = 1 then some (v48, M49) else none
 else
 J28))
 else
 J28)))))
def kF5 (φ : Nat) (t : Nat) (vz7 : Int64) (M20 : Mem) : Option (Int32 × Mem) :=
 bd (fX1_passCoordinate t (2 : Int32) M20) fun v21 M22 =>
 if v21 = 0 then
 some ((0 : Int32), M22)
 else
 (ldr 6 (M22.2.2 t 1)).bind fun vr23 =>
 (fX6_isNumber vr23 (0 : Int32) (999 : Int32) M22).bind fun v24 =>
 if v24 = 0 then
 (ldr 6 (M22.2.2 t 1)).bind fun vr51 =>
 (ldr 6 (M22.2.2 t 1)).bind fun vr52 =>
 (fX6_numberFault vr52 M22).bind fun v53 =>
 bd (fX6_refuseToken vr51 v53 M22) fun v54 M55 =>
 if v54 = 0 ∨ v54 = 1 then some (v54, M55) else none
 else
 (ldr 6 (M22.2.2 t 1)).bind fun vr25 =>
 (fX6_value vr25 M22).bind fun v26 =>
 ixk (3 : Int32) 4 (nm (stI M22 (t + 1) (3 : Int32).toNatClampNeg v26) (fun M27 =>
 ixk (0 : Int32) 4 (
 ixk (2 : Int32) 4 (
 jn ((ldr 6 (M27.2.2 t 1)).bind fun vr29 =>
 bd (fX6_goOn vr29 M27) fun vu30 M31 =>
 (ldr 6 (M31.2.2 t 1)).bind fun vr32 =>
 bd (fX6_passWord vr32 (12 : Int32) M31) fun v33 M34 =>
 if v33 = 0 then
 some ((0 : Int32), M34)
 else
 (ldr 6 (M34.2.2 t 1)).bind fun vr35 =>
 (fX6_value vr35 M34).bind fun v36 =>
 (ldr 6 (M34.2.2 t 1)).bind fun vr37 =>
 bd (fX6_passNumber vr37 (0 : Int32) (999 : Int32) M34) fun v38 M39 =>
 if v38 = 0 then
 some ((0 : Int32), M39)
 else
 (ldr 2 (M39.2.2 t 2)).bind fun vr40 =>
 bd (fX2_addFault 4 vr40 vz7 (t + 1) v36 M39) fun vu41 M42 =>
 (ldr 6 (M42.2.2 t 1)).bind fun vr43 =>
 bd (fX6_passSemicolon vr43 M42) fun v44 M45 =>
 if v44 = 0 ∨ v44 = 1 then some (v44, M45) else none) (fun J28 => if (M27.1 (t + 1) (0 : Int32).toNatClampNeg) = (M27.1 (t + 1) (2 : Int32).toNatClampNeg) then
 ixk (1 : Int32) 4 (
 ixk (3 : Int32) 4 (
 if (M27.1 (t + 1) (1 : Int32).toNatClampNeg) = (M27.1 (t + 1) (3 : Int32).toNatClampNeg) then
 (ldr 6 (M27.2.2 t 1)).bind fun vr47 =>
 bd (fX6_refuseToken vr47 (5 : Int32) M27) fun v48 M49 =>
 if v48 = 0 ∨ v48 = 1 then some (v48, M49) else none
 else
 J28))
 else
 J28)))))
def kF6 (φ : Nat) (t : Nat) (vz7 : Int64) (M22 : Mem) : Option (Int32 × Mem) :=
 (ldr 6 (M22.2.2 t 1)).bind fun vr23 =>
 (fX6_isNumber vr23 (0 : Int32) (999 : Int32) M22).bind fun v24 =>
 if v24 = 0 then
 (ldr 6 (M22.2.2 t 1)).bind fun vr51 =>
 (ldr 6 (M22.2.2 t 1)).bind fun vr52 =>
 (fX6_numberFault vr52 M22).bind fun v53 =>
 bd (fX6_refuseToken vr51 v53 M22) fun v54 M55 =>
 if v54 = 0 ∨ v54 = 1 then some (v54, M55) else none
 else
 (ldr 6 (M22.2.2 t 1)).bind fun vr25 =>
 (fX6_value vr25 M22).bind fun v26 =>
 ixk (3 : Int32) 4 (nm (stI M22 (t + 1) (3 : Int32).toNatClampNeg v26) (fun M27 =>
 ixk (0 : Int32) 4 (
 ixk (2 : Int32) 4 (
 jn ((ldr 6 (M27.2.2 t 1)).bind fun vr29 =>
 bd (fX6_goOn vr29 M27) fun vu30 M31 =>
 (ldr 6 (M31.2.2 t 1)).bind fun vr32 =>
 bd (fX6_passWord vr32 (12 : Int32) M31) fun v33 M34 =>
 if v33 = 0 then
 some ((0 : Int32), M34)
 else
 (ldr 6 (M34.2.2 t 1)).bind fun vr35 =>
 (fX6_value vr35 M34).bind fun v36 =>
 (ldr 6 (M34.2.2 t 1)).bind fun vr37 =>
 bd (fX6_passNumber vr37 (0 : Int32) (999 : Int32) M34) fun v38 M39 =>
 if v38 = 0 then
 some ((0 : Int32), M39)
 else
 (ldr 2 (M39.2.2 t 2)).bind fun vr40 =>
 bd (fX2_addFault 4 vr40 vz7 (t + 1) v36 M39) fun vu41 M42 =>
 (ldr 6 (M42.2.2 t 1)).bind fun vr43 =>
 bd (fX6_passSemicolon vr43 M42) fun v44 M45 =>
 if v44 = 0 ∨ v44 = 1 then some (v44, M45) else none) (fun J28 => if (M27.1 (t + 1) (0 : Int32).toNatClampNeg) = (M27.1 (t + 1) (2 : Int32).toNatClampNeg) then
 ixk (1 : Int32) 4 (
 ixk (3 : Int32) 4 (
 if (M27.1 (t + 1) (1 : Int32).toNatClampNeg) = (M27.1 (t + 1) (3 : Int32).toNatClampNeg) then
 (ldr 6 (M27.2.2 t 1)).bind fun vr47 =>
 bd (fX6_refuseToken vr47 (5 : Int32) M27) fun v48 M49 =>
 if v48 = 0 ∨ v48 = 1 then some (v48, M49) else none
 else
 J28))
 else
 J28)))))
def kF7 (φ : Nat) (t : Nat) (vz7 : Int64) (M27 : Mem) : Option (Int32 × Mem) :=
 (ldr 6 (M27.2.2 t 1)).bind fun vr29 =>
 bd (fX6_goOn vr29 M27) fun vu30 M31 =>
 (ldr 6 (M31.2.2 t 1)).bind fun vr32 =>
 bd (fX6_passWord vr32 (12 : Int32) M31) fun v33 M34 =>
 if v33 = 0 then
 some ((0 : Int32), M34)
 else
 (ldr 6 (M34.2.2 t 1)).bind fun vr35 =>
 (fX6_value vr35 M34).bind fun v36 =>
 (ldr 6 (M34.2.2 t 1)).bind fun vr37 =>
 bd (fX6_passNumber vr37 (0 : Int32) (999 : Int32) M34) fun v38 M39 =>
 if v38 = 0 then
 some ((0 : Int32), M39)
 else
 (ldr 2 (M39.2.2 t 2)).bind fun vr40 =>
 bd (fX2_addFault 4 vr40 vz7 (t + 1) v36 M39) fun vu41 M42 =>
 (ldr 6 (M42.2.2 t 1)).bind fun vr43 =>
 bd (fX6_passSemicolon vr43 M42) fun v44 M45 =>
 if v44 = 0 ∨ v44 = 1 then some (v44, M45) else none
def kG1 (φ : Nat) (t : Nat) (v1 : Int32) (M3 : Mem) : Option (Int32 × Mem) :=
 bd (fX11_wantWord φ t 1002 (10 : Int32) M3) fun v4 M5 =>
 if v4 = 0 then
 some ((0 : Int32), M5)
 else
 bd (fX11_number φ t v1 (0 : Int32) (999 : Int32) M5) fun v6 M7 =>
 if v6 = 0 then
 some ((0 : Int32), M7)
 else
 bd (fX11_number φ t (v1 + (1 : Int32)) (0 : Int32) (999 : Int32) M7) fun v8 M9 =>
 if v8 = 0 then
 some ((0 : Int32), M9)
 else
 bd (fX11_wantWord φ t 1002 (11 : Int32) M9) fun v10 M11 =>
 if v10 = 0 then
 some ((0 : Int32), M11)
 else
 bd (fX11_number φ t (v1 + (2 : Int32)) (0 : Int32) (999 : Int32) M11) fun v12 M13 =>
 if v12 = 0 then
 some ((0 : Int32), M13)
 else
 jn (bd (fX11_number φ t (v1 + (3 : Int32)) (0 : Int32) (999 : Int32) M13) fun v15 M16 =>
 if v15 = 0 then
 some ((0 : Int32), M16)
 else
 bd (fX11_wantWord φ t 1002 (12 : Int32) M16) fun v17 M18 =>
 if v17 = 0 then
 some ((0 : Int32), M18)
 else
 bd (fX11_number φ t (v1 + (4 : Int32)) (0 : Int32) (999 : Int32) M18) fun v19 M20 =>
 if v19 = 0 then
 some ((0 : Int32), M20)
 else
 ixk (2603 : Int32) 3900 (
 ixk (2603 : Int32) 3900 (nm (stI M20 (t + 1) (2603 : Int32).toNatClampNeg ((M20.1 (t + 1) (2603 : Int32).toNatClampNeg) + (1 : Int32))) (fun M21 =>
 some ((1 : Int32), M21))))) (fun J14 => if (M13.1 t 12) = (3 : Int32) then
 if (999 : Int32) < (M13.1 t 15) then
 J14
 else
 ixk v1 3900 (
 ixk (v1 + (2 : Int32)) 3900 (
 if (M13.1 (t + 1) v1.toNatClampNeg) = (M13.1 (t + 1) (v1 + (2 : Int32)).toNatClampNeg) then
 ixk (v1 + (1 : Int32)) 3900 (
 if (M13.1 (t + 1) (v1 + (1 : Int32)).toNatClampNeg) = (M13.1 t 15) then
 bd (fX11_fails t (5 : Int32) M13) fun v22 M23 =>
 if v22 = 0 ∨ v22 = 1 then some (v22, M23) else none
 else
 J14)
 else
 J14))
 else
 J14)
def kG2 (φ : Nat) (t : Nat) (v1 : Int32) (M5 : Mem) : Option (Int32 × Mem) :=
 bd (fX11_number φ t v1 (0 : Int32) (999 : Int32) M5) fun v6 M7 =>
 if v6 = 0 then
 some ((0 : Int32), M7)
 else
 bd (fX11_number φ t (v1 + (1 : Int32)) (0 : Int32) (999 : Int32) M7) fun v8 M9 =>
 if v8 = 0 then
 some ((0 : Int32), M9)
 else
 bd (fX11_wantWord φ t 1002 (11 : Int32) M9) fun v10 M11 =>
 if v10 = 0 then
 some ((0 : Int32), M11)
 else
 bd (fX11_number φ t (v1 + (2 : Int32)) (0 : Int32) (999 : Int32) M11) fun v12 M13 =>
 if v12 = 0 then
 some ((0 : Int32), M13)
 else
 jn (bd (fX11_number φ t (v1 + (3 : Int32)) (0 : Int32) (999 : Int32) M13) fun v15 M16 =>
 if v15 = 0 then
 some ((0 : Int32), M16)
 else
 bd (fX11_wantWord φ t 1002 (12 : Int32) M16) fun v17 M18 =>
 if v17 = 0 then
 some ((0 : Int32), M18)
 else
 bd (fX11_number φ t (v1 + (4 : Int32)) (0 : Int32) (999 : Int32) M18) fun v19 M20 =>
 if v19 = 0 then
 some ((0 : Int32), M20)
 else
 ixk (2603 : Int32) 3900 (
 ixk (2603 : Int32) 3900 (nm (stI M20 (t + 1) (2603 : Int32).toNatClampNeg ((M20.1 (t + 1) (2603 : Int32).toNatClampNeg) + (1 : Int32))) (fun M21 =>
 some ((1 : Int32), M21))))) (fun J14 => if (M13.1 t 12) = (3 : Int32) then
 if (999 : Int32) < (M13.1 t 15) then
 J14
 else
 ixk v1 3900 (
 ixk (v1 + (2 : Int32)) 3900 (
 if (M13.1 (t + 1) v1.toNatClampNeg) = (M13.1 (t + 1) (v1 + (2 : Int32)).toNatClampNeg) then
 ixk (v1 + (1 : Int32)) 3900 (
 if (M13.1 (t + 1) (v1 + (1 : Int32)).toNatClampNeg) = (M13.1 t 15) then
 bd (fX11_fails t (5 : Int32) M13) fun v22 M23 =>
 if v22 = 0 ∨ v22 = 1 then some (v22, M23) else none
 else
 J14)
 else
 J14))
 else
 J14)
def kG3 (φ : Nat) (t : Nat) (v1 : Int32) (M7 : Mem) : Option (Int32 × Mem) :=
 bd (fX11_number φ t (v1 + (1 : Int32)) (0 : Int32) (999 : Int32) M7) fun v8 M9 =>
 if v8 = 0 then
 some ((0 : Int32), M9)
 else
 bd (fX11_wantWord φ t 1002 (11 : Int32) M9) fun v10 M11 =>
 if v10 = 0 then
 some ((0 : Int32), M11)
 else
 bd (fX11_number φ t (v1 + (2 : Int32)) (0 : Int32) (999 : Int32) M11) fun v12 M13 =>
 if v12 = 0 then
 some ((0 : Int32), M13)
 else
 jn (bd (fX11_number φ t (v1 + (3 : Int32)) (0 : Int32) (999 : Int32) M13) fun v15 M16 =>
 if v15 = 0 then
 some ((0 : Int32), M16)
 else
 bd (fX11_wantWord φ t 1002 (12 : Int32) M16) fun v17 M18 =>
 if v17 = 0 then
 some ((0 : Int32), M18)
 else
 bd (fX11_number φ t (v1 + (4 : Int32)) (0 : Int32) (999 : Int32) M18) fun v19 M20 =>
 if v19 = 0 then
 some ((0 : Int32), M20)
 else
 ixk (2603 : Int32) 3900 (
 ixk (2603 : Int32) 3900 (nm (stI M20 (t + 1) (2603 : Int32).toNatClampNeg ((M20.1 (t + 1) (2603 : Int32).toNatClampNeg) + (1 : Int32))) (fun M21 =>
 some ((1 : Int32), M21))))) (fun J14 => if (M13.1 t 12) = (3 : Int32) then
 if (999 : Int32) < (M13.1 t 15) then
 J14
 else
 ixk v1 3900 (
 ixk (v1 + (2 : Int32)) 3900 (
 if (M13.1 (t + 1) v1.toNatClampNeg) = (M13.1 (t + 1) (v1 + (2 : Int32)).toNatClampNeg) then
 ixk (v1 + (1 : Int32)) 3900 (
 if (M13.1 (t + 1) (v1 + (1 : Int32)).toNatClampNeg) = (M13.1 t 15) then
 bd (fX11_fails t (5 : Int32) M13) fun v22 M23 =>
 if v22 = 0 ∨ v22 = 1 then some (v22, M23) else none
 else
 J14)
 else
 J14))
 else
 J14)
def kG4 (φ : Nat) (t : Nat) (v1 : Int32) (M9 : Mem) : Option (Int32 × Mem) :=
 bd (fX11_wantWord φ t 1002 (11 : Int32) M9) fun v10 M11 =>
 if v10 = 0 then
 some ((0 : Int32), M11)
 else
 bd (fX11_number φ t (v1 + (2 : Int32)) (0 : Int32) (999 : Int32) M11) fun v12 M13 =>
 if v12 = 0 then
 some ((0 : Int32), M13)
 else
 jn (bd (fX11_number φ t (v1 + (3 : Int32)) (0 : Int32) (999 : Int32) M13) fun v15 M16 =>
 if v15 = 0 then
 some ((0 : Int32), M16)
 else
 bd (fX11_wantWord φ t 1002 (12 : Int32) M16) fun v17 M18 =>
 if v17 = 0 then
 some ((0 : Int32), M18)
 else
 bd (fX11_number φ t (v1 + (4 : Int32)) (0 : Int32) (999 : Int32) M18) fun v19 M20 =>
 if v19 = 0 then
 some ((0 : Int32), M20)
 else
 ixk (2603 : Int32) 3900 (
 ixk (2603 : Int32) 3900 (nm (stI M20 (t + 1) (2603 : Int32).toNatClampNeg ((M20.1 (t + 1) (2603 : Int32).toNatClampNeg) + (1 : Int32))) (fun M21 =>
 some ((1 : Int32), M21))))) (fun J14 => if (M13.1 t 12) = (3 : Int32) then
 if (999 : Int32) < (M13.1 t 15) then
 J14
 else
 ixk v1 3900 (
 ixk (v1 + (2 : Int32)) 3900 (
 if (M13.1 (t + 1) v1.toNatClampNeg) = (M13.1 (t + 1) (v1 + (2 : Int32)).toNatClampNeg) then
 ixk (v1 + (1 : Int32)) 3900 (
 if (M13.1 (t + 1) (v1 + (1 : Int32)).toNatClampNeg) = (M13.1 t 15) then
 bd (fX11_fails t (5 : Int32) M13) fun v22 M23 =>
 if v22 = 0 ∨ v22 = 1 then some (v22, M23) else none
 else
 J14)
 else
 J14))
 else
 J14)
def kG5 (φ : Nat) (t : Nat) (v1 : Int32) (M11 : Mem) : Option (Int32 × Mem) :=
 bd (fX11_number φ t (v1 + (2 : Int32)) (0 : Int32) (999 : Int32) M11) fun v12 M13 =>
 if v12 = 0 then
 some ((0 : Int32), M13)
 else
 jn (bd (fX11_number φ t (v1 + (3 : Int32)) (0 : Int32) (999 : Int32) M13) fun v15 M16 =>
 if v15 = 0 then
 some ((0 : Int32), M16)
 else
 bd (fX11_wantWord φ t 1002 (12 : Int32) M16) fun v17 M18 =>
 if v17 = 0 then
 some ((0 : Int32), M18)
 else
 bd (fX11_number φ t (v1 + (4 : Int32)) (0 : Int32) (999 : Int32) M18) fun v19 M20 =>
 if v19 = 0 then
 some ((0 : Int32), M20)
 else
 ixk (2603 : Int32) 3900 (
 ixk (2603 : Int32) 3900 (nm (stI M20 (t + 1) (2603 : Int32).toNatClampNeg ((M20.1 (t + 1) (2603 : Int32).toNatClampNeg) + (1 : Int32))) (fun M21 =>
 some ((1 : Int32), M21))))) (fun J14 => if (M13.1 t 12) = (3 : Int32) then
 if (999 : Int32) < (M13.1 t 15) then
 J14
 else
 ixk v1 3900 (
 ixk (v1 + (2 : Int32)) 3900 (
 if (M13.1 (t + 1) v1.toNatClampNeg) = (M13.1 (t + 1) (v1 + (2 : Int32)).toNatClampNeg) then
 ixk (v1 + (1 : Int32)) 3900 (
 if (M13.1 (t + 1) (v1 + (1 : Int32)).toNatClampNeg) = (M13.1 t 15) then
 bd (fX11_fails t (5 : Int32) M13) fun v22 M23 =>
 if v22 = 0 ∨ v22 = 1 then some (v22, M23) else none
 else
 J14)
 else
 J14))
 else
 J14)
def kG6 (φ : Nat) (t : Nat) (v1 : Int32) (M13 : Mem) : Option (Int32 × Mem) :=
 jn (bd (fX11_number φ t (v1 + (3 : Int32)) (0 : Int32) (999 : Int32) M13) fun v15 M16 =>
 if v15 = 0 then
 some ((0 : Int32), M16)
 else
 bd (fX11_wantWord φ t 1002 (12 : Int32) M16) fun v17 M18 =>
 if v17 = 0 then
 some ((0 : Int32), M18)
 else
 bd (fX11_number φ t (v1 + (4 : Int32)) (0 : Int32) (999 : Int32) M18) fun v19 M20 =>
 if v19 = 0 then
 some ((0 : Int32), M20)
 else
 ixk (2603 : Int32) 3900 (
 ixk (2603 : Int32) 3900 (nm (stI M20 (t + 1) (2603 : Int32).toNatClampNeg ((M20.1 (t + 1) (2603 : Int32).toNatClampNeg) + (1 : Int32))) (fun M21 =>
 some ((1 : Int32), M21))))) (fun J14 => if (M13.1 t 12) = (3 : Int32) then
 if (999 : Int32) < (M13.1 t 15) then
 J14
 else
 ixk v1 3900 (
 ixk (v1 + (2 : Int32)) 3900 (
 if (M13.1 (t + 1) v1.toNatClampNeg) = (M13.1 (t + 1) (v1 + (2 : Int32)).toNatClampNeg) then
 ixk (v1 + (1 : Int32)) 3900 (
 if (M13.1 (t + 1) (v1 + (1 : Int32)).toNatClampNeg) = (M13.1 t 15) then
 bd (fX11_fails t (5 : Int32) M13) fun v22 M23 =>
 if v22 = 0 ∨ v22 = 1 then some (v22, M23) else none
 else
 J14)
 else
 J14))
 else
 J14)
def kG7 (φ m : Nat) (f : Int) (M13 : Mem) : Option (Int32 × Mem) := bd (fX11_number φ m (iI (f + 3)) (iI 0) (iI 999) M13) fun v15 M16 => if v15 = iI 0 then some (iI 0, M16) else bd (fX11_wantWord φ m 1002 (iI 12) M16) fun v17 M18 => if v17 = iI 0 then some (iI 0, M18) else bd (fX11_number φ m (iI (f + 4)) (iI 0) (iI 999) M18) fun v19 M20 => if v19 = iI 0 then some (iI 0, M20) else some (iI 1, stI M20 (m + 1) (Int.toNat 2603) ((M20.1 (m + 1) (Int.toNat 2603)) + iI 1))
def u_flt (F : Fld) (v : Int → Int) : Fld := fun k x y => if k = 0 ∧ x = 3 ∧ y = 0 then F 0 3 0 + 1 else if k = 7 ∧ x = F 0 3 0 ∧ 0 ≤ y ∧ y < 5 then v y else F k x y
section FT
variable {t m ft gs g : Nat} {F F' : Fld} {nm nm' : NMs} {M : Mem} {B : Int → Int} {n p s x y h r q a b c : Int} {v : Int → Int}
theorem uf_03 (F : Fld) (v : Int → Int) : u_flt F v 0 3 0 = F 0 3 0 + 1 := if_pos ⟨rfl, rfl, rfl⟩
theorem uf_0 (F : Fld) (v : Int → Int) {w : Int} (h : w ≠ 3) : u_flt F v 0 w 0 = F 0 w 0 := by
  unfold u_flt
  rw [if_neg (fun q => h q.2.1), if_neg (fun q => by cases q.1)]
theorem uf_k (F : Fld) (v : Int → Int) {k : Nat} (h0 : k ≠ 0) (h7 : k ≠ 7) : u_flt F v k = F k := by
  funext x y
  unfold u_flt
  rw [if_neg (fun q => h0 q.1), if_neg (fun q => h7 q.1)]
theorem uf_7 (F : Fld) (v : Int → Int) {x : Int} (y : Int) (h : x ≠ F 0 3 0) : u_flt F v 7 x y = F 7 x y := by
  unfold u_flt
  rw [if_neg (fun q => by cases q.1), if_neg (fun q => h q.2.1)]
theorem uf_v (F : Fld) (v : Int → Int) {y : Int} (h : 0 ≤ y ∧ y < 5) : u_flt F v 7 (F 0 3 0) y = v y := by
  unfold u_flt
  rw [if_neg (fun q => by cases q.1), if_pos ⟨rfl, rfl, h⟩]
theorem DW.flt (d : DW F nm) (hK : F 0 3 0 < 2) (hv : ∀ y, 0 ≤ y → y < 5 → 0 ≤ v y ∧ v y ≤ 999) (hc : okN c) : DW (u_flt F v) (u_nm nm 2 (F 0 3 0) c) := by
  obtain ⟨w, ⟨a1, a2, a3⟩, dg⟩ := d
  obtain ⟨⟨n0, n1, n2, n3⟩, sk, cp, hl, ly, co, tn, fl⟩ := w
  have hst : ∀ t, s_turn (u_flt F v) t = s_turn F t := fun t => by
    unfold s_turn s_turn3
    rw [uf_k F v (k := 3) (by omega) (by omega), uf_k F v (k := 6) (by omega) (by omega)]
  refine ⟨?_, ⟨fun r x0 x1 => ?_, fun r x0 x1 => ?_, fun r x0 x1 => ?_⟩, fun z z0 z1 => by rw [uf_k F v (k := 2) (by omega) (by omega)]; exact dg z z0 z1⟩
  · unfold WF
    rw [uf_03, uf_0 F v (w := 0) (by omega), uf_0 F v (w := 1) (by omega), uf_0 F v (w := 2) (by omega), uf_k F v (k := 1) (by omega) (by omega), uf_k F v (k := 2) (by omega) (by omega), uf_k F v (k := 3) (by omega) (by omega), uf_k F v (k := 4) (by omega) (by omega), uf_k F v (k := 5) (by omega) (by omega), uf_k F v (k := 6) (by omega) (by omega)]
    refine ⟨⟨n0, n1, n2, by omega⟩, sk, cp, hl, ly, co, fun t a b => by rw [hst]; exact tn t a b, fun f k f0 f1 k0 k1 => ?_⟩
    by_cases q : f = F 0 3 0
    · rw [q, uf_v F v ⟨k0, k1⟩]; exact hv k k0 k1
    · rw [uf_7 F v k q]; exact fl f k f0 (by omega) k0 k1
  · rw [uf_0 F v (by omega)] at x1
    rw [nm_o nm (Or.inr (by omega))]; exact a1 r x0 x1
  · rw [uf_0 F v (by omega)] at x1
    rw [nm_o nm (Or.inr (by omega))]; exact a2 r x0 x1
  · rw [uf_03] at x1
    by_cases q : r = F 0 3 0
    · rw [q, nm_t]; exact hc
    · rw [nm_o nm (Or.inl q)]; exact a3 r x0 (by omega)
theorem c_addFault {u : Nat} (d : DW F nm) (hK : F 0 3 0 < 2) (G : GR g F M) (hn : NCn g F nm M) (hu : u < g ∨ g + 13 < u) (hP : ∀ y : Int, 0 ≤ y → y < 4 → M.1 u y.toNat = iI (v y)) : ∃ M1, fX2_addFault 4 g (lI c) u (iI (v 4)) M = some ((), M1) ∧ GR g (u_flt F v) M1 ∧ NCn g (u_flt F v) (u_nm nm 2 (F 0 3 0) c) M1 ∧ M1.2.2 = M.2.2 ∧ Fr (Rg g (g + 13)) M M1 := by
  have n3 := d.1.n3
  have g3 := G.n3
  obtain ⟨M5, hM5⟩ : ∃ M5, M5 = stI (stI (cpI (stL M (g + 11) (F 0 3 0).toNat (lI c)) u (g + 12) 0 (F 0 3 0 * 4).toNat 4) (g + 13) (F 0 3 0).toNat (iI (v 4))) g 13 (iI (F 0 3 0 + 1)) := ⟨_, rfl⟩
  have ot : ∀ z, z ≠ g → z ≠ g + 12 → z ≠ g + 13 → M5.1 z = M.1 z := fun z z0 z1 z2 => by
    funext j
    rw [hM5, rI_ng z0, rI_ng z2, ci_ng z1, rL_1]
  have og : ∀ j, j ≠ 13 → M5.1 g j = M.1 g j := fun j hj => by
    rw [hM5, rI_nk hj, rI_ng (by omega), ci_ng (by omega), rL_1]
  have oc : M5.1 g 13 = iI (F 0 3 0 + 1) := by rw [hM5]; exact rI_at rfl rfl
  have on : ∀ z j, M5.2.1 z j = (stL M (g + 11) (F 0 3 0).toNat (lI c)).2.1 z j := fun z j => by
    rw [hM5, rI_2, rI_2, ci_2]
  refine ⟨M5, ?_, ?_, ⟨fun r a b => ?_, fun r a b => ?_, fun r a b => ?_⟩, by rw [hM5]; rfl, ?_⟩
  · have e1 : (stL M (g + 11) (F 0 3 0).toNat (lI c)).1 g 13 = iI (F 0 3 0) := g3
    have e2 : (cpI (stL M (g + 11) (F 0 3 0).toNat (lI c)) u (g + 12) (Int.toNat 0) (F 0 3 0 * 4).toNat (Int.toNat 4)).1 g 13 = iI (F 0 3 0) := by rw [ci_ng (by omega)]; exact e1
    have e3 : (stI (cpI (stL M (g + 11) (F 0 3 0).toNat (lI c)) u (g + 12) (Int.toNat 0) (F 0 3 0 * 4).toNat (Int.toNat 4)) (g + 13) (F 0 3 0).toNat (iI (v 4))).1 g 13 = iI (F 0 3 0) := by rw [rI_ng (by omega)]; exact e2
    unfold fX2_addFault
    simp (disch := omega) only [iI_add, iI_sub, iI_mul, iI_neg, iI_nat, addm1, ixkI, ↓sbind, sbind, ↓bdS, bdS, ↓nm_eq, ↓jn_eq, iI_lt, iI_le, iI_eq, k_0, k_1, k_2, k_3, k_4, k_5, k_6, k_7, k_8, k_9, k_10, k_11, k_12, k_13, k_14, k_15, k_16, k_17, k_18, k_19, k_20, k_21, k_22, k_23, k_24, k_27, k_30, k_32, k_48, k_57, k_59, k_60, k_61, k_62, k_63, k_64, k_72, k_78, k_80, k_82, k_97, k_99, k_100, k_122, k_244, k_255, k_268, k_280, k_300, k_432, k_650, k_900, k_901, k_999, k_1700, k_2600, k_2601, k_2602, k_2603, k_2604, k_2610, k_2618, k_2682, k_2777, k_2844, k_2868, k_2880, k_3245, k_3250, k_9551, k_9999, k_65536, k_100000, k_999999, k_1000000, k_2147483647, lt_T, lt_F, le_T, le_F, eq_T, eq_F, ↓reduceIte, not_true_eq_false, not_false_eq_true, or_true, or_false, true_or, false_or, and_true, true_and, and_false, false_and, cpk_in, g3, e1, e2, e3]
    rw [hM5]
    rfl
  · obtain ⟨⟨h0, h1, h2, h3⟩, sk, cp, hl, ly, co, fl, ft⟩ := G
    unfold GR
    rw [uf_03, uf_0 F v (w := 0) (by omega), uf_0 F v (w := 1) (by omega), uf_0 F v (w := 2) (by omega), uf_k F v (k := 1) (by omega) (by omega), uf_k F v (k := 2) (by omega) (by omega), uf_k F v (k := 3) (by omega) (by omega), uf_k F v (k := 4) (by omega) (by omega), uf_k F v (k := 5) (by omega) (by omega), uf_k F v (k := 6) (by omega) (by omega), ot (g + 2) (by omega) (by omega) (by omega), ot (g + 3) (by omega) (by omega) (by omega), ot (g + 5) (by omega) (by omega) (by omega), ot (g + 6) (by omega) (by omega) (by omega), ot (g + 7) (by omega) (by omega) (by omega), ot (g + 8) (by omega) (by omega) (by omega), ot (g + 9) (by omega) (by omega) (by omega), ot (g + 10) (by omega) (by omega) (by omega), oc, og 0 (by omega), og 4 (by omega), og 11 (by omega)]
    refine ⟨⟨h0, h1, h2, rfl⟩, sk, cp, hl, ly, co, fun f k f0 f1 k0 k1 => ?_, fun f f0 f1 => ?_⟩
    · rw [hM5, rI_ng (by omega), rI_ng (by omega)]
      by_cases q : f = F 0 3 0
      · rw [ci_at rfl (by omega), rL_1, q, uf_v F v (by omega), ← hP k k0 k1, show 0 + ((F 0 3 0 * 4 + k).toNat - (F 0 3 0 * 4).toNat) = k.toNat from by omega]
      · rw [ci_nb (by omega), rL_1, uf_7 F v k q]; exact fl f k f0 (by omega) k0 k1
    · rw [hM5, rI_ng (by omega)]
      by_cases q : f = F 0 3 0
      · rw [rI_at rfl (by omega), q, uf_v F v (by omega)]
      · rw [rI_nk (by omega), ci_ng (by omega), rL_1, uf_7 F v 4 q]; exact ft f f0 (by omega)
  · rw [uf_0 F v (by omega)] at b
    rw [on, rL_ng (by omega), nm_o nm (Or.inr (by omega))]; exact hn.1 r a b
  · rw [uf_0 F v (by omega)] at b
    rw [on, rL_ng (by omega), nm_o nm (Or.inr (by omega))]; exact hn.2.1 r a b
  · rw [uf_03] at b
    rw [on]
    by_cases q : r = F 0 3 0
    · rw [rL_at rfl (by omega), q, nm_t]
    · rw [rL_nk (by omega), nm_o nm (Or.inl q)]; exact hn.2.2 r a (by omega)
  · rw [hM5]
    exact Fr.stI ⟨by omega, by omega⟩ (Fr.stI ⟨by omega, by omega⟩ (Fr.cpI ⟨by omega, by omega⟩ (Fr.stL ⟨by omega, by omega⟩ (Fr.refl M))))
theorem MR.flt {M1 : Mem} (w : WF F) (hK : F 0 3 0 < 2) (G : MR m 2600 F M) (h0 : M1.1 (m + 1) (Int.toNat 2603) = iI (F 0 3 0 + 1)) (h1 : ∀ y, 0 ≤ y → y < 5 → M1.1 (m + 1) (2868 + 5 * F 0 3 0 + y).toNat = iI (v y)) (h4 : ∀ e : Int, 0 ≤ e → e ≠ 2603 → e < 2868 + 5 * F 0 3 0 ∨ 2868 + 5 * F 0 3 0 + 5 ≤ e → M1.1 (m + 1) e.toNat = M.1 (m + 1) e.toNat) : MR m 2600 (u_flt F v) M1 := by
  have n3 := w.n3
  obtain ⟨g0, g1, g2, g3, g4, g5, g6⟩ := G
  have kk := fun (k : Nat) (x : k ≠ 0) (y : k ≠ 7) => uf_k F v x y
  refine ⟨fun w x y => ?_, fun k x y => ?_, fun x y a0 a1 b0 b1 => ?_, fun x w a0 a1 w0 w1 => ?_, fun x l a0 a1 l0 l1 => ⟨?_, ?_⟩, fun t k t0 t1 k0 k1 => ?_, fun f k a0 a1 b0 b1 => ?_⟩
  · by_cases q : w = 3
    · rw [q, uf_03]; exact h0
    · rw [uf_0 F v q, h4 _ (by omega) (by omega) (by omega)]; exact g0 w x y
  · rw [kk 1 (by omega) (by omega), h4 _ (by omega) (by omega) (by omega)]; exact g1 k x y
  · rw [kk 2 (by omega) (by omega), h4 _ (by omega) (by omega) (by omega)]; exact g2 x y a0 a1 b0 b1
  · rw [kk 3 (by omega) (by omega), h4 _ (by omega) (by omega) (by omega)]; exact g3 x w a0 a1 w0 w1
  · rw [kk 4 (by omega) (by omega), h4 _ (by omega) (by omega) (by omega)]; exact (g4 x l a0 a1 l0 l1).1
  · rw [kk 5 (by omega) (by omega), h4 _ (by omega) (by omega) (by omega)]; exact (g4 x l a0 a1 l0 l1).2
  · rw [kk 6 (by omega) (by omega), h4 _ (by omega) (by omega) (by omega)]; exact g5 t k t0 t1 k0 k1
  · by_cases q : f = F 0 3 0
    · rw [q, uf_v F v ⟨b0, b1⟩, show (2600 : Int) + (268 + 5 * F 0 3 0 + k) = 2868 + 5 * F 0 3 0 + k from by omega]; exact h1 k b0 b1
    · rw [uf_7 F v k q, h4 _ (by omega) (by omega) (by omega)]; exact g6 f k a0 a1 b0 b1
theorem mf_fail {fk fp : Int} {φ : Nat} (w : WF F) (S : MSt m B n p F nm M) (h : MFail m fk fp M (fX11_newOne φ m (iI 3) (iI 2) (iI 14) M)) : MFail m fk fp M (fX11_aFault φ m M) := by
  have n3 := w.n3
  obtain ⟨M1, h1, h2⟩ := h
  refine ⟨M1, ?_, h2⟩
  have s0 : M.1 (m + 1) (Int.toNat 2603) = iI (F 0 3 0) := S.cnt (w := 3) (by omega)
  have h1' : fX11_newOne φ m (3 : Int32) (2 : Int32) (14 : Int32) M = some (iI 0, M1) := h1
  have z1 : (2603 : Int32) = iI 2603 := rfl
  unfold fX11_aFault
  rw [z1, ixkI (by omega), iI_nat (by omega), s0, nm_eq, h1', bdP, if_pos i0e]
  rfl
theorem c_coord (e : ENV t ft gs) (w : WTk n (tok B n p)) (S : CSt t ft gs B n p F nm M) {k : Int} (hk : 0 ≤ k ∧ k < 4) : (isNu (tok B n p) 0 999 = true → ∃ M1, fX1_passCoordinate ft (iI k) M = some (iI 1, M1) ∧ CSt t ft gs B n (nx B n p) F nm M1 ∧ RCw t ft gs 13 M M1 ∧ M1.1 (ft + 1) = (stI M (ft + 1) k.toNat (iI (tok B n p).2.2.1)).1 (ft + 1)) ∧ (isNu (tok B n p) 0 999 = false → CFail t ft gs 13 (fkT (tok B n p) (if (tok B n p).1 = 2 then 4 else 2)) (tok B n p).2.1 M (fX1_passCoordinate ft (iI k) M)) := by
  obtain ⟨e1, e2, e3, e4⟩ := e
  obtain ⟨v, ev, ev2⟩ := c_value S.1
  have fr0 : Fr (fun z => z = ft + 1) M (stI M (ft + 1) k.toNat v) := Fr.stI rfl (Fr.refl M)
  have rw0 : RCw t ft gs 13 M (stI M (ft + 1) k.toNat v) := ⟨fun i _ _ _ => rI_ng (by omega), rfl, fr0.mono (fun z q => Or.inr (Or.inl ⟨by omega, by omega⟩))⟩
  have S1 : CSt t ft gs B n p F nm (stI M (ft + 1) k.toNat v) := ⟨S.1.fr fr0 (fun z hz q => by omega), S.2.1.fr fr0 (fun z a b q => by omega), S.2.2.1.fr fr0 (by omega) (by omega) (by omega), S.2.2.2.1, S.2.2.2.2⟩
  obtain ⟨c1, c2⟩ := c_passNum w S1.1 (a := 0) (b := 999) (by omega) (by omega)
  have l1 : (stI M (ft + 1) k.toNat v).2.2 ft 1 = some t := S.2.2.2.1
  refine ⟨fun q => ?_, fun q => ?_⟩
  · obtain ⟨M1, r1, r2, r3⟩ := c1 q
    have q2 := of_decide_eq_true (p := (tok B n p).1 = 2 ∧ 0 ≤ (tok B n p).2.2.1 ∧ (tok B n p).2.2.1 ≤ 999) q
    have ev2 := ev2 (by omega)
    refine ⟨M1, ?_, S1.go ⟨e1, e2, e3, e4⟩ r2 r3, rw0.trans r3.rw, by rw [(r3.2.2 (ft + 1) (by omega)).1, ev2]⟩
    unfold fX1_passCoordinate
    rw [S.2.2.2.1, ldr_ok e3, sbind, ev, sbind, ixkI (by omega), iI_nat (by omega), nm_eq, l1, ldr_ok e3, sbind, k_0, k_999, r1, bdP, if_pos (Or.inr (show iI 1 = (1 : Int32) from rfl))]
  · refine CFail.le rw0 (CFail.of _ ?_)
    unfold fX1_passCoordinate
    rw [S.2.2.2.1, ldr_ok e3, sbind, ev, sbind, ixkI (by omega), iI_nat (by omega), nm_eq, l1, ldr_ok e3, sbind, k_0, k_999, c2 q, bdP, if_pos (Or.inl rfl)]
theorem p_fault {φ : Nat} (hφ : 2000 < φ) (hB : HB B n) (hp : 0 ≤ p ∧ p ≤ n) (dw : DW F nm) (hk : wv (tok B n p) = 9) : Part (fX1_passFault φ) (fun m M => sem φ m (fX11_aFault φ m M)) B n p F nm := by
  have n3 := dw.1.n3
  have n0 := dw.1.n0
  have n1 := dw.1.n1
  have b1 := nx_b hB hp
  have wk0 := hB.w hp
  have lt1 := b1.2.2 (wv_k hk (by omega))
  have b2 := nx_b hB b1.1
  have wk1 := hB.w b1.1
  have b3 := nx_b hB b2.1
  have wk2 := hB.w b2.1
  have b4 := nx_b hB b3.1
  have wk3 := hB.w b3.1
  have b5 := nx_b hB b4.1
  have wk4 := hB.w b4.1
  have b6 := nx_b hB b5.1
  have wk5 := hB.w b5.1
  have b7 := nx_b hB b6.1
  have wk6 := hB.w b6.1
  have b8 := nx_b hB b7.1
  have wk7 := hB.w b7.1
  have b9 := nx_b hB b8.1
  have wk8 := hB.w b8.1
  have b10 := nx_b hB b9.1
  have wk9 := hB.w b9.1
  obtain ⟨p1, hp1⟩ : ∃ p1, p1 = nx B n p := ⟨_, rfl⟩
  rw [← hp1] at b1 b2 b3 b4 b5 b6 b7 b8 b9 b10 wk1 wk2 wk3 wk4 wk5 wk6 wk7 wk8 wk9 lt1
  obtain ⟨p2, hp2⟩ : ∃ p2, p2 = nx B n p1 := ⟨_, rfl⟩
  rw [← hp2] at b2 b3 b4 b5 b6 b7 b8 b9 b10 wk2 wk3 wk4 wk5 wk6 wk7 wk8 wk9
  obtain ⟨p3, hp3⟩ : ∃ p3, p3 = nx B n p2 := ⟨_, rfl⟩
  rw [← hp3] at b3 b4 b5 b6 b7 b8 b9 b10 wk3 wk4 wk5 wk6 wk7 wk8 wk9
  obtain ⟨p4, hp4⟩ : ∃ p4, p4 = nx B n p3 := ⟨_, rfl⟩
  rw [← hp4] at b4 b5 b6 b7 b8 b9 b10 wk4 wk5 wk6 wk7 wk8 wk9
  obtain ⟨p5, hp5⟩ : ∃ p5, p5 = nx B n p4 := ⟨_, rfl⟩
  rw [← hp5] at b5 b6 b7 b8 b9 b10 wk5 wk6 wk7 wk8 wk9
  obtain ⟨p6, hp6⟩ : ∃ p6, p6 = nx B n p5 := ⟨_, rfl⟩
  rw [← hp6] at b6 b7 b8 b9 b10 wk6 wk7 wk8 wk9
  obtain ⟨p7, hp7⟩ : ∃ p7, p7 = nx B n p6 := ⟨_, rfl⟩
  rw [← hp7] at b7 b8 b9 b10 wk7 wk8 wk9
  obtain ⟨p8, hp8⟩ : ∃ p8, p8 = nx B n p7 := ⟨_, rfl⟩
  rw [← hp8] at b8 b9 b10 wk8 wk9
  obtain ⟨p9, hp9⟩ : ∃ p9, p9 = nx B n p8 := ⟨_, rfl⟩
  rw [← hp9] at b9 b10 wk9
  obtain ⟨p10, hp10⟩ : ∃ p10, p10 = nx B n p9 := ⟨_, rfl⟩
  rw [← hp10] at b10
  by_cases h8 : F 0 3 0 = 2
  · refine Part.no (fp := (tok B n p).2.1) (fkT_1 (tok B n p) (k := 6) (by omega)) (fun t ft gs M e S => ?_) (fun m M S => mf_fail dw.1 S ((m_new hφ hB hp dw S (w := 3) (most := 2) (b := 14) (by omega) n3).1 h8))
    have g0 := S.2.1.n3
    rw [h8] at g0
    refine CFail.of M ?_
    unfold fX1_passFault
    rw [S.2.2.2.2, ldr_ok e.2.2.2, sbind, g0, k_2, if_neg (by decide), S.2.2.2.1, ldr_ok e.2.2.1, sbind, k_6, c_refuse wk0 S.1, bdP, if_pos (Or.inl i0e)]
  have c6 : iI (F 0 3 0) < (2 : Int32) := by rw [k_2, iI_lt (by omega) (by omega)]; omega
  cases hw : nwN F nm (tok B n p1) with
  | false =>
    refine Part.no (fp := (tok B n p1).2.1) (fkT_1 (tok B n p1) (nf_1 (isNm (tok B n p1)))) (fun t ft gs M e S => ?_) (fun m M S => mf_fail dw.1 S (by
      have := (m_new hφ hB hp dw S (w := 3) (most := 2) (b := 14) (by omega) n3).2.1 h8
      rw [← hp1] at this
      exact this hw))
    obtain ⟨M1, r1, S1, A1⟩ := c_next e S
    rw [← hp1] at S1
    have e1 := c_newName hφ hB b1.1 e dw S1
    rw [hw, bI_f] at e1
    refine CFail.le A1.rw (CFail.of M1 ?_)
    unfold fX1_passFault
    rw [S.2.2.2.2, ldr_ok e.2.2.2, sbind, S.2.1.n3, if_pos c6, S.2.2.2.1, ldr_ok e.2.2.1, sbind, r1, bdP, e1, sbind, if_pos i0e, S1.2.2.2.1, ldr_ok e.2.2.1, sbind, sbind, c_nameFault wk1 S1.1, sbind, c_refuse wk1 S1.1, bdP, if_pos (Or.inl i0e)]
  | true =>
  have okc : okN (tok B n p1).2.2.2.2 := by
    have hm : isNm (tok B n p1) = true := by
      unfold nwN at hw
      cases hm : isNm (tok B n p1) with
      | true => rfl
      | false => rw [hm] at hw; cases hw
    exact (isNm_t wk1 hm).2.2
  obtain ⟨c, hc⟩ : ∃ c, c = (tok B n p1).2.2.2.2 := ⟨_, rfl⟩
  rw [← hc] at okc
  obtain ⟨f, hf⟩ : ∃ f, f = 2868 + 5 * F 0 3 0 := ⟨_, rfl⟩
  have c1 : ∀ t ft gs M, ENV t ft gs → CSt t ft gs B n p F nm M → ∃ M2, CSt t ft gs B n p2 F nm M2 ∧ RCw t ft gs 13 M M2 ∧ True ∧ fX1_passFault φ ft M = kF1 φ ft (lI c) M2 := fun t ft gs M e S => by
    obtain ⟨M1, r1, S1, A1⟩ := c_next e S
    rw [← hp1] at S1
    have e1 := c_newName hφ hB b1.1 e dw S1
    rw [hw, bI_t] at e1
    obtain ⟨M2, r2, S2, A2⟩ := c_next e S1
    rw [← hp2] at S2
    refine ⟨M2, S2, A1.rw.trans A2.rw, trivial, ?_⟩
    unfold fX1_passFault
    rw [S.2.2.2.2, ldr_ok e.2.2.2, sbind, S.2.1.n3, if_pos c6, S.2.2.2.1, ldr_ok e.2.2.1, sbind, r1, bdP, e1, sbind, if_neg i1n, S1.2.2.2.1, ldr_ok e.2.2.1, sbind, c_name S1.1, sbind, sbind, r2, bdP, ← hc]
    rfl
  have m1 : ∀ m M, MSt m B n p F nm M → ∃ M3, RKp m B n p2 M3 ∧ M3.1 m 18 = iI 0 ∧ (∀ e : Int, 0 ≤ e → M3.1 (m + 1) e.toNat = M.1 (m + 1) e.toNat) ∧ M3.2 = (stL M (m + 2) (78 + F 0 3 0).toNat (lI (w8 c))).2 ∧ RW m M M3 ∧ fX11_aFault φ m M = kG1 φ m (iI f) M3 := fun m M S => by
    have n3' := m_new hφ hB hp dw S (w := 3) (most := 2) (b := 14) (by omega) n3
    rw [← hp1] at n3'
    obtain ⟨M3, a1, a2, a3⟩ := n3'.2.2 h8 hw
    rw [← hp2] at a2
    rw [← hc, show (64 : Int) + 14 + F 0 3 0 = 78 + F 0 3 0 from by omega] at a3
    refine ⟨M3, a2, by rw [a3.1 18 (by omega) (by omega) (by omega) (by omega)]; exact S.2.2.2, fun e e0 => by rw [(a3.2.2 (m + 1) (by omega)).1, rL_1], a3.2.1, (RW.stN (by omega) M _).trans a3.rw, ?_⟩
    have s0 : M.1 (m + 1) (Int.toNat 2603) = iI (F 0 3 0) := S.cnt (w := 3) (by omega)
    have a1' : fX11_newOne φ m (3 : Int32) (2 : Int32) (14 : Int32) M = some (iI 1, M3) := a1
    have z1 : (2603 : Int32) = iI 2603 := rfl
    have z2 : (2868 : Int32) = iI 2868 := rfl
    unfold fX11_aFault
    rw [z1, ixkI (by omega), iI_nat (by omega), s0, z2, k_5, iI_mul, iI_add, nm_eq, a1', bdP, if_neg i1n, ← hf]
    rfl
  by_cases hwk2 : wv (tok B n p2) = 10
  rotate_left
  · refine Part.no (fp := (tok B n p2).2.1) (fkT_1 (tok B n p2) (k := 2) (by omega)) (fun t ft gs M e S => ?_) (fun m M S => ?_)
    · obtain ⟨M2, S2, A2, P2, e2⟩ := c1 t ft gs M e S
      have e3 := (c_passW wk2 S2.1 (k := 10) (by omega)).2 hwk2
      refine CFail.le A2 (CFail.of M2 ?_)
      rw [e2]
      unfold kF1
      rw [S2.2.2.2.1, ldr_ok e.2.2.1, sbind, k_10, e3, bdP, if_pos i0e]
      rfl
    · obtain ⟨M3, g1, g2, g3, g4, A3, e2⟩ := m1 m M S
      have e3 := (m_wWord hφ hB.1 hB.2 g1 g2 (k := 10) (j := 10) (by omega) (by decide +kernel)).2 hwk2
      refine MFail.le A3 (MFail.of M3 ?_)
      rw [e2]
      unfold kG1
      rw [k_10, e3, bdP, if_pos i0e]
      rfl
  have c2 : ∀ t ft gs M, ENV t ft gs → CSt t ft gs B n p F nm M → ∃ M2, CSt t ft gs B n p3 F nm M2 ∧ RCw t ft gs 13 M M2 ∧ (True) ∧ fX1_passFault φ ft M = kF2 φ ft (lI c) M2 := fun t ft gs M e S => by
    obtain ⟨M2, S2, A2, P2, e2⟩ := c1 t ft gs M e S
    obtain ⟨M4, q1, q2, q3⟩ := (c_passW wk2 S2.1 (k := 10) (by omega)).1 hwk2
    have S4 := S2.go e q2 q3
    rw [← hp3] at S4
    have t4 : M4.1 (ft + 1) = M2.1 (ft + 1) := (q3.2.2 (ft + 1) (by have := e.1; omega)).1
    refine ⟨M4, S4, A2.trans q3.rw, trivial, ?_⟩
    rw [e2]
    unfold kF1
    rw [S2.2.2.2.1, ldr_ok e.2.2.1, sbind, k_10, q1, bdP, if_neg i1n]
    rfl
  have m2 : ∀ m M, MSt m B n p F nm M → ∃ M3, RKp m B n p3 M3 ∧ M3.1 m 18 = iI 0 ∧ (∀ e : Int, 0 ≤ e → M3.1 (m + 1) e.toNat = M.1 (m + 1) e.toNat) ∧ M3.2 = (stL M (m + 2) (78 + F 0 3 0).toNat (lI (w8 c))).2 ∧ RW m M M3 ∧ fX11_aFault φ m M = kG2 φ m (iI f) M3 := fun m M S => by
    obtain ⟨M3, g1, g2, g3, g4, A3, e2⟩ := m1 m M S
    obtain ⟨M4, q1, q2, q3⟩ := (m_wWord hφ hB.1 hB.2 g1 g2 (k := 10) (j := 10) (by omega) (by decide +kernel)).1 hwk2
    rw [← hp3] at q2
    refine ⟨M4, q2, by rw [q3.1 18 (by omega) (by omega) (by omega) (by omega)]; exact g2, fun e e0 => by rw [(q3.2.2 (m + 1) (by omega)).1]; exact g3 e e0, by rw [q3.2.1]; exact g4, A3.trans q3.rw, ?_⟩
    rw [e2]
    unfold kG1
    rw [k_10, q1, bdP, if_neg i1n]
    rfl
  cases hn3 : isNu (tok B n p3) 0 999 with
  | false =>
    refine Part.no (fp := (tok B n p3).2.1) (fkT_1 (tok B n p3) (nu_1 (tok B n p3).1)) (fun t ft gs M e S => ?_) (fun m M S => ?_)
    · obtain ⟨M2, S2, A2, P2, e2⟩ := c2 t ft gs M e S
      obtain ⟨M4, f1, f2⟩ := (c_coord e wk3 S2 (k := 0) (by omega)).2 hn3
      refine CFail.le A2 ⟨M4, ?_, f2⟩
      rw [e2]
      unfold kF2
      rw [k_0, f1, bdP, if_pos rfl]
    · obtain ⟨M3, g1, g2, g3, g4, A3, e2⟩ := m2 m M S
      have e3 := (m_num hφ hB.1 hB.2 g1 g2 (to := f) (a := 0) (b := 999) (by omega) (by omega) (by omega)).2 hn3
      refine MFail.le A3 (MFail.of M3 ?_)
      rw [e2]
      unfold kG2
      rw [k_0, k_999, e3, bdP, if_pos rfl]
  | true =>
  have v3 := of_decide_eq_true (p := (tok B n p3).1 = 2 ∧ 0 ≤ (tok B n p3).2.2.1 ∧ (tok B n p3).2.2.1 ≤ 999) hn3
  obtain ⟨xa, hxa⟩ : ∃ xa, xa = (tok B n p3).2.2.1 := ⟨_, rfl⟩
  rw [← hxa] at v3
  have c3 : ∀ t ft gs M, ENV t ft gs → CSt t ft gs B n p F nm M → ∃ M2, CSt t ft gs B n p4 F nm M2 ∧ RCw t ft gs 13 M M2 ∧ (M2.1 (ft + 1) 0 = iI xa) ∧ fX1_passFault φ ft M = kF3 φ ft (lI c) M2 := fun t ft gs M e S => by
    obtain ⟨M2, S2, A2, P2, e2⟩ := c2 t ft gs M e S
    obtain ⟨M4, q1, q2, q3, q4⟩ := (c_coord e wk3 S2 (k := 0) (by omega)).1 hn3
    rw [← hp4] at q2
    rw [← hxa] at q4
    refine ⟨M4, q2, A2.trans q3, ?_, ?_⟩
    · rw [q4]
      exact rI_at rfl rfl
    · rw [e2]
      unfold kF2
      rw [k_0, q1, bdP, if_neg (by decide)]
      rfl
  have m3 : ∀ m M, MSt m B n p F nm M → ∃ M3, RKp m B n p4 M3 ∧ M3.1 m 18 = iI 0 ∧ (∀ e : Int, 0 ≤ e → M3.1 (m + 1) e.toNat = if e = f then iI xa else M.1 (m + 1) e.toNat) ∧ M3.2 = (stL M (m + 2) (78 + F 0 3 0).toNat (lI (w8 c))).2 ∧ RW m M M3 ∧ fX11_aFault φ m M = kG3 φ m (iI f) M3 := fun m M S => by
    obtain ⟨M3, g1, g2, g3, g4, A3, e2⟩ := m2 m M S
    obtain ⟨M4, q1, q2, q3⟩ := (m_num hφ hB.1 hB.2 g1 g2 (to := f) (a := 0) (b := 999) (by omega) (by omega) (by omega)).1 hn3
    rw [← hp4] at q2
    rw [← hxa] at q3
    refine ⟨M4, q2, by rw [q3.1 18 (by omega) (by omega) (by omega) (by omega), rI_ng (by omega)]; exact g2, fun e e0 => ?_, by rw [q3.2.1]; exact g4, (A3.trans (RW.st (e := f) (by omega) M3 _)).trans q3.rw, ?_⟩
    · rw [(q3.2.2 (m + 1) (by omega)).1]
      by_cases z : e = f
      · rw [if_pos z, rI_at rfl (by omega)]
      · rw [if_neg z, rI_nk (by omega)]; exact g3 e e0
    · have q1' : fX11_number φ m (iI f) (0 : Int32) (999 : Int32) M3 = some (iI 1, M4) := by
        rw [k_0, k_999]
        exact q1
      rw [e2]
      unfold kG2
      rw [q1', bdP, if_neg (by decide)]
      rfl
  cases hn4 : isNu (tok B n p4) 0 999 with
  | false =>
    refine Part.no (fp := (tok B n p4).2.1) (fkT_1 (tok B n p4) (nu_1 (tok B n p4).1)) (fun t ft gs M e S => ?_) (fun m M S => ?_)
    · obtain ⟨M2, S2, A2, P2, e2⟩ := c3 t ft gs M e S
      obtain ⟨M4, f1, f2⟩ := (c_coord e wk4 S2 (k := 1) (by omega)).2 hn4
      refine CFail.le A2 ⟨M4, ?_, f2⟩
      rw [e2]
      unfold kF3
      rw [k_1, f1, bdP, if_pos i0e]
      rfl
    · obtain ⟨M3, g1, g2, g3, g4, A3, e2⟩ := m3 m M S
      have e3 := (m_num hφ hB.1 hB.2 g1 g2 (to := f + 1) (a := 0) (b := 999) (by omega) (by omega) (by omega)).2 hn4
      refine MFail.le A3 (MFail.of M3 ?_)
      rw [e2]
      unfold kG3
      rw [k_1, iI_add, k_0, k_999, e3, bdP, if_pos rfl]
  | true =>
  have v4 := of_decide_eq_true (p := (tok B n p4).1 = 2 ∧ 0 ≤ (tok B n p4).2.2.1 ∧ (tok B n p4).2.2.1 ≤ 999) hn4
  obtain ⟨ya, hya⟩ : ∃ ya, ya = (tok B n p4).2.2.1 := ⟨_, rfl⟩
  rw [← hya] at v4
  have c4 : ∀ t ft gs M, ENV t ft gs → CSt t ft gs B n p F nm M → ∃ M2, CSt t ft gs B n p5 F nm M2 ∧ RCw t ft gs 13 M M2 ∧ (M2.1 (ft + 1) 0 = iI xa ∧ M2.1 (ft + 1) 1 = iI ya) ∧ fX1_passFault φ ft M = kF4 φ ft (lI c) M2 := fun t ft gs M e S => by
    obtain ⟨M2, S2, A2, P2, e2⟩ := c3 t ft gs M e S
    obtain ⟨M4, q1, q2, q3, q4⟩ := (c_coord e wk4 S2 (k := 1) (by omega)).1 hn4
    rw [← hp5] at q2
    rw [← hya] at q4
    refine ⟨M4, q2, A2.trans q3, ?_, ?_⟩
    · rw [q4]
      exact ⟨(rI_nk (by omega)).trans P2, rI_at rfl rfl⟩
    · rw [e2]
      unfold kF3
      rw [k_1, q1, bdP, if_neg i1n]
      rfl
  have m4 : ∀ m M, MSt m B n p F nm M → ∃ M3, RKp m B n p5 M3 ∧ M3.1 m 18 = iI 0 ∧ (∀ e : Int, 0 ≤ e → M3.1 (m + 1) e.toNat = if e = f + 1 then iI ya else if e = f then iI xa else M.1 (m + 1) e.toNat) ∧ M3.2 = (stL M (m + 2) (78 + F 0 3 0).toNat (lI (w8 c))).2 ∧ RW m M M3 ∧ fX11_aFault φ m M = kG4 φ m (iI f) M3 := fun m M S => by
    obtain ⟨M3, g1, g2, g3, g4, A3, e2⟩ := m3 m M S
    obtain ⟨M4, q1, q2, q3⟩ := (m_num hφ hB.1 hB.2 g1 g2 (to := f + 1) (a := 0) (b := 999) (by omega) (by omega) (by omega)).1 hn4
    rw [← hp5] at q2
    rw [← hya] at q3
    refine ⟨M4, q2, by rw [q3.1 18 (by omega) (by omega) (by omega) (by omega), rI_ng (by omega)]; exact g2, fun e e0 => ?_, by rw [q3.2.1]; exact g4, (A3.trans (RW.st (e := f + 1) (by omega) M3 _)).trans q3.rw, ?_⟩
    · rw [(q3.2.2 (m + 1) (by omega)).1]
      by_cases z : e = f + 1
      · rw [if_pos z, rI_at rfl (by omega)]
      · rw [if_neg z, rI_nk (by omega)]; exact g3 e e0
    · have q1' : fX11_number φ m (iI f + (1 : Int32)) (0 : Int32) (999 : Int32) M3 = some (iI 1, M4) := by
        rw [k_1, iI_add, k_0, k_999]
        exact q1
      rw [e2]
      unfold kG3
      rw [q1', bdP, if_neg (by decide)]
      rfl
  by_cases hwk5 : wv (tok B n p5) = 11
  rotate_left
  · refine Part.no (fp := (tok B n p5).2.1) (fkT_1 (tok B n p5) (k := 2) (by omega)) (fun t ft gs M e S => ?_) (fun m M S => ?_)
    · obtain ⟨M2, S2, A2, P2, e2⟩ := c4 t ft gs M e S
      have e3 := (c_passW wk5 S2.1 (k := 11) (by omega)).2 hwk5
      refine CFail.le A2 (CFail.of M2 ?_)
      rw [e2]
      unfold kF4
      rw [S2.2.2.2.1, ldr_ok e.2.2.1, sbind, k_11, e3, bdP, if_pos i0e]
      rfl
    · obtain ⟨M3, g1, g2, g3, g4, A3, e2⟩ := m4 m M S
      have e3 := (m_wWord hφ hB.1 hB.2 g1 g2 (k := 11) (j := 11) (by omega) (by decide +kernel)).2 hwk5
      refine MFail.le A3 (MFail.of M3 ?_)
      rw [e2]
      unfold kG4
      rw [k_11, e3, bdP, if_pos i0e]
      rfl
  have c5 : ∀ t ft gs M, ENV t ft gs → CSt t ft gs B n p F nm M → ∃ M2, CSt t ft gs B n p6 F nm M2 ∧ RCw t ft gs 13 M M2 ∧ (M2.1 (ft + 1) 0 = iI xa ∧ M2.1 (ft + 1) 1 = iI ya) ∧ fX1_passFault φ ft M = kF5 φ ft (lI c) M2 := fun t ft gs M e S => by
    obtain ⟨M2, S2, A2, P2, e2⟩ := c4 t ft gs M e S
    obtain ⟨M4, q1, q2, q3⟩ := (c_passW wk5 S2.1 (k := 11) (by omega)).1 hwk5
    have S4 := S2.go e q2 q3
    rw [← hp6] at S4
    have t4 : M4.1 (ft + 1) = M2.1 (ft + 1) := (q3.2.2 (ft + 1) (by have := e.1; omega)).1
    refine ⟨M4, S4, A2.trans q3.rw, by rw [t4]; exact P2, ?_⟩
    rw [e2]
    unfold kF4
    rw [S2.2.2.2.1, ldr_ok e.2.2.1, sbind, k_11, q1, bdP, if_neg i1n]
    rfl
  have m5 : ∀ m M, MSt m B n p F nm M → ∃ M3, RKp m B n p6 M3 ∧ M3.1 m 18 = iI 0 ∧ (∀ e : Int, 0 ≤ e → M3.1 (m + 1) e.toNat = if e = f + 1 then iI ya else if e = f then iI xa else M.1 (m + 1) e.toNat) ∧ M3.2 = (stL M (m + 2) (78 + F 0 3 0).toNat (lI (w8 c))).2 ∧ RW m M M3 ∧ fX11_aFault φ m M = kG5 φ m (iI f) M3 := fun m M S => by
    obtain ⟨M3, g1, g2, g3, g4, A3, e2⟩ := m4 m M S
    obtain ⟨M4, q1, q2, q3⟩ := (m_wWord hφ hB.1 hB.2 g1 g2 (k := 11) (j := 11) (by omega) (by decide +kernel)).1 hwk5
    rw [← hp6] at q2
    refine ⟨M4, q2, by rw [q3.1 18 (by omega) (by omega) (by omega) (by omega)]; exact g2, fun e e0 => by rw [(q3.2.2 (m + 1) (by omega)).1]; exact g3 e e0, by rw [q3.2.1]; exact g4, A3.trans q3.rw, ?_⟩
    rw [e2]
    unfold kG4
    rw [k_11, q1, bdP, if_neg i1n]
    rfl
  cases hn6 : isNu (tok B n p6) 0 999 with
  | false =>
    refine Part.no (fp := (tok B n p6).2.1) (fkT_1 (tok B n p6) (nu_1 (tok B n p6).1)) (fun t ft gs M e S => ?_) (fun m M S => ?_)
    · obtain ⟨M2, S2, A2, P2, e2⟩ := c5 t ft gs M e S
      obtain ⟨M4, f1, f2⟩ := (c_coord e wk6 S2 (k := 2) (by omega)).2 hn6
      refine CFail.le A2 ⟨M4, ?_, f2⟩
      rw [e2]
      unfold kF5
      rw [k_2, f1, bdP, if_pos i0e]
      rfl
    · obtain ⟨M3, g1, g2, g3, g4, A3, e2⟩ := m5 m M S
      have e3 := (m_num hφ hB.1 hB.2 g1 g2 (to := f + 2) (a := 0) (b := 999) (by omega) (by omega) (by omega)).2 hn6
      refine MFail.le A3 (MFail.of M3 ?_)
      rw [e2]
      unfold kG5
      rw [k_2, iI_add, k_0, k_999, e3, bdP, if_pos rfl]
  | true =>
  have v6 := of_decide_eq_true (p := (tok B n p6).1 = 2 ∧ 0 ≤ (tok B n p6).2.2.1 ∧ (tok B n p6).2.2.1 ≤ 999) hn6
  obtain ⟨xb, hxb⟩ : ∃ xb, xb = (tok B n p6).2.2.1 := ⟨_, rfl⟩
  rw [← hxb] at v6
  have c6 : ∀ t ft gs M, ENV t ft gs → CSt t ft gs B n p F nm M → ∃ M2, CSt t ft gs B n p7 F nm M2 ∧ RCw t ft gs 13 M M2 ∧ (M2.1 (ft + 1) 0 = iI xa ∧ M2.1 (ft + 1) 1 = iI ya ∧ M2.1 (ft + 1) 2 = iI xb) ∧ fX1_passFault φ ft M = kF6 φ ft (lI c) M2 := fun t ft gs M e S => by
    obtain ⟨M2, S2, A2, P2, e2⟩ := c5 t ft gs M e S
    obtain ⟨M4, q1, q2, q3, q4⟩ := (c_coord e wk6 S2 (k := 2) (by omega)).1 hn6
    rw [← hp7] at q2
    rw [← hxb] at q4
    refine ⟨M4, q2, A2.trans q3, ?_, ?_⟩
    · rw [q4]
      exact ⟨(rI_nk (by omega)).trans P2.1, (rI_nk (by omega)).trans P2.2, rI_at rfl rfl⟩
    · rw [e2]
      unfold kF5
      rw [k_2, q1, bdP, if_neg i1n]
      rfl
  have m6 : ∀ m M, MSt m B n p F nm M → ∃ M3, RKp m B n p7 M3 ∧ M3.1 m 18 = iI 0 ∧ (∀ e : Int, 0 ≤ e → M3.1 (m + 1) e.toNat = if e = f + 2 then iI xb else if e = f + 1 then iI ya else if e = f then iI xa else M.1 (m + 1) e.toNat) ∧ M3.2 = (stL M (m + 2) (78 + F 0 3 0).toNat (lI (w8 c))).2 ∧ RW m M M3 ∧ fX11_aFault φ m M = kG6 φ m (iI f) M3 := fun m M S => by
    obtain ⟨M3, g1, g2, g3, g4, A3, e2⟩ := m5 m M S
    obtain ⟨M4, q1, q2, q3⟩ := (m_num hφ hB.1 hB.2 g1 g2 (to := f + 2) (a := 0) (b := 999) (by omega) (by omega) (by omega)).1 hn6
    rw [← hp7] at q2
    rw [← hxb] at q3
    refine ⟨M4, q2, by rw [q3.1 18 (by omega) (by omega) (by omega) (by omega), rI_ng (by omega)]; exact g2, fun e e0 => ?_, by rw [q3.2.1]; exact g4, (A3.trans (RW.st (e := f + 2) (by omega) M3 _)).trans q3.rw, ?_⟩
    · rw [(q3.2.2 (m + 1) (by omega)).1]
      by_cases z : e = f + 2
      · rw [if_pos z, rI_at rfl (by omega)]
      · rw [if_neg z, rI_nk (by omega)]; exact g3 e e0
    · have q1' : fX11_number φ m (iI f + (2 : Int32)) (0 : Int32) (999 : Int32) M3 = some (iI 1, M4) := by
        rw [k_2, iI_add, k_0, k_999]
        exact q1
      rw [e2]
      unfold kG5
      rw [q1', bdP, if_neg (by decide)]
      rfl
  have z26 : (2603 : Int32) = iI 2603 := rfl
  have mY : ∀ m (M3 : Mem), RKp m B n p7 M3 → M3.1 (m + 1) f.toNat = iI xa → M3.1 (m + 1) (f + 1).toNat = iI ya → M3.1 (m + 1) (f + 2).toNat = iI xb → kG6 φ m (iI f) M3 = if isNu (tok B n p7) 0 999 = true ∧ xa = xb ∧ ya = (tok B n p7).2.2.1 then (bd (fX11_fails m (iI 5) M3) fun v22 M23 => if v22 = iI 0 ∨ v22 = iI 1 then some (v22, M23) else none) else kG7 φ m f M3 := fun m M3 R q0 q1 q2 => by
    have ej : kG6 φ m (iI f) M3 = (if (M3.1 m 12) = (3 : Int32) then if (999 : Int32) < (M3.1 m 15) then kG7 φ m f M3 else if (iI xa) = (iI xb) then if (iI ya) = (M3.1 m 15) then (bd (fX11_fails m (iI 5) M3) fun v22 M23 => if v22 = iI 0 ∨ v22 = iI 1 then some (v22, M23) else none) else kG7 φ m f M3 else kG7 φ m f M3 else kG7 φ m f M3) := by
      unfold kG6 kG7
      simp (disch := omega) only [z26, k_1, k_2, k_3, k_4, k_5, k_12, iI_add, ixkI, iI_nat, nm_eq, jn_eq, k_0, k_999, q0, q1, q2]
    rw [ej]
    obtain ⟨⟨hp', h17⟩, h11, hT, r1, r2, r3, r4⟩ := R
    have ww := wk7.1
    obtain ⟨k0, k1, k2, k3, k4⟩ := rkd_v ww
    by_cases q : (tok B n p7).1 = 2
    · have r4 := r4 (Or.inl q)
      have bb := wk7.2.2.2.1 q
      rw [k2 q] at r1
      rw [r1, if_pos (show iI 3 = (3 : Int32) from rfl), r4, k_999]
      by_cases q2 : (tok B n p7).2.2.1 ≤ 999
      · have qn : isNu (tok B n p7) 0 999 = true := decide_eq_true ⟨q, bb.1, q2⟩
        rw [if_neg (by rw [iI_lt (by omega) (by omega)]; omega)]
        by_cases q3 : xa = xb
        · by_cases q4 : ya = (tok B n p7).2.2.1
          · rw [if_pos (by rw [q3]), if_pos (by rw [q4]), if_pos ⟨qn, q3, q4⟩]
          · rw [if_pos (by rw [q3]), if_neg (by rw [iI_eq (by omega) (by omega)]; exact q4), if_neg (fun z => q4 z.2.2)]
        · rw [if_neg (by rw [iI_eq (by omega) (by omega)]; exact q3), if_neg (fun z => q3 z.2.1)]
      · rw [if_pos (by rw [iI_lt (by omega) (by omega)]; omega), if_neg (fun z => q2 (of_decide_eq_true (p := (tok B n p7).1 = 2 ∧ 0 ≤ (tok B n p7).2.2.1 ∧ (tok B n p7).2.2.1 ≤ 999) z.1).2.2)]
    · have ne : rkd (tok B n p7).1 ≠ 3 ∧ 0 ≤ rkd (tok B n p7).1 ∧ rkd (tok B n p7).1 ≤ 4 := by
        have : (tok B n p7).1 = 0 ∨ (tok B n p7).1 = 3 ∨ (tok B n p7).1 = 1 ∨ (tok B n p7).1 = 4 := by omega
        rcases this with z | z | z | z
        · rw [k0 z]; omega
        · rw [k3 z]; omega
        · rw [k1 z]; omega
        · rw [k4 z]; omega
      rw [r1, if_neg (by rw [k_3, iI_eq (by omega) (by omega)]; exact ne.1), if_neg (fun z => q (of_decide_eq_true (p := (tok B n p7).1 = 2 ∧ 0 ≤ (tok B n p7).2.2.1 ∧ (tok B n p7).2.2.1 ≤ 999) z.1).1)]
  have at3 : ∀ m (M M3 : Mem), (∀ e : Int, 0 ≤ e → M3.1 (m + 1) e.toNat = if e = f + 2 then iI xb else if e = f + 1 then iI ya else if e = f then iI xa else M.1 (m + 1) e.toNat) → M3.1 (m + 1) f.toNat = iI xa ∧ M3.1 (m + 1) (f + 1).toNat = iI ya ∧ M3.1 (m + 1) (f + 2).toNat = iI xb := fun m M M3 g => ⟨by rw [g _ (by omega), if_neg (by omega), if_neg (by omega), if_pos rfl], by rw [g _ (by omega), if_neg (by omega), if_pos rfl], by rw [g _ (by omega), if_pos rfl]⟩
  cases hn7 : isNu (tok B n p7) 0 999 with
  | false =>
    refine Part.no (fp := (tok B n p7).2.1) (fkT_1 (tok B n p7) (nu_1 (tok B n p7).1)) (fun t ft gs M e S => ?_) (fun m M S => ?_)
    · obtain ⟨M2, S2, A2, P2, e2⟩ := c6 t ft gs M e S
      have e5 := c_isNumber wk7 S2.1 (a := 0) (b := 999) (by omega) (by omega)
      rw [hn7, bI_f] at e5
      refine CFail.le A2 (CFail.of M2 ?_)
      rw [e2]
      unfold kF6
      rw [S2.2.2.2.1, ldr_ok e.2.2.1, sbind, k_0, k_999, e5, sbind, if_pos rfl, sbind, sbind, c_numFault wk7 S2.1, sbind, c_refuse wk7 S2.1, bdP, if_pos (Or.inl rfl)]
    · obtain ⟨M3, g1, g2, g3, g4, A3, e2⟩ := m6 m M S
      obtain ⟨y0, y1, y2⟩ := at3 m M M3 g3
      have e3 := (m_num hφ hB.1 hB.2 g1 g2 (to := f + 3) (a := 0) (b := 999) (by omega) (by omega) (by omega)).2 hn7
      refine MFail.le A3 (MFail.of M3 ?_)
      rw [e2, mY m M3 g1 y0 y1 y2, hn7, if_neg (fun z => by cases z.1)]
      unfold kG7
      rw [e3, bdP, if_pos rfl]
  | true =>
  have v7 := of_decide_eq_true (p := (tok B n p7).1 = 2 ∧ 0 ≤ (tok B n p7).2.2.1 ∧ (tok B n p7).2.2.1 ≤ 999) hn7
  obtain ⟨yb, hyb⟩ : ∃ yb, yb = (tok B n p7).2.2.1 := ⟨_, rfl⟩
  rw [← hyb] at v7
  have c6p : ∀ t ft gs M, ENV t ft gs → CSt t ft gs B n p F nm M → ∃ M2, CSt t ft gs B n p7 F nm M2 ∧ RCw t ft gs 13 M M2 ∧ (M2.1 (ft + 1) 0 = iI xa ∧ M2.1 (ft + 1) 1 = iI ya ∧ M2.1 (ft + 1) 2 = iI xb ∧ M2.1 (ft + 1) 3 = iI yb) ∧ fX1_passFault φ ft M = if xa = xb ∧ ya = yb then (bd (fX6_refuseToken t (iI 5) M2) fun v48 M49 => if v48 = iI 0 ∨ v48 = iI 1 then some (v48, M49) else none) else kF7 φ ft (lI c) M2 := fun t ft gs M e S => by
    obtain ⟨M2, S2, A2, ⟨P0, P1, P2⟩, e2⟩ := c6 t ft gs M e S
    have e5 := c_isNumber wk7 S2.1 (a := 0) (b := 999) (by omega) (by omega)
    rw [hn7, bI_t] at e5
    obtain ⟨v, ev, ev2⟩ := c_value S2.1
    have ev2 := ev2 (by omega)
    rw [← hyb] at ev2
    rw [ev2] at ev
    have en := e
    obtain ⟨e1', e2', e3', e4'⟩ := e
    have fr0 : Fr (fun z => z = ft + 1) M2 (stI M2 (ft + 1) (Int.toNat 3) (iI yb)) := Fr.stI rfl (Fr.refl M2)
    have rw0 : RCw t ft gs 13 M2 (stI M2 (ft + 1) (Int.toNat 3) (iI yb)) := ⟨fun i _ _ _ => rI_ng (by omega), rfl, fr0.mono (fun z q => Or.inr (Or.inl ⟨by omega, by omega⟩))⟩
    have S3 : CSt t ft gs B n p7 F nm (stI M2 (ft + 1) (Int.toNat 3) (iI yb)) := ⟨S2.1.fr fr0 (fun z hz q => by omega), S2.2.1.fr fr0 (fun z a b q => by omega), S2.2.2.1.fr fr0 (by omega) (by omega) (by omega), S2.2.2.2.1, S2.2.2.2.2⟩
    have Q0 : (stI M2 (ft + 1) (Int.toNat 3) (iI yb)).1 (ft + 1) (Int.toNat 0) = iI xa := (rI_nk (by decide)).trans P0
    have Q1 : (stI M2 (ft + 1) (Int.toNat 3) (iI yb)).1 (ft + 1) (Int.toNat 1) = iI ya := (rI_nk (by decide)).trans P1
    have Q2 : (stI M2 (ft + 1) (Int.toNat 3) (iI yb)).1 (ft + 1) (Int.toNat 2) = iI xb := (rI_nk (by decide)).trans P2
    have Q3 : (stI M2 (ft + 1) (Int.toNat 3) (iI yb)).1 (ft + 1) (Int.toNat 3) = iI yb := rI_at rfl rfl
    refine ⟨stI M2 (ft + 1) (Int.toNat 3) (iI yb), S3, A2.trans rw0, ⟨Q0, Q1, Q2, Q3⟩, ?_⟩
    have l3 : (stI M2 (ft + 1) (Int.toNat 3) (iI yb)).2.2 ft 1 = some t := S2.2.2.2.1
    have ej : kF6 φ ft (lI c) M2 = (if iI xa = iI xb then if iI ya = iI yb then (bd (fX6_refuseToken t (iI 5) (stI M2 (ft + 1) (Int.toNat 3) (iI yb))) fun v48 M49 => if v48 = iI 0 ∨ v48 = iI 1 then some (v48, M49) else none) else kF7 φ ft (lI c) (stI M2 (ft + 1) (Int.toNat 3) (iI yb)) else kF7 φ ft (lI c) (stI M2 (ft + 1) (Int.toNat 3) (iI yb))) := by
      unfold kF6
      rw [S2.2.2.2.1, ldr_ok e3', sbind, k_0, k_999, e5, sbind, if_neg (by decide), sbind, ev, sbind, k_3, ixkI (by omega), iI_nat (by omega), nm_eq, ixkI (by omega), k_2, ixkI (by omega), jn_eq, k_1, ixkI (by omega), ixkI (by omega), iI_nat (by omega), iI_nat (by omega), iI_nat (by omega), Q0, Q1, Q2, Q3, l3, ldr_ok e3', sbind, k_5]
      unfold kF7
      rw [l3, ldr_ok e3']
      rfl
    rw [e2, ej]
    by_cases q3 : xa = xb
    · by_cases q4 : ya = yb
      · rw [if_pos (by rw [q3]), if_pos (by rw [q4]), if_pos ⟨q3, q4⟩]
      · rw [if_pos (by rw [q3]), if_neg (by rw [iI_eq (by omega) (by omega)]; exact q4), if_neg (fun z => q4 z.2)]
    · rw [if_neg (by rw [iI_eq (by omega) (by omega)]; exact q3), if_neg (fun z => q3 z.1)]
  by_cases h9 : xa = xb ∧ ya = yb
  · refine Part.no (fp := (tok B n p7).2.1) (fkT_1 (tok B n p7) (k := 5) (by omega)) (fun t ft gs M e S => ?_) (fun m M S => ?_)
    · obtain ⟨M2, S2, A2, P2, e2⟩ := c6p t ft gs M e S
      refine CFail.le A2 (CFail.of M2 ?_)
      rw [e2, if_pos h9, c_refuse wk7 S2.1, bdP, if_pos (Or.inl rfl)]
    · obtain ⟨M3, g1, g2, g3, g4, A3, e2⟩ := m6 m M S
      obtain ⟨y0, y1, y2⟩ := at3 m M M3 g3
      refine MFail.le A3 (MFail.of M3 ?_)
      rw [e2, mY m M3 g1 y0 y1 y2, if_pos ⟨hn7, h9.1, by rw [← hyb]; exact h9.2⟩, m_fails hB.2 g1 g2 5, bdP, if_pos (Or.inl rfl)]
  have c7 : ∀ t ft gs M, ENV t ft gs → CSt t ft gs B n p F nm M → ∃ M2, CSt t ft gs B n p8 F nm M2 ∧ RCw t ft gs 13 M M2 ∧ (M2.1 (ft + 1) 0 = iI xa ∧ M2.1 (ft + 1) 1 = iI ya ∧ M2.1 (ft + 1) 2 = iI xb ∧ M2.1 (ft + 1) 3 = iI yb) ∧ fX1_passFault φ ft M = bd (fX6_passWord t (iI 12) M2) fun v33 M34 => if v33 = iI 0 then some (iI 0, M34) else (ldr 6 (M34.2.2 ft 1)).bind fun vr35 => (fX6_value vr35 M34).bind fun v36 => (ldr 6 (M34.2.2 ft 1)).bind fun vr37 => bd (fX6_passNumber vr37 (iI 0) (iI 999) M34) fun v38 M39 => if v38 = iI 0 then some (iI 0, M39) else (ldr 2 (M39.2.2 ft 2)).bind fun vr40 => bd (fX2_addFault 4 vr40 (lI c) (ft + 1) v36 M39) fun vu41 M42 => (ldr 6 (M42.2.2 ft 1)).bind fun vr43 => csm vr43 M42 := fun t ft gs M e S => by
    obtain ⟨M2, S2, A2, P2, e2⟩ := c6p t ft gs M e S
    obtain ⟨M4, q1, q2, q3⟩ := c_next e S2
    rw [← hp8] at q2
    have t4 : M4.1 (ft + 1) = M2.1 (ft + 1) := (q3.2.2 (ft + 1) (by have := e.1; omega)).1
    refine ⟨M4, q2, A2.trans q3.rw, by rw [t4]; exact P2, ?_⟩
    rw [e2, if_neg h9]
    unfold kF7
    rw [S2.2.2.2.1, ldr_ok e.2.2.1, sbind, q1, bdP, q2.2.2.2.1, ldr_ok e.2.2.1, sbind]
    rfl
  have m7 : ∀ m M, MSt m B n p F nm M → ∃ M3, RKp m B n p8 M3 ∧ M3.1 m 18 = iI 0 ∧ (∀ e : Int, 0 ≤ e → M3.1 (m + 1) e.toNat = if e = f + 3 then iI yb else if e = f + 2 then iI xb else if e = f + 1 then iI ya else if e = f then iI xa else M.1 (m + 1) e.toNat) ∧ M3.2 = (stL M (m + 2) (78 + F 0 3 0).toNat (lI (w8 c))).2 ∧ RW m M M3 ∧ fX11_aFault φ m M = bd (fX11_wantWord φ m 1002 (iI 12) M3) fun v17 M18 => if v17 = iI 0 then some (iI 0, M18) else bd (fX11_number φ m (iI (f + 4)) (iI 0) (iI 999) M18) fun v19 M20 => if v19 = iI 0 then some (iI 0, M20) else some (iI 1, stI M20 (m + 1) (Int.toNat 2603) ((M20.1 (m + 1) (Int.toNat 2603)) + iI 1)) := fun m M S => by
    obtain ⟨M3, g1, g2, g3, g4, A3, e2⟩ := m6 m M S
    obtain ⟨y0, y1, y2⟩ := at3 m M M3 g3
    obtain ⟨M4, q1, q2, q3⟩ := (m_num hφ hB.1 hB.2 g1 g2 (to := f + 3) (a := 0) (b := 999) (by omega) (by omega) (by omega)).1 hn7
    rw [← hp8] at q2
    rw [← hyb] at q3
    refine ⟨M4, q2, by rw [q3.1 18 (by omega) (by omega) (by omega) (by omega), rI_ng (by omega)]; exact g2, fun e e0 => ?_, by rw [q3.2.1]; exact g4, (A3.trans (RW.st (e := f + 3) (by omega) M3 _)).trans q3.rw, ?_⟩
    · rw [(q3.2.2 (m + 1) (by omega)).1]
      by_cases z : e = f + 3
      · rw [if_pos z, rI_at rfl (by omega)]
      · rw [if_neg z, rI_nk (by omega)]; exact g3 e e0
    · rw [e2, mY m M3 g1 y0 y1 y2, if_neg (fun z => h9 ⟨z.2.1, by rw [hyb]; exact z.2.2⟩)]
      unfold kG7
      rw [q1, bdP, if_neg (by decide)]
  by_cases hw8 : wv (tok B n p8) = 12
  rotate_left
  · refine Part.no (fp := (tok B n p8).2.1) (fkT_1 (tok B n p8) (k := 2) (by omega)) (fun t ft gs M e S => ?_) (fun m M S => ?_)
    · obtain ⟨M2, S2, A2, P2, e2⟩ := c7 t ft gs M e S
      have e3 := (c_passW wk8 S2.1 (k := 12) (by omega)).2 hw8
      refine CFail.le A2 (CFail.of M2 ?_)
      rw [e2, e3, bdP, if_pos rfl]
    · obtain ⟨M3, g1, g2, g3, g4, A3, e2⟩ := m7 m M S
      have e3 := (m_wWord hφ hB.1 hB.2 g1 g2 (k := 12) (j := 12) (by omega) (by decide +kernel)).2 hw8
      refine MFail.le A3 (MFail.of M3 ?_)
      rw [e2, e3, bdP, if_pos rfl]
  cases hn9 : isNu (tok B n p9) 0 999 with
  | false =>
    refine Part.no (fp := (tok B n p9).2.1) (fkT_1 (tok B n p9) (nu_1 (tok B n p9).1)) (fun t ft gs M e S => ?_) (fun m M S => ?_)
    · obtain ⟨M2, S2, A2, P2, e2⟩ := c7 t ft gs M e S
      obtain ⟨M4, q1, q2, q3⟩ := (c_passW wk8 S2.1 (k := 12) (by omega)).1 hw8
      have S4 := S2.go e q2 q3
      rw [← hp9] at S4
      obtain ⟨v, ev, _⟩ := c_value S4.1
      have e4 := (c_passNum wk9 S4.1 (a := 0) (b := 999) (by omega) (by omega)).2 hn9
      refine CFail.le (A2.trans q3.rw) (CFail.of M4 ?_)
      rw [e2, q1, bdP, if_neg (by decide), S4.2.2.2.1, ldr_ok e.2.2.1, sbind, ev, sbind, sbind, e4, bdP, if_pos rfl]
    · obtain ⟨M3, g1, g2, g3, g4, A3, e2⟩ := m7 m M S
      obtain ⟨M4, q1, q2, q3⟩ := (m_wWord hφ hB.1 hB.2 g1 g2 (k := 12) (j := 12) (by omega) (by decide +kernel)).1 hw8
      rw [← hp9] at q2
      have e4 := (m_num hφ hB.1 hB.2 q2 (by rw [q3.1 18 (by omega) (by omega) (by omega) (by omega)]; exact g2) (to := f + 4) (a := 0) (b := 999) (by omega) (by omega) (by omega)).2 hn9
      refine MFail.le (A3.trans q3.rw) (MFail.of M4 ?_)
      rw [e2, q1, bdP, if_neg (by decide), e4, bdP, if_pos rfl]
  | true =>
  have v9 := of_decide_eq_true (p := (tok B n p9).1 = 2 ∧ 0 ≤ (tok B n p9).2.2.1 ∧ (tok B n p9).2.2.1 ≤ 999) hn9
  obtain ⟨tv, htv⟩ : ∃ tv, tv = (tok B n p9).2.2.1 := ⟨_, rfl⟩
  rw [← htv] at v9
  obtain ⟨vf, hvf⟩ : ∃ vf : Int → Int, vf = fun y => if y = 0 then xa else if y = 1 then ya else if y = 2 then xb else if y = 3 then yb else tv := ⟨_, rfl⟩
  have w0' : vf 0 = xa ∧ vf 1 = ya ∧ vf 2 = xb ∧ vf 3 = yb ∧ vf 4 = tv := by rw [hvf]; exact ⟨rfl, rfl, rfl, rfl, rfl⟩
  have five : ∀ y : Int, 0 ≤ y → y < 5 → y = 0 ∨ y = 1 ∨ y = 2 ∨ y = 3 ∨ y = 4 := fun y a b => by omega
  refine Part.fin hφ hB b10.1 (by omega) (dw.flt (v := vf) (c := c) (by omega) (fun y y0 y1 => by
    rcases five y y0 y1 with z | z | z | z | z
    · rw [z, w0'.1]; exact v3.2
    · rw [z, w0'.2.1]; exact v4.2
    · rw [z, w0'.2.2.1]; exact v6.2
    · rw [z, w0'.2.2.2.1]; exact v7.2
    · rw [z, w0'.2.2.2.2]; exact v9.2) okc) (fun t ft gs M e S => ?_) (fun m M S => ?_)
  · obtain ⟨M2, S2, A2, P2, e2⟩ := c7 t ft gs M e S
    obtain ⟨M4, q1, q2, q3⟩ := (c_passW wk8 S2.1 (k := 12) (by omega)).1 hw8
    have S4 := S2.go e q2 q3
    rw [← hp9] at S4
    obtain ⟨v, ev, ev2⟩ := c_value S4.1
    have ev2 := ev2 (by omega)
    rw [← htv] at ev2
    rw [ev2] at ev
    obtain ⟨M5, s1, s2, s3⟩ := (c_passNum wk9 S4.1 (a := 0) (b := 999) (by omega) (by omega)).1 hn9
    have S5 := S4.go e s2 s3
    rw [← hp10] at S5
    have t5 : M5.1 (ft + 1) = M2.1 (ft + 1) := ((s3.2.2 (ft + 1) (by have := e.1; omega)).1).trans (q3.2.2 (ft + 1) (by have := e.1; omega)).1
    obtain ⟨M6, a1, a2, a3, a4, a5⟩ := c_addFault (v := vf) (c := c) (u := ft + 1) dw (by omega) S5.2.1 S5.2.2.1 (by have := e.2.1; omega) (fun y y0 y1 => by
      rw [t5]
      have : y = 0 ∨ y = 1 ∨ y = 2 ∨ y = 3 := by omega
      rcases this with z | z | z | z
      · rw [z, w0'.1]; exact P2.1
      · rw [z, w0'.2.1]; exact P2.2.1
      · rw [z, w0'.2.2.1]; exact P2.2.2.1
      · rw [z, w0'.2.2.2.1]; exact P2.2.2.2)
    rw [w0'.2.2.2.2] at a1
    have S6 := S5.add e a2 a3 a4 a5
    refine ⟨M6, ?_, S6, ((A2.trans q3.rw).trans s3.rw).trans (RCw.add e (by omega) a4 a5)⟩
    rw [e2, q1, bdP, if_neg (by decide), S4.2.2.2.1, ldr_ok e.2.2.1, sbind, ev, sbind, sbind, s1, bdP, if_neg (by decide), S5.2.2.2.2, ldr_ok e.2.2.2, sbind, a1, bdP, S6.2.2.2.1, ldr_ok e.2.2.1, sbind]
  · obtain ⟨M3, g1, g2, g3, g4, A3, e2⟩ := m7 m M S
    obtain ⟨M4, q1, q2, q3⟩ := (m_wWord hφ hB.1 hB.2 g1 g2 (k := 12) (j := 12) (by omega) (by decide +kernel)).1 hw8
    rw [← hp9] at q2
    have h18 : M4.1 m 18 = iI 0 := by rw [q3.1 18 (by omega) (by omega) (by omega) (by omega)]; exact g2
    obtain ⟨M5, s1, s2, s3⟩ := (m_num hφ hB.1 hB.2 q2 h18 (to := f + 4) (a := 0) (b := 999) (by omega) (by omega) (by omega)).1 hn9
    rw [← hp10] at s2
    rw [← htv] at s3
    have t5 : ∀ e : Int, 0 ≤ e → M5.1 (m + 1) e.toNat = if e = f + 4 then iI tv else if e = f + 3 then iI yb else if e = f + 2 then iI xb else if e = f + 1 then iI ya else if e = f then iI xa else M.1 (m + 1) e.toNat := fun e e0 => by
      rw [(s3.2.2 (m + 1) (by omega)).1]
      by_cases z : e = f + 4
      · rw [if_pos z, rI_at rfl (by omega)]
      · rw [if_neg z, rI_nk (by omega), (q3.2.2 (m + 1) (by omega)).1]; exact g3 e e0
    have c03 : M5.1 (m + 1) (Int.toNat 2603) = iI (F 0 3 0) := by
      have := t5 2603 (by omega)
      rw [if_neg (by omega), if_neg (by omega), if_neg (by omega), if_neg (by omega), if_neg (by omega)] at this
      exact this.trans (S.cnt (w := 3) (by omega))
    have frx : Fr (Rg (m + 1) (m + 1)) M5 (stI M5 (m + 1) (Int.toNat 2603) (iI (F 0 3 0 + 1))) := Fr.stI ⟨by omega, by omega⟩ (Fr.refl M5)
    have t22 : (stI M5 (m + 1) (Int.toNat 2603) (iI (F 0 3 0 + 1))).2 = (stL M (m + 2) (78 + F 0 3 0).toNat (lI (w8 c))).2 := by
      show M5.2 = _
      rw [s3.2.1]
      show M4.2 = _
      rw [q3.2.1]
      exact g4
    refine ⟨stI M5 (m + 1) (Int.toNat 2603) (iI (F 0 3 0 + 1)), ?_, ⟨s2.fr frx (fun q => by have := q.1; omega) (fun q => by have := q.2; omega), MR.flt dw.1 (by omega) S.2.1 (rI_at rfl rfl) (fun y y0 y1 => ?_) (fun e e0 e1 e2 => ?_), ⟨fun r a b => ?_, fun r a b => ?_, fun r a b => ?_⟩, ?_⟩, (((A3.trans q3.rw).trans (RW.st (e := f + 4) (by omega) M4 _)).trans s3.rw).trans (RW.st (e := 2603) (by omega) M5 _)⟩
    · rw [e2, q1, bdP, if_neg (by decide), s1, bdP, if_neg (by decide), c03, iI_add]
    · rw [← hf, rI_nk (by omega), t5 _ (by omega)]
      rcases five y y0 y1 with z | z | z | z | z
      · rw [z, w0'.1, if_neg (by omega), if_neg (by omega), if_neg (by omega), if_neg (by omega), if_pos (by omega)]
      · rw [z, w0'.2.1, if_neg (by omega), if_neg (by omega), if_neg (by omega), if_pos (by omega)]
      · rw [z, w0'.2.2.1, if_neg (by omega), if_neg (by omega), if_pos (by omega)]
      · rw [z, w0'.2.2.2.1, if_neg (by omega), if_pos (by omega)]
      · rw [z, w0'.2.2.2.2, if_pos (by omega)]
    · rw [rI_nk (by omega), t5 e e0, if_neg (by omega), if_neg (by omega), if_neg (by omega), if_neg (by omega), if_neg (by omega)]
    · rw [uf_0 F vf (by omega)] at b
      rw [t22, nm_o nm (Or.inr (by omega))]
      exact (rL_nk (by omega)).trans (S.2.2.1.1 r a b)
    · rw [uf_0 F vf (by omega)] at b
      rw [t22, nm_o nm (Or.inr (by omega))]
      exact (rL_nk (by omega)).trans (S.2.2.1.2.1 r a b)
    · rw [uf_03] at b
      rw [t22]
      by_cases z : r = F 0 3 0
      · rw [z, nm_t]; exact rL_at rfl (by omega)
      · rw [nm_o nm (Or.inl z)]; exact (rL_nk (by omega)).trans (S.2.2.1.2.2 r a (by omega))
    · rw [rI_ng (by omega), s3.1 18 (by omega) (by omega) (by omega) (by omega), rI_ng (by omega)]; exact h18
end FT
