/-! what each method does, as a function: none: a wrong index, a divisor 0, no fuel (laid by wip/whole/gen.py) -/
def fX0_isDown (j0 : Nat) (x1 : Int32) (I : zxI) : Option (Int32 × zxI) :=
  (if (((I (zaO j0) 1) >>> (x1 &&& 31)) &&& (1 : Int32)) = (1 : Int32) then
 (some ((1 : Int32), I)) else
 (some ((0 : Int32), I)))

def fX0_becomeLike (j0 : Nat) (j1 : Nat) (I : zxI) : Option zxI :=
  (if ¬ (0 : Int32) < 0 ∧ ¬ (0 : Int32) < 0 ∧ ¬ (6 : Int32) < 0 ∧ (0 : Int32).toNatClampNeg + (6 : Int32).toNatClampNeg ≤ 6 ∧ (0 : Int32).toNatClampNeg + (6 : Int32).toNatClampNeg ≤ 6 then
 (some (zxU (zxC I (zaF j1) (zaF j0) (0 : Int32).toNatClampNeg (0 : Int32).toNatClampNeg (6 : Int32).toNatClampNeg) (zaO j0) 1 ((zxC I (zaF j1) (zaF j0) (0 : Int32).toNatClampNeg (0 : Int32).toNatClampNeg (6 : Int32).toNatClampNeg) (zaO j1) 1))) else none)

def fX6_bearing (x0 : Int32) (x1 : Int32) (I : zxI) : Option (Int32 × zxI) :=
  (if x0 = (1 : Int32) then
 (some ((x1 - (1 : Int32)), I)) else
 (if x0 = (2 : Int32) then
 (some (((2 : Int32) * x1), I)) else
 (some (x1, I))))

def fX2_bears (x1 : Int32) (I : zxI) : Option (Int32 × zxI) :=
  (if zxIn x1 6 = true then
 (zxB (fX6_bearing (I 12 x1.toNatClampNeg) (I 13 x1.toNatClampNeg) I) (fun (r_3 : Int32) (I_3 : zxI) =>
 (some (r_3, I_3)))) else none)

def fX2_passAir_L5 (j1 : Nat) : Nat → Int32 → Int32 → Int32 → zxI → Option (Int32 × zxI)
  | 0, _, _, _, _ => none
  | n5 + 1, v2, v3, v4, I => (if ((I 10 0) - (1 : Int32)) ≤ v4 then
 (some (v3, I)) else
 (if zxIn v4 6 = true then
 (if zxIn (v4 + (1 : Int32)) 6 = true then
 (if ((v2 >>> (v4 &&& 31)) &&& (1 : Int32)) = (1 : Int32) then
 (if (if 0 ≤ ((I (zaF j1) v4.toNatClampNeg) - (I (zaF j1) (v4 + (1 : Int32)).toNatClampNeg)) then ((I (zaF j1) v4.toNatClampNeg) - (I (zaF j1) (v4 + (1 : Int32)).toNatClampNeg)) else 0 - ((I (zaF j1) v4.toNatClampNeg) - (I (zaF j1) (v4 + (1 : Int32)).toNatClampNeg))) < (2 : Int32) then
 (fX2_passAir_L5 j1 n5 v2 v3 (v4 + (1 : Int32)) I) else
 (if ((I (zaF j1) v4.toNatClampNeg) - (I (zaF j1) (v4 + (1 : Int32)).toNatClampNeg)) ≤ 0 then
 (fX2_passAir_L5 j1 n5 v2 (v3 + (1 : Int32)) (v4 + (1 : Int32)) (zxU (zxU I (zaF j1) v4.toNatClampNeg ((I (zaF j1) v4.toNatClampNeg) - (-1 : Int32))) (zaF j1) (v4 + (1 : Int32)).toNatClampNeg (((zxU I (zaF j1) v4.toNatClampNeg ((I (zaF j1) v4.toNatClampNeg) - (-1 : Int32))) (zaF j1) (v4 + (1 : Int32)).toNatClampNeg) + (-1 : Int32)))) else
 (fX2_passAir_L5 j1 n5 v2 (v3 + (1 : Int32)) (v4 + (1 : Int32)) (zxU (zxU I (zaF j1) v4.toNatClampNeg ((I (zaF j1) v4.toNatClampNeg) - (1 : Int32))) (zaF j1) (v4 + (1 : Int32)).toNatClampNeg (((zxU I (zaF j1) v4.toNatClampNeg ((I (zaF j1) v4.toNatClampNeg) - (1 : Int32))) (zaF j1) (v4 + (1 : Int32)).toNatClampNeg) + (1 : Int32)))))) else
 (fX2_passAir_L5 j1 n5 v2 v3 (v4 + (1 : Int32)) I)) else none) else none))
def fX2_passAir (j1 : Nat) (x2 : Int32) (I : zxI) : Option (Int32 × zxI) :=
  (fX2_passAir_L5 j1 1000 x2 (0 : Int32) (0 : Int32) I)

def fX2_dropBirds_L4 (j1 : Nat) : Nat → Int32 → Int32 → zxI → Option (Int32 × zxI)
  | 0, _, _, _ => none
  | n4 + 1, v2, v3, I => (if (I 10 0) ≤ v3 then
 (some (v2, (zxU I (zaO j1) 1 ((I (zaO j1) 1) ||| v2)))) else
 (zxB (fX0_isDown j1 v3 I) (fun (r_2 : Int32) (I_2 : zxI) =>
 (if r_2 = 0 then
 (if zxIn v3 6 = true then
 (zxB (fX2_bears v3 I_2) (fun (r_5 : Int32) (I_5 : zxI) =>
 (if (I_2 (zaF j1) v3.toNatClampNeg) ≤ r_5 then
 (fX2_dropBirds_L4 j1 n4 v2 (v3 + (1 : Int32)) I_5) else
 (fX2_dropBirds_L4 j1 n4 (v2 ||| ((1 : Int32) <<< (v3 &&& 31))) (v3 + (1 : Int32)) I_5)))) else none) else
 (fX2_dropBirds_L4 j1 n4 v2 (v3 + (1 : Int32)) I_2)))))
def fX2_dropBirds (j1 : Nat) (I : zxI) : Option (Int32 × zxI) :=
  (fX2_dropBirds_L4 j1 1000 (0 : Int32) (0 : Int32) I)

def fX2_breatheHushed (j1 : Nat) (x2 : Int32) (I : zxI) : Option (Int32 × zxI) :=
  (zxB (fX2_passAir j1 x2 I) (fun (r_1 : Int32) (I_1 : zxI) =>
 (zxB (fX2_dropBirds j1 I_1) (fun (r_2 : Int32) (I_2 : zxI) =>
 (some (r_2, I_2))))))

def fX2_breathe (j1 : Nat) (x2 : Int32) (x3 : Int32) (x4 : Int32) (I : zxI) : Option (Int32 × zxI) :=
  (if zxIn x3 6 = true then
 (if zxIn x4 4 = true then
 (zxB (fX2_breatheHushed j1 x2 (zxU I (zaF j1) x3.toNatClampNeg (if (0 : Int32) < (if (((I (zaF j1) x3.toNatClampNeg) + (I 11 x4.toNatClampNeg)) - (4 : Int32)) < (40 : Int32) then (((I (zaF j1) x3.toNatClampNeg) + (I 11 x4.toNatClampNeg)) - (4 : Int32)) else (40 : Int32)) then (if (((I (zaF j1) x3.toNatClampNeg) + (I 11 x4.toNatClampNeg)) - (4 : Int32)) < (40 : Int32) then (((I (zaF j1) x3.toNatClampNeg) + (I 11 x4.toNatClampNeg)) - (4 : Int32)) else (40 : Int32)) else (0 : Int32)))) (fun (r_4 : Int32) (I_4 : zxI) =>
 (some (r_4, I_4)))) else none) else none)

def fX3_write (x1 : Int32) (x2 : Int32) (x3 : Int32) (I : zxI) : Option (Int32 × zxI) :=
  (if zxIn (I 31 0) 8 = true then
 (some ((I 31 0), (zxU (zxU (zxU (zxU I 32 (I 31 0).toNatClampNeg x1) 33 (I 31 0).toNatClampNeg x2) 34 (I 31 0).toNatClampNeg x3) 31 0 (((zxU (zxU (zxU I 32 (I 31 0).toNatClampNeg x1) 33 (I 31 0).toNatClampNeg x2) 34 (I 31 0).toNatClampNeg x3) 31 0) + (1 : Int32))))) else none)

def fX3_areSo_L3  : Nat → Int32 → Int32 → Int32 → zxI → Option (Int32 × zxI)
  | 0, _, _, _, _ => none
  | n3 + 1, v2, v3, v4, I => (if (I 31 0) ≤ v4 then
 (some ((1 : Int32), I)) else
 (if zxIn v4 8 = true then
 (if (I 32 v4.toNatClampNeg) = v2 then
 (if (I 33 v4.toNatClampNeg) ≤ v3 then
 (if (0 : Int32) = (I 34 v4.toNatClampNeg) then
 (fX3_areSo_L3 n3 v2 v3 (v4 + (1 : Int32)) I) else
 (some ((0 : Int32), I))) else
 (if (1 : Int32) = (I 34 v4.toNatClampNeg) then
 (fX3_areSo_L3 n3 v2 v3 (v4 + (1 : Int32)) I) else
 (some ((0 : Int32), I)))) else
 (zxB (fX2_bears (I 32 v4.toNatClampNeg) I) (fun (r_5 : Int32) (I_5 : zxI) =>
 (if (I_5 33 v4.toNatClampNeg) ≤ r_5 then
 (if (0 : Int32) = (I_5 34 v4.toNatClampNeg) then
 (fX3_areSo_L3 n3 v2 v3 (v4 + (1 : Int32)) I_5) else
 (some ((0 : Int32), I_5))) else
 (if (1 : Int32) = (I_5 34 v4.toNatClampNeg) then
 (fX3_areSo_L3 n3 v2 v3 (v4 + (1 : Int32)) I_5) else
 (some ((0 : Int32), I_5))))))) else none))
def fX3_areSo (x2 : Int32) (x3 : Int32) (I : zxI) : Option (Int32 × zxI) :=
  (fX3_areSo_L3 1000 x2 x3 (0 : Int32) I)

def fX4_keep (x1 : Int32) (I : zxI) : Option zxI :=
  (if ¬ (0 : Int32) < 0 ∧ ¬ (0 : Int32) < 0 ∧ ¬ (6 : Int32) < 0 ∧ (0 : Int32).toNatClampNeg + (6 : Int32).toNatClampNeg ≤ 6 ∧ (0 : Int32).toNatClampNeg + (6 : Int32).toNatClampNeg ≤ 6 then
 (some (zxC (zxU I 39 2 x1) 40 41 (0 : Int32).toNatClampNeg (0 : Int32).toNatClampNeg (6 : Int32).toNatClampNeg)) else none)

def fX5_begin_L17 (k0 : Nat) : Nat → Int32 → zxI → Option zxI
  | 0, _, _ => none
  | n17 + 1, v3, I => (if (60 : Int32) ≤ v3 then
 (some I) else
 (if zxIn v3 60 = true then
 (fX5_begin_L17 k0 n17 (v3 + (1 : Int32)) (zxU I (zsC k0) v3.toNatClampNeg (0 : Int32))) else none))
def fX5_begin (k0 : Nat) (x1 : Int32) (x2 : Int32) (I : zxI) : Option zxI :=
  (fX5_begin_L17 k0 1000 (0 : Int32) (zxU (zxU (zxU I (zsO k0) 0 (1 : Int32)) (zsO k0) 1 x1) (zsO k0) 3 x2))

def fX5_hasCells (k0 : Nat) (x1 : Int32) (x2 : Int32) (I : zxI) : Option (Int32 × zxI) :=
  (if x1 < 0 then
 (some ((0 : Int32), I)) else
 (if (I (zsO k0) 3) < x1 then
 (some ((0 : Int32), I)) else
 (if ((I (zsO k0) 3) - x1) < x2 then
 (some ((0 : Int32), I)) else
 (some ((1 : Int32), I)))))

def fX5_faultOfCells (k0 : Nat) (x1 : Int32) (x2 : Int32) (x3 : Int32) (I : zxI) : Option (Int32 × zxI) :=
  (if (I (zsO k0) 0) = 0 then
 (some ((1 : Int32), I)) else
 (if (I (zsO k0) 1) = x1 then
 (if 0 ≤ x3 then
 (zxB (fX5_hasCells k0 x2 x3 I) (fun (r_4 : Int32) (I_4 : zxI) =>
 (if r_4 = 0 then
 (some ((3 : Int32), I_4)) else
 (some ((0 : Int32), I_4))))) else
 (some ((4 : Int32), I))) else
 (some ((2 : Int32), I))))

def fX6_isSheet (x0 : Int32) (I : zxI) : Option (Int32 × zxI) :=
  (if x0 < 0 then
 (some ((0 : Int32), I)) else
 (if (4 : Int32) ≤ x0 then
 (some ((0 : Int32), I)) else
 (some ((1 : Int32), I))))

def fX6_isLane (x0 : Int32) (I : zxI) : Option (Int32 × zxI) :=
  (if x0 < 0 then
 (some ((0 : Int32), I)) else
 (if (3 : Int32) ≤ x0 then
 (some ((0 : Int32), I)) else
 (some ((1 : Int32), I))))

def fX6_faulted (x1 : Int32) (I : zxI) : Option (Int32 × zxI) :=
  (some (((-10 : Int32) - x1), (zxU I 0 10 x1)))

def fX6_isDigit (x0 : Int32) (x1 : Int32) (x2 : Int32) (I : zxI) : Option (Int32 × zxI) :=
  (if x0 < ((48 : Int32) + x1) then
 (some ((0 : Int32), I)) else
 (if ((48 : Int32) + x2) < x0 then
 (some ((0 : Int32), I)) else
 (some ((1 : Int32), I))))

def fX6_wordsOfText_L2 (k0 : Nat) : Nat → Int32 → Int32 → Int32 → zxI → Option (Int32 × zxI)
  | 0, _, _, _, _ => none
  | n2 + 1, v1, v2, v3, I => (if (4 : Int32) ≤ v3 then
 (some (v3, I)) else
 (if v2 ≤ ((1 : Int32) + v3) then
 (some (v3, I)) else
 (if zxIn ((v1 + (1 : Int32)) + v3) 60 = true then
 (zxB (fX6_isDigit (I (zsC k0) ((v1 + (1 : Int32)) + v3).toNatClampNeg) (0 : Int32) (9 : Int32) I) (fun (r_4 : Int32) (I_4 : zxI) =>
 (if r_4 = 0 then
 (some (v3, I_4)) else
 (fX6_wordsOfText_L2 k0 n2 v1 v2 (v3 + (1 : Int32)) I_4)))) else none)))
def fX6_wordsOfText (k0 : Nat) (x1 : Int32) (x2 : Int32) (I : zxI) : Option (Int32 × zxI) :=
  (fX6_wordsOfText_L2 k0 1000 x1 x2 (0 : Int32) I)

def fX6_kindOfLetter (x0 : Int32) (I : zxI) : Option (Int32 × zxI) :=
  (if x0 = (98 : Int32) then
 (some ((2 : Int32), I)) else
 (if x0 = (103 : Int32) then
 (some ((0 : Int32), I)) else
 (if x0 = (110 : Int32) then
 (some ((1 : Int32), I)) else
 (some ((-9 : Int32), I)))))

def fX6_fitsGallery (x0 : Int32) (x1 : Int32) (I : zxI) : Option (Int32 × zxI) :=
  (if x0 = (0 : Int32) then
 (if x1 = (59 : Int32) then
 (some ((1 : Int32), I)) else
 (some ((0 : Int32), I))) else
 (if x0 = (1 : Int32) then
 (zxB (fX6_kindOfLetter x1 I) (fun (r_6 : Int32) (I_6 : zxI) =>
 (if r_6 = (-9 : Int32) then
 (some ((0 : Int32), I_6)) else
 (some ((1 : Int32), I_6))))) else
 (if x0 = (2 : Int32) then
 (zxB (fX6_isDigit x1 (0 : Int32) (9 : Int32) I) (fun (r_8 : Int32) (I_8 : zxI) =>
 (if r_8 = 0 ∨ r_8 = 1 then
 (some (r_8, I_8)) else none))) else
 (if x0 = (3 : Int32) then
 (zxB (fX6_isDigit x1 (1 : Int32) (9 : Int32) I) (fun (r_10 : Int32) (I_10 : zxI) =>
 (if r_10 = 0 ∨ r_10 = 1 then
 (some (r_10, I_10)) else none))) else
 (zxB (fX6_isDigit x1 (0 : Int32) (1 : Int32) I) (fun (r_12 : Int32) (I_12 : zxI) =>
 (if r_12 = 0 ∨ r_12 = 1 then
 (some (r_12, I_12)) else none)))))))

def fX6_firstFaultOfText_L60 (kk : Int32 → Int32 → Int32 → Int32 → zxI → Option (Int32 × zxI)) (k0 : Nat) : Nat → Int32 → Int32 → Int32 → Int32 → Int32 → zxI → Option (Int32 × zxI)
  | 0, _, _, _, _, _, _ => none
  | n60 + 1, v1, v2, v4, v5, v6, I => (if (5 : Int32) ≤ v6 then
 (kk v1 v2 v4 (v5 + (1 : Int32)) I) else
 (if v4 = v2 then
 (some (v4, I)) else
 (if zxIn (v1 + v4) 60 = true then
 (zxB (fX6_fitsGallery v6 (I (zsC k0) (v1 + v4).toNatClampNeg) I) (fun (r_12 : Int32) (I_12 : zxI) =>
 (if r_12 = 0 then
 (some (v4, I_12)) else
 (fX6_firstFaultOfText_L60 kk k0 n60 v1 v2 (v4 + (1 : Int32)) v5 (v6 + (1 : Int32)) I_12)))) else none)))
def fX6_firstFaultOfText_L35 (k0 : Nat) : Nat → Int32 → Int32 → Int32 → Int32 → zxI → Option (Int32 × zxI)
  | 0, _, _, _, _, _ => none
  | n35 + 1, v1, v2, v4, v5, I => (if (6 : Int32) ≤ v5 then
 (if v4 = v2 then
 (some ((-9 : Int32), I)) else
 (some (v4, I))) else
 (if v4 = v2 then
 (if v5 < (2 : Int32) then
 (fX6_firstFaultOfText_L60 (fun a0 a1 a2 a3 I => (fX6_firstFaultOfText_L35 k0 n35 a0 a1 a2 a3 I)) k0 1000 v1 v2 v4 v5 (0 : Int32) I) else
 (some ((-9 : Int32), I))) else
 (fX6_firstFaultOfText_L60 (fun a0 a1 a2 a3 I => (fX6_firstFaultOfText_L35 k0 n35 a0 a1 a2 a3 I)) k0 1000 v1 v2 v4 v5 (0 : Int32) I)))
def fX6_firstFaultOfText (k0 : Nat) (x1 : Int32) (x2 : Int32) (I : zxI) : Option (Int32 × zxI) :=
  (if x2 = 0 then
 (some ((0 : Int32), I)) else
 (if zxIn x1 60 = true then
 (if (I (zsC k0) x1.toNatClampNeg) = (109 : Int32) then
 (zxB (fX6_wordsOfText k0 x1 x2 I) (fun (r_4 : Int32) (I_4 : zxI) =>
 (if r_4 = 0 then
 (some ((1 : Int32), I_4)) else
 (fX6_firstFaultOfText_L35 k0 1000 x1 x2 ((1 : Int32) + r_4) (0 : Int32) I_4)))) else
 (some ((0 : Int32), I))) else none))

def fX6_isDoor (x1 : Int32) (I : zxI) : Option (Int32 × zxI) :=
  (if x1 < 0 then
 (some ((0 : Int32), I)) else
 (if ((I 10 0) - (1 : Int32)) ≤ x1 then
 (some ((0 : Int32), I)) else
 (some ((1 : Int32), I))))

def fX6_makeAnew_L95 (k1 : Nat) : Nat → Int32 → Int32 → Int32 → zxI → Option zxI
  | 0, _, _, _, _ => none
  | n95 + 1, v2, v4, v5, I => (if (I 10 0) ≤ v5 then
 (some (zxU (zxU (zxU I (zaO 0) 1 (0 : Int32)) 0 8 (0 : Int32)) 31 0 (0 : Int32))) else
 (if zxIn (((v2 + v4) + ((5 : Int32) * v5)) + (1 : Int32)) 60 = true then
 (zxB (fX6_kindOfLetter (I (zsC k1) (((v2 + v4) + ((5 : Int32) * v5)) + (1 : Int32)).toNatClampNeg) I) (fun (r_6 : Int32) (I_6 : zxI) =>
 (if zxIn v5 6 = true then
 (if zxIn (((v2 + v4) + ((5 : Int32) * v5)) + (2 : Int32)) 60 = true then
 (if zxIn (((v2 + v4) + ((5 : Int32) * v5)) + (3 : Int32)) 60 = true then
 (zxB (fX6_isDoor v5 (zxU (zxU (zxU I_6 12 v5.toNatClampNeg r_6) (zaF 0) v5.toNatClampNeg (((zxU I_6 12 v5.toNatClampNeg r_6) (zsC k1) (((v2 + v4) + ((5 : Int32) * v5)) + (2 : Int32)).toNatClampNeg) - (48 : Int32))) 13 v5.toNatClampNeg (((zxU (zxU I_6 12 v5.toNatClampNeg r_6) (zaF 0) v5.toNatClampNeg (((zxU I_6 12 v5.toNatClampNeg r_6) (zsC k1) (((v2 + v4) + ((5 : Int32) * v5)) + (2 : Int32)).toNatClampNeg) - (48 : Int32))) (zsC k1) (((v2 + v4) + ((5 : Int32) * v5)) + (3 : Int32)).toNatClampNeg) - (48 : Int32)))) (fun (r_12 : Int32) (I_12 : zxI) =>
 (if r_12 = 0 then
 (fX6_makeAnew_L95 k1 n95 v2 v4 (v5 + (1 : Int32)) I_12) else
 (if zxIn (((v2 + v4) + ((5 : Int32) * v5)) + (4 : Int32)) 60 = true then
 (fX6_makeAnew_L95 k1 n95 v2 v4 (v5 + (1 : Int32)) (zxU I_12 10 5 ((I_12 10 5) ||| (((I_12 (zsC k1) (((v2 + v4) + ((5 : Int32) * v5)) + (4 : Int32)).toNatClampNeg) - (48 : Int32)) <<< (v5 &&& 31))))) else none)))) else none) else none) else none))) else none))
def fX6_makeAnew_L16 (k1 : Nat) : Nat → Int32 → Int32 → Int32 → zxI → Option zxI
  | 0, _, _, _, _ => none
  | n16 + 1, v2, v3, v4, I => (if (I 10 1) ≤ v4 then
 (if ¬ (5 : Int32) = 0 then
 (fX6_makeAnew_L95 k1 1000 v2 ((1 : Int32) + (I 10 1)) (0 : Int32) (zxU (zxU I 10 0 (if (6 : Int32) < ((v3 - ((1 : Int32) + (I 10 1))) / (5 : Int32)) then (6 : Int32) else ((v3 - ((1 : Int32) + (I 10 1))) / (5 : Int32)))) 10 5 (0 : Int32))) else none) else
 (if zxIn ((v2 + (1 : Int32)) + v4) 60 = true then
 (if zxIn v4 4 = true then
 (fX6_makeAnew_L16 k1 n16 v2 v3 (v4 + (1 : Int32)) (zxU I 11 v4.toNatClampNeg ((I (zsC k1) ((v2 + (1 : Int32)) + v4).toNatClampNeg) - (48 : Int32)))) else none) else none))
def fX6_makeAnew (k1 : Nat) (x2 : Int32) (x3 : Int32) (I : zxI) : Option zxI :=
  (zxB (fX6_wordsOfText k1 x2 x3 I) (fun (r_1 : Int32) (I_1 : zxI) =>
 (fX6_makeAnew_L16 k1 1000 x2 x3 (0 : Int32) (zxU I_1 10 1 r_1))))

def fX6_mine (x1 : Int32) (x2 : Int32) (x3 : Int32) (x4 : Int32) (I : zxI) : Option (Int32 × zxI) :=
  (zxB (fX6_isSheet x1 (zxU I 0 10 (0 : Int32))) (fun (r_1 : Int32) (I_1 : zxI) =>
 (if r_1 = 0 then
 (some ((-1 : Int32), I_1)) else
 (zxB (fX6_isLane x2 I_1) (fun (r_3 : Int32) (I_3 : zxI) =>
 (if r_3 = 0 then
 (some ((-2 : Int32), I_3)) else
 (if zxIn x1 4 = true then
 (zxB (fX5_faultOfCells (x1.toNatClampNeg) x2 x3 x4 I_3) (fun (r_6 : Int32) (I_6 : zxI) =>
 (if r_6 = 0 then
 (zxB (fX6_firstFaultOfText (x1.toNatClampNeg) x3 x4 I_6) (fun (r_8 : Int32) (I_8 : zxI) =>
 (if r_8 = (-9 : Int32) then
 (zxV (fX6_makeAnew (x1.toNatClampNeg) x3 x4 I_8) (fun (I_10 : zxI) =>
 (some ((I_10 10 0), I_10)))) else
 (some (((-100 : Int32) - r_8), I_8))))) else
 (zxB (fX6_faulted r_6 I_6) (fun (r_11 : Int32) (I_11 : zxI) =>
 (some (r_11, I_11))))))) else none)))))))

def fX6_isGallery (x1 : Int32) (I : zxI) : Option (Int32 × zxI) :=
  (if x1 < 0 then
 (some ((0 : Int32), I)) else
 (if (I 10 0) ≤ x1 then
 (some ((0 : Int32), I)) else
 (some ((1 : Int32), I))))

def fX6_ofGallery (x1 : Int32) (x2 : Int32) (I : zxI) : Option (Int32 × zxI) :=
  (zxB (fX6_isGallery x1 I) (fun (r_1 : Int32) (I_1 : zxI) =>
 (if r_1 = 0 then
 (some ((-1 : Int32), I_1)) else
 (if x2 = (0 : Int32) then
 (if zxIn x1 6 = true then
 (some ((I_1 12 x1.toNatClampNeg), I_1)) else none) else
 (if x2 = (1 : Int32) then
 (if zxIn x1 6 = true then
 (some ((I_1 (zaF 0) x1.toNatClampNeg), I_1)) else none) else
 (if x2 = (2 : Int32) then
 (if zxIn x1 6 = true then
 (some ((I_1 13 x1.toNatClampNeg), I_1)) else none) else
 (if x2 = (3 : Int32) then
 (zxB (fX2_bears x1 I_1) (fun (r_12 : Int32) (I_12 : zxI) =>
 (some (r_12, I_12)))) else
 (if x2 = (4 : Int32) then
 (some ((((I_1 (zaO 0) 1) >>> (x1 &&& 31)) &&& (1 : Int32)), I_1)) else
 (if x2 = (5 : Int32) then
 (zxB (fX6_isDoor x1 I_1) (fun (r_13 : Int32) (I_13 : zxI) =>
 (if r_13 = 0 then
 (some ((-9 : Int32), I_13)) else
 (some ((((I_13 10 5) >>> (x1 &&& 31)) &&& (1 : Int32)), I_13))))) else
 (some ((-2 : Int32), I_1)))))))))))

def fX6_isWord (x1 : Int32) (I : zxI) : Option (Int32 × zxI) :=
  (if x1 < 0 then
 (some ((0 : Int32), I)) else
 (if (I 10 1) ≤ x1 then
 (some ((0 : Int32), I)) else
 (some ((1 : Int32), I))))

def fX6_bad (x1 : Int32) (I : zxI) : Option (Int32 × zxI) :=
  (zxB (fX6_isWord x1 I) (fun (r_1 : Int32) (I_1 : zxI) =>
 (if r_1 = 0 then
 (some ((-1 : Int32), I_1)) else
 (if zxIn x1 4 = true then
 (some ((I_1 11 x1.toNatClampNeg), I_1)) else none))))

def fX6_isFoul (x0 : Int32) (I : zxI) : Option (Int32 × zxI) :=
  (if x0 < 0 then
 (some ((0 : Int32), I)) else
 (if (40 : Int32) < x0 then
 (some ((0 : Int32), I)) else
 (some ((1 : Int32), I))))

def fX6_foul (x1 : Int32) (x2 : Int32) (I : zxI) : Option (Int32 × zxI) :=
  (zxB (fX6_isGallery x1 I) (fun (r_1 : Int32) (I_1 : zxI) =>
 (if r_1 = 0 then
 (some ((-1 : Int32), I_1)) else
 (zxB (fX6_isFoul x2 I_1) (fun (r_3 : Int32) (I_3 : zxI) =>
 (if r_3 = 0 then
 (some ((-2 : Int32), I_3)) else
 (if zxIn x1 6 = true then
 (some ((I_3 (zaF 0) x1.toNatClampNeg), (zxU I_3 (zaF 0) x1.toNatClampNeg x2))) else none)))))))

def fX6_breed (x1 : Int32) (x2 : Int32) (I : zxI) : Option (Int32 × zxI) :=
  (zxB (fX6_isGallery x1 I) (fun (r_1 : Int32) (I_1 : zxI) =>
 (if r_1 = 0 then
 (some ((-1 : Int32), I_1)) else
 (if x2 < (1 : Int32) then
 (some ((-2 : Int32), I_1)) else
 (if x2 ≤ (9 : Int32) then
 (if zxIn x1 6 = true then
 (some ((I_1 13 x1.toNatClampNeg), (zxU I_1 13 x1.toNatClampNeg x2))) else none) else
 (some ((-2 : Int32), I_1)))))))

def fX6_door (x1 : Int32) (x2 : Int32) (I : zxI) : Option (Int32 × zxI) :=
  (zxB (fX6_isDoor x1 I) (fun (r_1 : Int32) (I_1 : zxI) =>
 (if r_1 = 0 then
 (some ((-1 : Int32), I_1)) else
 (if x2 = 0 then
 (some ((((I_1 10 5) >>> (x1 &&& 31)) &&& (1 : Int32)), (zxU I_1 10 5 (((I_1 10 5) &&& (((1 : Int32) <<< (x1 &&& 31)) ^^^ (-1 : Int32))) ||| (x2 <<< (x1 &&& 31)))))) else
 (if x2 = (1 : Int32) then
 (some ((((I_1 10 5) >>> (x1 &&& 31)) &&& (1 : Int32)), (zxU I_1 10 5 (((I_1 10 5) &&& (((1 : Int32) <<< (x1 &&& 31)) ^^^ (-1 : Int32))) ||| (x2 <<< (x1 &&& 31)))))) else
 (some ((-2 : Int32), I_1)))))))

def fX6_say (x1 : Int32) (x2 : Int32) (I : zxI) : Option (Int32 × zxI) :=
  (zxB (fX6_isGallery x1 I) (fun (r_1 : Int32) (I_1 : zxI) =>
 (if r_1 = 0 then
 (some ((-1 : Int32), I_1)) else
 (zxB (fX6_isWord x2 I_1) (fun (r_3 : Int32) (I_3 : zxI) =>
 (if r_3 = 0 then
 (some ((-1 : Int32), I_3)) else
 (zxB (fX2_breathe 0 ((zxU I_3 0 8 ((I_3 0 8) + (1 : Int32))) 10 5) x1 x2 (zxU I_3 0 8 ((I_3 0 8) + (1 : Int32)))) (fun (r_5 : Int32) (I_5 : zxI) =>
 (some (r_5, I_5))))))))))

def fX6_hasMine (I : zxI) : Option (Int32 × zxI) :=
  (if (I 10 0) ≤ 0 then
 (some ((0 : Int32), I)) else
 (some ((1 : Int32), I)))

def fX6_hush_L28  : Nat → Int32 → Int32 → Int32 → zxI → Option (Int32 × zxI)
  | 0, _, _, _, _ => none
  | n28 + 1, v1, v2, v3, I => (if v1 ≤ v3 then
 (some (v2, (zxU I 0 8 ((I 0 8) + v1)))) else
 (zxB (fX2_breatheHushed 0 (I 10 5) I) (fun (r_6 : Int32) (I_6 : zxI) =>
 (fX6_hush_L28 n28 v1 (v2 ||| r_6) (v3 + (1 : Int32)) I_6))))
def fX6_hush (x1 : Int32) (I : zxI) : Option (Int32 × zxI) :=
  (if x1 < (1 : Int32) then
 (some ((-2 : Int32), I)) else
 (if x1 ≤ (30 : Int32) then
 (zxB (fX6_hasMine I) (fun (r_3 : Int32) (I_3 : zxI) =>
 (if r_3 = 0 then
 (some ((-3 : Int32), I_3)) else
 (fX6_hush_L28 1000 x1 (0 : Int32) (0 : Int32) I_3)))) else
 (some ((-2 : Int32), I))))

def fJ6_bitCount_0f7a4 (x0 : Int32) (I : zxI) : Option (Int32 × zxI) :=
  (zxL (x0 - (((x0.toUInt32 >>> ((1 : Int32).toUInt32 &&& Int32.toUInt32 31)).toInt32) &&& (1431655765 : Int32))) (fun (z_1 : Int32) =>
 (zxL ((z_1 &&& (858993459 : Int32)) + (((z_1.toUInt32 >>> ((2 : Int32).toUInt32 &&& Int32.toUInt32 31)).toInt32) &&& (858993459 : Int32))) (fun (z_2 : Int32) =>
 (zxL ((z_2 + ((z_2.toUInt32 >>> ((4 : Int32).toUInt32 &&& Int32.toUInt32 31)).toInt32)) &&& (252645135 : Int32)) (fun (z_3 : Int32) =>
 (zxL (z_3 + ((z_3.toUInt32 >>> ((8 : Int32).toUInt32 &&& Int32.toUInt32 31)).toInt32)) (fun (z_4 : Int32) =>
 (zxL (z_4 + ((z_4.toUInt32 >>> ((16 : Int32).toUInt32 &&& Int32.toUInt32 31)).toInt32)) (fun (z_5 : Int32) =>
 (some ((z_5 &&& (63 : Int32)), I))))))))))))

def fX6_blow (x1 : Int32) (I : zxI) : Option (Int32 × zxI) :=
  (zxB (fX6_isGallery x1 I) (fun (r_1 : Int32) (I_1 : zxI) =>
 (if r_1 = 0 then
 (some ((-1 : Int32), I_1)) else
 (zxB (fX0_isDown 0 x1 I_1) (fun (r_3 : Int32) (I_3 : zxI) =>
 (if r_3 = 0 then
 (some ((-3 : Int32), I_3)) else
 (if zxIn x1 6 = true then
 (zxB (fX2_bears x1 I_3) (fun (r_6 : Int32) (I_6 : zxI) =>
 (if (I_3 (zaF 0) x1.toNatClampNeg) ≤ r_6 then
 (zxB (fJ6_bitCount_0f7a4 ((zxU I_6 (zaO 0) 1 ((I_6 (zaO 0) 1) &&& (((1 : Int32) <<< (x1 &&& 31)) ^^^ (-1 : Int32)))) (zaO 0) 1) (zxU I_6 (zaO 0) 1 ((I_6 (zaO 0) 1) &&& (((1 : Int32) <<< (x1 &&& 31)) ^^^ (-1 : Int32))))) (fun (r_8 : Int32) (I_8 : zxI) =>
 (some (r_8, I_8)))) else
 (some ((-3 : Int32), I_6))))) else none)))))))

def fX6_isOfShift (x0 : Int32) (I : zxI) : Option (Int32 × zxI) :=
  (if x0 < 0 then
 (if x0 < (10 : Int32) then
 (some ((0 : Int32), I)) else
 (if (16 : Int32) ≤ x0 then
 (some ((0 : Int32), I)) else
 (some ((1 : Int32), I)))) else
 (if x0 ≤ (3 : Int32) then
 (some ((1 : Int32), I)) else
 (if x0 < (10 : Int32) then
 (some ((0 : Int32), I)) else
 (if (16 : Int32) ≤ x0 then
 (some ((0 : Int32), I)) else
 (some ((1 : Int32), I))))))

def fX6_takePairs_L37 (k1 : Nat) : Nat → Int32 → Int32 → Int32 → zxI → Option (Int32 × zxI)
  | 0, _, _, _, _ => none
  | n37 + 1, v3, v4, v6, I => (if v4 ≤ v6 then
 (some ((0 : Int32), (zxU I 35 0 v4))) else
 (if zxIn (v3 + ((2 : Int32) * v6)) 60 = true then
 (if zxIn ((v3 + ((2 : Int32) * v6)) + (1 : Int32)) 60 = true then
 (zxB (fX6_isGallery (I (zsC k1) (v3 + ((2 : Int32) * v6)).toNatClampNeg) I) (fun (r_8 : Int32) (I_8 : zxI) =>
 (if r_8 = 0 then
 (some ((-1 : Int32), I_8)) else
 (zxB (fX6_isWord (I (zsC k1) ((v3 + ((2 : Int32) * v6)) + (1 : Int32)).toNatClampNeg) I_8) (fun (r_10 : Int32) (I_10 : zxI) =>
 (if r_10 = 0 then
 (some ((-1 : Int32), I_10)) else
 (if zxIn v6 20 = true then
 (fX6_takePairs_L37 k1 n37 v3 v4 (v6 + (1 : Int32)) (zxU (zxU I_10 36 v6.toNatClampNeg (I (zsC k1) (v3 + ((2 : Int32) * v6)).toNatClampNeg)) 37 v6.toNatClampNeg (I (zsC k1) ((v3 + ((2 : Int32) * v6)) + (1 : Int32)).toNatClampNeg))) else none))))))) else none) else none))
def fX6_takePairs (k1 : Nat) (x2 : Int32) (x3 : Int32) (x4 : Int32) (I : zxI) : Option (Int32 × zxI) :=
  (zxB (fX5_faultOfCells k1 x2 x3 ((2 : Int32) * x4) I) (fun (r_1 : Int32) (I_1 : zxI) =>
 (if r_1 = 0 then
 (zxB (fX6_hasMine I_1) (fun (r_3 : Int32) (I_3 : zxI) =>
 (if r_3 = 0 then
 (some ((-3 : Int32), I_3)) else
 (fX6_takePairs_L37 k1 1000 x3 x4 (0 : Int32) I_3)))) else
 (zxB (fX6_faulted r_1 I_1) (fun (r_14 : Int32) (I_14 : zxI) =>
 (some (r_14, I_14)))))))

def fX6_foulTogether_L4 (j1 : Nat) : Nat → Int32 → Int32 → zxI → Option (Int32 × zxI)
  | 0, _, _, _ => none
  | n4 + 1, v2, v3, I => (if (I 10 0) ≤ v3 then
 (some (v2, I)) else
 (if zxIn v3 6 = true then
 (fX6_foulTogether_L4 j1 n4 (v2 + (I (zaF j1) v3.toNatClampNeg)) (v3 + (1 : Int32)) I) else none))
def fX6_foulTogether (j1 : Nat) (I : zxI) : Option (Int32 × zxI) :=
  (fX6_foulTogether_L4 j1 1000 (0 : Int32) (0 : Int32) I)

def fX6_shift_L95  : Nat → Int32 → Int32 → Int32 → Int32 → zxI → Option (Int32 × zxI)
  | 0, _, _, _, _, _ => none
  | n95 + 1, v5, v8, v9, v10, I => (if (I 35 0) ≤ v10 then
 (if v5 = (0 : Int32) then
 (zxB (fJ6_bitCount_0f7a4 v8 I) (fun (r_19 : Int32) (I_19 : zxI) =>
 (some (r_19, I_19)))) else
 (if v5 = (1 : Int32) then
 (some (v9, I)) else
 (if v5 = (2 : Int32) then
 (some ((I (zaO 1) 1), I)) else
 (if v5 = (3 : Int32) then
 (zxB (fX6_foulTogether 1 I) (fun (r_20 : Int32) (I_20 : zxI) =>
 (some (r_20, I_20)))) else
 (zxB (fX6_isGallery (v5 - (10 : Int32)) I) (fun (r_21 : Int32) (I_21 : zxI) =>
 (if r_21 = 0 then
 (some ((-9 : Int32), I_21)) else
 (if zxIn (v5 - (10 : Int32)) 6 = true then
 (some ((I_21 (zaF 1) (v5 - (10 : Int32)).toNatClampNeg), I_21)) else none)))))))) else
 (if zxIn v10 20 = true then
 (zxB (fX2_breathe 1 (I 10 5) (I 36 v10.toNatClampNeg) (I 37 v10.toNatClampNeg) I) (fun (r_26 : Int32) (I_26 : zxI) =>
 (if r_26 = 0 then
 (fX6_shift_L95 n95 v5 (v8 ||| r_26) v9 (v10 + (1 : Int32)) I_26) else
 (if v9 = (-9 : Int32) then
 (fX6_shift_L95 n95 v5 (v8 ||| r_26) v10 (v10 + (1 : Int32)) I_26) else
 (fX6_shift_L95 n95 v5 (v8 ||| r_26) v9 (v10 + (1 : Int32)) I_26))))) else none))
def fX6_shift (x1 : Int32) (x2 : Int32) (x3 : Int32) (x4 : Int32) (x5 : Int32) (I : zxI) : Option (Int32 × zxI) :=
  (zxB (fX6_isSheet x1 (zxU I 0 10 (0 : Int32))) (fun (r_1 : Int32) (I_1 : zxI) =>
 (if r_1 = 0 then
 (some ((-1 : Int32), I_1)) else
 (zxB (fX6_isLane x2 I_1) (fun (r_3 : Int32) (I_3 : zxI) =>
 (if r_3 = 0 then
 (some ((-2 : Int32), I_3)) else
 (if x4 < 0 then
 (some ((-2 : Int32), I_3)) else
 (if (20 : Int32) < x4 then
 (some ((-2 : Int32), I_3)) else
 (zxB (fX6_isOfShift x5 I_3) (fun (r_7 : Int32) (I_7 : zxI) =>
 (if r_7 = 0 then
 (some ((-2 : Int32), I_7)) else
 (if zxIn x1 4 = true then
 (zxB (fX6_takePairs (x1.toNatClampNeg) x2 x3 x4 I_7) (fun (r_10 : Int32) (I_10 : zxI) =>
 (if r_10 = 0 then
 (zxV (fX0_becomeLike 1 0 I_10) (fun (I_13 : zxI) =>
 (fX6_shift_L95 1000 x5 (0 : Int32) (-9 : Int32) (0 : Int32) I_13))) else
 (some (r_10, I_10))))) else none))))))))))))

def fX6_endsOrder_L21 (rec : Int32 → Int32 → zxI → Option (Int32 × zxI)) : Nat → Int32 → Int32 → Int32 → zxI → Option (Int32 × zxI)
  | 0, _, _, _, _ => none
  | n21 + 1, v4, v5, v6, I => (if (I 35 0) ≤ v6 then
 (some ((0 : Int32), I)) else
 (if ((v5 >>> (v6 &&& 31)) &&& (1 : Int32)) = 0 then
 (if zxIn (v4 + (1 : Int32)) 7 = true then
 (if zxIn v4 7 = true then
 (zxV (fX0_becomeLike ((v4 + (1 : Int32)).toNatClampNeg + 1) (v4.toNatClampNeg + 1) I) (fun (I_7 : zxI) =>
 (if zxIn v4 6 = true then
 (if zxIn v6 20 = true then
 (zxB (fX2_breathe ((v4 + (1 : Int32)).toNatClampNeg + 1) ((zxU I_7 38 v4.toNatClampNeg v6) 10 5) ((zxU I_7 38 v4.toNatClampNeg v6) 36 v6.toNatClampNeg) ((zxU I_7 38 v4.toNatClampNeg v6) 37 v6.toNatClampNeg) (zxU I_7 38 v4.toNatClampNeg v6)) (fun (r_11 : Int32) (I_11 : zxI) =>
 (if r_11 = 0 then
 (zxB (rec (v4 + (1 : Int32)) (v5 ||| ((1 : Int32) <<< (v6 &&& 31))) I_11) (fun (r_13 : Int32) (I_13 : zxI) =>
 (if r_13 = 0 then
 (fX6_endsOrder_L21 rec n21 v4 v5 (v6 + (1 : Int32)) I_13) else
 (some ((1 : Int32), I_13))))) else
 (fX6_endsOrder_L21 rec n21 v4 v5 (v6 + (1 : Int32)) I_11)))) else none) else none))) else none) else none) else
 (fX6_endsOrder_L21 rec n21 v4 v5 (v6 + (1 : Int32)) I)))
def fX6_endsOrder : Nat → Int32 → Int32 → zxI → Option (Int32 × zxI)
  | 0, _, _, _ => none
  | d + 1, x4, x5, I => (if (I 35 0) ≤ x4 then
 (some ((1 : Int32), I)) else
 (if x4 < (6 : Int32) then
 (fX6_endsOrder_L21 (fun x4 x5 I => fX6_endsOrder d x4 x5 I) 1000 x4 x5 (0 : Int32) I) else
 (some ((1 : Int32), I))))

def fX6_order (x1 : Int32) (x2 : Int32) (x3 : Int32) (x4 : Int32) (x5 : Int32) (I : zxI) : Option (Int32 × zxI) :=
  (zxB (fX6_isSheet x1 (zxU I 0 10 (0 : Int32))) (fun (r_1 : Int32) (I_1 : zxI) =>
 (if r_1 = 0 then
 (some ((-1 : Int32), I_1)) else
 (zxB (fX6_isLane x2 I_1) (fun (r_3 : Int32) (I_3 : zxI) =>
 (if r_3 = 0 then
 (some ((-2 : Int32), I_3)) else
 (if x4 < 0 then
 (some ((-2 : Int32), I_3)) else
 (if (6 : Int32) < x4 then
 (some ((-2 : Int32), I_3)) else
 (if x5 < 0 then
 (some ((-2 : Int32), I_3)) else
 (if x5 < (6 : Int32) then
 (if zxIn x1 4 = true then
 (zxB (fX6_takePairs (x1.toNatClampNeg) x2 x3 x4 I_3) (fun (r_10 : Int32) (I_10 : zxI) =>
 (if r_10 = 0 then
 (if x5 < (I_10 35 0) then
 (zxV (fX0_becomeLike 1 0 I_10) (fun (I_14 : zxI) =>
 (zxB (fX6_endsOrder 20 (0 : Int32) (0 : Int32) I_14) (fun (r_15 : Int32) (I_15 : zxI) =>
 (if r_15 = 0 then
 (some ((-9 : Int32), I_15)) else
 (if zxIn x5 6 = true then
 (some ((I_15 38 x5.toNatClampNeg), I_15)) else none)))))) else
 (some ((-9 : Int32), I_10))) else
 (some (r_10, I_10))))) else none) else
 (some ((-2 : Int32), I_3))))))))))))

def fX6_dropsWithDoors_L20  : Nat → Int32 → Int32 → Int32 → zxI → Option (Int32 × zxI)
  | 0, _, _, _, _ => none
  | n20 + 1, v1, v3, v4, I => (if (I 35 0) ≤ v4 then
 (zxB (fJ6_bitCount_0f7a4 v3 I) (fun (r_4 : Int32) (I_4 : zxI) =>
 (some (r_4, I_4)))) else
 (if zxIn v4 20 = true then
 (zxB (fX2_breathe 1 v1 (I 36 v4.toNatClampNeg) (I 37 v4.toNatClampNeg) I) (fun (r_7 : Int32) (I_7 : zxI) =>
 (fX6_dropsWithDoors_L20 n20 v1 (v3 ||| r_7) (v4 + (1 : Int32)) I_7))) else none))
def fX6_dropsWithDoors (x1 : Int32) (I : zxI) : Option (Int32 × zxI) :=
  (zxV (fX0_becomeLike 1 0 I) (fun (I_2 : zxI) =>
 (fX6_dropsWithDoors_L20 1000 x1 (0 : Int32) (0 : Int32) I_2)))

def fX6_shut_L84  : Nat → Int32 → Int32 → Int32 → Int32 → zxI → Option (Int32 × zxI)
  | 0, _, _, _, _, _ => none
  | n84 + 1, v5, v7, v8, v9, I => (if ((1 : Int32) <<< (((I 10 0) - (1 : Int32)) &&& 31)) ≤ v9 then
 (if v5 = 0 then
 (some (v7, I)) else
 (some (v8, I))) else
 (zxB (fX6_dropsWithDoors v9 I) (fun (r_15 : Int32) (I_15 : zxI) =>
 (if r_15 < v8 then
 (fX6_shut_L84 n84 v5 v9 r_15 (v9 + (1 : Int32)) I_15) else
 (if r_15 = v8 then
 (zxB (fJ6_bitCount_0f7a4 v9 I_15) (fun (r_18 : Int32) (I_18 : zxI) =>
 (zxB (fJ6_bitCount_0f7a4 v7 I_18) (fun (r_19 : Int32) (I_19 : zxI) =>
 (if r_19 ≤ r_18 then
 (fX6_shut_L84 n84 v5 v7 v8 (v9 + (1 : Int32)) I_19) else
 (fX6_shut_L84 n84 v5 v9 r_15 (v9 + (1 : Int32)) I_19)))))) else
 (fX6_shut_L84 n84 v5 v7 v8 (v9 + (1 : Int32)) I_15))))))
def fX6_shut (x1 : Int32) (x2 : Int32) (x3 : Int32) (x4 : Int32) (x5 : Int32) (I : zxI) : Option (Int32 × zxI) :=
  (zxB (fX6_isSheet x1 (zxU I 0 10 (0 : Int32))) (fun (r_1 : Int32) (I_1 : zxI) =>
 (if r_1 = 0 then
 (some ((-1 : Int32), I_1)) else
 (zxB (fX6_isLane x2 I_1) (fun (r_3 : Int32) (I_3 : zxI) =>
 (if r_3 = 0 then
 (some ((-2 : Int32), I_3)) else
 (if x4 < 0 then
 (some ((-2 : Int32), I_3)) else
 (if (20 : Int32) < x4 then
 (some ((-2 : Int32), I_3)) else
 (if x5 < 0 then
 (some ((-2 : Int32), I_3)) else
 (if x5 ≤ (1 : Int32) then
 (if zxIn x1 4 = true then
 (zxB (fX6_takePairs (x1.toNatClampNeg) x2 x3 x4 I_3) (fun (r_10 : Int32) (I_10 : zxI) =>
 (if r_10 = 0 then
 (zxB (fX6_dropsWithDoors (0 : Int32) I_10) (fun (r_12 : Int32) (I_12 : zxI) =>
 (fX6_shut_L84 1000 x5 (0 : Int32) r_12 (1 : Int32) I_12))) else
 (some (r_10, I_10))))) else none) else
 (some ((-2 : Int32), I_3))))))))))))

def fX6_rests_L27  : Nat → Int32 → zxI → Option (Int32 × zxI)
  | 0, _, _ => none
  | n27 + 1, v2, I => (if (60 : Int32) < v2 then
 (some ((-9 : Int32), I)) else
 (zxB (fX2_passAir 1 (I 10 5) I) (fun (r_6 : Int32) (I_6 : zxI) =>
 (if r_6 = 0 then
 (some (v2, I_6)) else
 (fX6_rests_L27 n27 (v2 + (1 : Int32)) I_6)))))
def fX6_rests (I : zxI) : Option (Int32 × zxI) :=
  (zxB (fX6_hasMine I) (fun (r_1 : Int32) (I_1 : zxI) =>
 (if r_1 = 0 then
 (some ((-3 : Int32), I_1)) else
 (zxV (fX0_becomeLike 1 0 I_1) (fun (I_4 : zxI) =>
 (fX6_rests_L27 1000 (0 : Int32) I_4))))))

def fX6_clears_L38  : Nat → Int32 → Int32 → Int32 → zxI → Option (Int32 × zxI)
  | 0, _, _, _, _ => none
  | n38 + 1, v1, v2, v4, I => (if (60 : Int32) < v4 then
 (some ((-9 : Int32), I)) else
 (if zxIn v1 6 = true then
 (if v2 < (I (zaF 1) v1.toNatClampNeg) then
 (zxB (fX2_passAir 1 (I 10 5) I) (fun (r_10 : Int32) (I_10 : zxI) =>
 (fX6_clears_L38 n38 v1 v2 (v4 + (1 : Int32)) I_10))) else
 (some (v4, I))) else none))
def fX6_clears (x1 : Int32) (x2 : Int32) (I : zxI) : Option (Int32 × zxI) :=
  (zxB (fX6_isGallery x1 I) (fun (r_1 : Int32) (I_1 : zxI) =>
 (if r_1 = 0 then
 (some ((-1 : Int32), I_1)) else
 (zxB (fX6_isFoul x2 I_1) (fun (r_3 : Int32) (I_3 : zxI) =>
 (if r_3 = 0 then
 (some ((-2 : Int32), I_3)) else
 (zxV (fX0_becomeLike 1 0 I_3) (fun (I_6 : zxI) =>
 (fX6_clears_L38 1000 x1 x2 (0 : Int32) I_6)))))))))

def fX6_seatFrom_L41 (rec : Int32 → Int32 → Int32 → zxI → Option zxI) (j1 : Nat) : Nat → Int32 → Int32 → Int32 → Int32 → zxI → Option zxI
  | 0, _, _, _, _, _ => none
  | n41 + 1, v3, v4, v5, v6, I => (if (I 10 0) ≤ v6 then
 (some I) else
 (if ((v4 >>> (v6 &&& 31)) &&& (1 : Int32)) = 0 then
 (if zxIn v3 6 = true then
 (zxB (fX2_bears v6 (zxU I 40 v3.toNatClampNeg v6)) (fun (r_9 : Int32) (I_9 : zxI) =>
 (if r_9 < ((zxU I 40 v3.toNatClampNeg v6) (zaF j1) v3.toNatClampNeg) then
 (zxV (rec (v3 + (1 : Int32)) (v4 ||| ((1 : Int32) <<< (v6 &&& 31))) (v5 + (0 : Int32)) I_9) (fun (I_11 : zxI) =>
 (fX6_seatFrom_L41 rec j1 n41 v3 v4 v5 (v6 + (1 : Int32)) I_11))) else
 (zxV (rec (v3 + (1 : Int32)) (v4 ||| ((1 : Int32) <<< (v6 &&& 31))) (v5 + (1 : Int32)) I_9) (fun (I_12 : zxI) =>
 (fX6_seatFrom_L41 rec j1 n41 v3 v4 v5 (v6 + (1 : Int32)) I_12)))))) else none) else
 (fX6_seatFrom_L41 rec j1 n41 v3 v4 v5 (v6 + (1 : Int32)) I)))
def fX6_seatFrom (j1 : Nat) : Nat → Int32 → Int32 → Int32 → zxI → Option zxI
  | 0, _, _, _, _ => none
  | d + 1, x3, x4, x5, I => (if (I 39 2) < ((x5 + (I 10 0)) - x3) then
 (if (I 10 0) ≤ x3 then
 (zxV (fX4_keep x5 I) (fun (I_3 : zxI) =>
 (some I_3))) else
 (if x3 < (6 : Int32) then
 (fX6_seatFrom_L41 (fun x3 x4 x5 I => fX6_seatFrom j1 d x3 x4 x5 I) j1 1000 x3 x4 x5 (0 : Int32) I) else
 (zxV (fX4_keep x5 I) (fun (I_13 : zxI) =>
 (some I_13))))) else
 (some I))

def fX6_perches (x1 : Int32) (I : zxI) : Option (Int32 × zxI) :=
  (if x1 < (-1 : Int32) then
 (some ((-2 : Int32), I)) else
 (if x1 < (6 : Int32) then
 (zxB (fX6_hasMine I) (fun (r_3 : Int32) (I_3 : zxI) =>
 (if r_3 = 0 then
 (some ((-3 : Int32), I_3)) else
 (if x1 < (I_3 10 0) then
 (zxV (fX6_seatFrom 0 20 (0 : Int32) (0 : Int32) (0 : Int32) (zxU I_3 39 2 (-1 : Int32))) (fun (I_6 : zxI) =>
 (if x1 = (-1 : Int32) then
 (some ((I_6 39 2), I_6)) else
 (if zxIn x1 6 = true then
 (some ((I_6 41 x1.toNatClampNeg), I_6)) else none)))) else
 (some ((-9 : Int32), I_3)))))) else
 (some ((-2 : Int32), I))))

def fX6_airBehind (x1 : Int32) (x2 : Int32) (I : zxI) : Option zxI :=
  (zxV (fX0_becomeLike 1 0 I) (fun (I_2 : zxI) =>
 (zxB (fX2_breathe 1 (I_2 10 5) x1 x2 I_2) (fun (r_3 : Int32) (I_3 : zxI) =>
 (some I_3)))))

def fX6_isAsTold_L3 (k1 : Nat) (j3 : Nat) : Nat → Int32 → Int32 → zxI → Option (Int32 × zxI)
  | 0, _, _, _ => none
  | n3 + 1, v2, v4, I => (if (I 10 0) ≤ v4 then
 (some ((1 : Int32), I)) else
 (if zxIn (v2 + v4) 60 = true then
 (if zxIn v4 6 = true then
 (if (I (zsC k1) (v2 + v4).toNatClampNeg) = (I (zaF j3) v4.toNatClampNeg) then
 (fX6_isAsTold_L3 k1 j3 n3 v2 (v4 + (1 : Int32)) I) else
 (some ((0 : Int32), I))) else none) else none))
def fX6_isAsTold (k1 : Nat) (j3 : Nat) (x2 : Int32) (I : zxI) : Option (Int32 × zxI) :=
  (fX6_isAsTold_L3 k1 j3 1000 x2 (0 : Int32) I)

def fX6_found_L104 (kk : Int32 → Int32 → Int32 → Int32 → zxI → Option (Int32 × zxI)) (q89_5 : Nat) : Nat → Int32 → Int32 → Int32 → Int32 → Int32 → zxI → Option (Int32 × zxI)
  | 0, _, _, _, _, _, _ => none
  | n104 + 1, v3, v4, v7, v8, v9, I => (if (I 10 1) ≤ v9 then
 (kk v3 v4 v7 (v8 + (1 : Int32)) I) else
 (zxV (fX6_airBehind v8 v9 I) (fun (I_15 : zxI) =>
 (zxB (fX6_isAsTold q89_5 1 v3 I_15) (fun (r_16 : Int32) (I_16 : zxI) =>
 (if r_16 = 0 then
 (fX6_found_L104 kk q89_5 n104 v3 v4 v7 v8 (v9 + (1 : Int32)) I_16) else
 (if v7 = v4 then
 (some ((((10 : Int32) * v8) + v9), I_16)) else
 (fX6_found_L104 kk q89_5 n104 v3 v4 (v7 + (1 : Int32)) v8 (v9 + (1 : Int32)) I_16))))))))
def fX6_found_L89 (q89_5 : Nat) : Nat → Int32 → Int32 → Int32 → Int32 → zxI → Option (Int32 × zxI)
  | 0, _, _, _, _, _ => none
  | n89 + 1, v3, v4, v7, v8, I => (if (I 10 0) ≤ v8 then
 (if v4 = (-1 : Int32) then
 (some (v7, I)) else
 (some ((-9 : Int32), I))) else
 (fX6_found_L104 (fun a0 a1 a2 a3 I => (fX6_found_L89 q89_5 n89 a0 a1 a2 a3 I)) q89_5 1000 v3 v4 v7 v8 (0 : Int32) I))
def fX6_found (x1 : Int32) (x2 : Int32) (x3 : Int32) (x4 : Int32) (I : zxI) : Option (Int32 × zxI) :=
  (zxB (fX6_isSheet x1 (zxU I 0 10 (0 : Int32))) (fun (r_1 : Int32) (I_1 : zxI) =>
 (if r_1 = 0 then
 (some ((-1 : Int32), I_1)) else
 (zxB (fX6_isLane x2 I_1) (fun (r_3 : Int32) (I_3 : zxI) =>
 (if r_3 = 0 then
 (some ((-2 : Int32), I_3)) else
 (if x4 < (-1 : Int32) then
 (some ((-2 : Int32), I_3)) else
 (if x4 < (24 : Int32) then
 (zxB (fX6_hasMine I_3) (fun (r_7 : Int32) (I_7 : zxI) =>
 (if r_7 = 0 then
 (some ((-3 : Int32), I_7)) else
 (if zxIn x1 4 = true then
 (zxB (fX5_faultOfCells (x1.toNatClampNeg) x2 x3 (I_7 10 0) I_7) (fun (r_10 : Int32) (I_10 : zxI) =>
 (if r_10 = 0 then
 (fX6_found_L89 (x1.toNatClampNeg) 1000 x3 x4 (0 : Int32) (0 : Int32) I_10) else
 (zxB (fX6_faulted r_10 I_10) (fun (r_19 : Int32) (I_19 : zxI) =>
 (some (r_19, I_19))))))) else none)))) else
 (some ((-2 : Int32), I_3))))))))))

def fX6_reading (x1 : Int32) (x2 : Int32) (x3 : Int32) (I : zxI) : Option (Int32 × zxI) :=
  (zxB (fX6_isGallery x1 I) (fun (r_1 : Int32) (I_1 : zxI) =>
 (if r_1 = 0 then
 (some ((-1 : Int32), I_1)) else
 (zxB (fX6_isFoul x2 I_1) (fun (r_3 : Int32) (I_3 : zxI) =>
 (if r_3 = 0 then
 (some ((-2 : Int32), I_3)) else
 (if x3 = 0 then
 (if (I_3 31 0) < (8 : Int32) then
 (zxB (fX3_write x1 x2 x3 I_3) (fun (r_7 : Int32) (I_7 : zxI) =>
 (some (r_7, I_7)))) else
 (some ((-4 : Int32), I_3))) else
 (if x3 = (1 : Int32) then
 (if (I_3 31 0) < (8 : Int32) then
 (zxB (fX3_write x1 x2 x3 I_3) (fun (r_10 : Int32) (I_10 : zxI) =>
 (some (r_10, I_10)))) else
 (some ((-4 : Int32), I_3))) else
 (some ((-2 : Int32), I_3))))))))))

def fX6_back (x1 : Int32) (I : zxI) : Option (Int32 × zxI) :=
  (if x1 < 0 then
 (some ((-2 : Int32), I)) else
 (if x1 ≤ (I 31 0) then
 (some (((zxU I 31 0 ((I 31 0) - x1)) 31 0), (zxU I 31 0 ((I 31 0) - x1)))) else
 (some ((-2 : Int32), I))))

def fX6_strengths_L14  : Nat → Int32 → Int32 → Int32 → zxI → Option (Int32 × zxI)
  | 0, _, _, _, _ => none
  | n14 + 1, v1, v2, v3, I => (if (9 : Int32) < v3 then
 (some (v2, I)) else
 (if zxIn v1 6 = true then
 (zxB (fX6_bearing (I 12 v1.toNatClampNeg) v3 I) (fun (r_5 : Int32) (I_5 : zxI) =>
 (zxB (fX3_areSo v1 r_5 I_5) (fun (r_6 : Int32) (I_6 : zxI) =>
 (if r_6 = 0 then
 (fX6_strengths_L14 n14 v1 v2 (v3 + (1 : Int32)) I_6) else
 (fX6_strengths_L14 n14 v1 (v2 ||| ((1 : Int32) <<< (v3 &&& 31))) (v3 + (1 : Int32)) I_6)))))) else none))
def fX6_strengths (x1 : Int32) (I : zxI) : Option (Int32 × zxI) :=
  (zxB (fX6_isGallery x1 I) (fun (r_1 : Int32) (I_1 : zxI) =>
 (if r_1 = 0 then
 (some ((-1 : Int32), I_1)) else
 (fX6_strengths_L14 1000 x1 (0 : Int32) (1 : Int32) I_1))))

def fX6_kinds_L14  : Nat → Int32 → Int32 → Int32 → zxI → Option (Int32 × zxI)
  | 0, _, _, _, _ => none
  | n14 + 1, v1, v2, v3, I => (if (3 : Int32) ≤ v3 then
 (some (v2, I)) else
 (if zxIn v1 6 = true then
 (zxB (fX6_bearing v3 (I 13 v1.toNatClampNeg) I) (fun (r_5 : Int32) (I_5 : zxI) =>
 (zxB (fX3_areSo v1 r_5 I_5) (fun (r_6 : Int32) (I_6 : zxI) =>
 (if r_6 = 0 then
 (fX6_kinds_L14 n14 v1 v2 (v3 + (1 : Int32)) I_6) else
 (fX6_kinds_L14 n14 v1 (v2 ||| ((1 : Int32) <<< (v3 &&& 31))) (v3 + (1 : Int32)) I_6)))))) else none))
def fX6_kinds (x1 : Int32) (I : zxI) : Option (Int32 × zxI) :=
  (zxB (fX6_isGallery x1 I) (fun (r_1 : Int32) (I_1 : zxI) =>
 (if r_1 = 0 then
 (some ((-1 : Int32), I_1)) else
 (fX6_kinds_L14 1000 x1 (0 : Int32) (0 : Int32) I_1))))

def fX6_commonDivisor_L2  : Nat → Int32 → Int32 → Int32 → zxI → Option (Int32 × zxI)
  | 0, _, _, _, _ => none
  | n2 + 1, v0, v1, v2, I => (if v2 ≤ (1 : Int32) then
 (some ((1 : Int32), I)) else
 (if ¬ v2 = 0 then
 (if (v0 - v0 / v2 * v2) = 0 then
 (if (v1 - v1 / v2 * v2) = 0 then
 (some (v2, I)) else
 (fX6_commonDivisor_L2 n2 v0 v1 (v2 + (-1 : Int32)) I)) else
 (fX6_commonDivisor_L2 n2 v0 v1 (v2 + (-1 : Int32)) I)) else none))
def fX6_commonDivisor (x0 : Int32) (x1 : Int32) (I : zxI) : Option (Int32 × zxI) :=
  (fX6_commonDivisor_L2 1000 x0 x1 x1 I)

def fX6_odds_L41 (kk : Int32 → Int32 → Int32 → Int32 → zxI → Option (Int64 × zxI)) : Nat → Int32 → Int32 → Int32 → Int32 → Int32 → zxI → Option (Int64 × zxI)
  | 0, _, _, _, _, _, _ => none
  | n41 + 1, v1, v2, v3, v4, v5, I => (if (I 10 1) ≤ v5 then
 (kk v1 v2 v3 (v4 + (1 : Int32)) I) else
 (zxV (fX6_airBehind v4 v5 I) (fun (I_11 : zxI) =>
 (zxB (fX0_isDown 1 v1 I_11) (fun (r_12 : Int32) (I_12 : zxI) =>
 (if r_12 = 0 then
 (fX6_odds_L41 kk n41 v1 v2 v3 v4 (v5 + (1 : Int32)) I_12) else
 (fX6_odds_L41 kk n41 v1 v2 (v3 + (1 : Int32)) v4 (v5 + (1 : Int32)) I_12)))))))
def fX6_odds_L26  : Nat → Int32 → Int32 → Int32 → Int32 → zxI → Option (Int64 × zxI)
  | 0, _, _, _, _, _ => none
  | n26 + 1, v1, v2, v3, v4, I => (if (I 10 0) ≤ v4 then
 (zxB (fX6_commonDivisor v3 ((I 10 0) * (I 10 1)) I) (fun (r_6 : Int32) (I_6 : zxI) =>
 (if v2 = 0 then
 (if ¬ r_6 = 0 then
 (some (((v3 / r_6).toInt64), I_6)) else none) else
 (if ¬ r_6 = 0 then
 (some (((((I 10 0) * (I 10 1)) / r_6).toInt64), I_6)) else none)))) else
 (fX6_odds_L41 (fun a0 a1 a2 a3 I => (fX6_odds_L26 n26 a0 a1 a2 a3 I)) 1000 v1 v2 v3 v4 (0 : Int32) I))
def fX6_odds (x1 : Int32) (x2 : Int32) (I : zxI) : Option (Int64 × zxI) :=
  (zxB (fX6_isGallery x1 I) (fun (r_1 : Int32) (I_1 : zxI) =>
 (if r_1 = 0 then
 (some ((-9223372036854775808 : Int64), I_1)) else
 (if x2 < 0 then
 (some ((-9223372036854775808 : Int64), I_1)) else
 (if x2 ≤ (1 : Int32) then
 (fX6_odds_L26 1000 x1 x2 (0 : Int32) (0 : Int32) I_1) else
 (some ((-9223372036854775808 : Int64), I_1)))))))

def fX6_sheet (x1 : Int32) (x2 : Int32) (x3 : Int32) (I : zxI) : Option (Int32 × zxI) :=
  (zxB (fX6_isSheet x1 (zxU I 0 10 (0 : Int32))) (fun (r_1 : Int32) (I_1 : zxI) =>
 (if r_1 = 0 then
 (some ((-1 : Int32), I_1)) else
 (zxB (fX6_isLane x2 I_1) (fun (r_3 : Int32) (I_3 : zxI) =>
 (if r_3 = 0 then
 (some ((-2 : Int32), I_3)) else
 (if x3 ≤ (60 : Int32) then
 (if 0 ≤ x3 then
 (if zxIn x1 4 = true then
 (zxV (fX5_begin (x1.toNatClampNeg) x2 x3 I_3) (fun (I_8 : zxI) =>
 (some ((1 : Int32), I_8)))) else none) else
 (zxB (fX6_faulted (4 : Int32) I_3) (fun (r_9 : Int32) (I_9 : zxI) =>
 (some (r_9, I_9))))) else
 (some ((-2 : Int32), I_3)))))))))

def fX6_lose (x1 : Int32) (I : zxI) : Option (Int32 × zxI) :=
  (zxB (fX6_isSheet x1 I) (fun (r_1 : Int32) (I_1 : zxI) =>
 (if r_1 = 0 then
 (some ((-1 : Int32), I_1)) else
 (if zxIn x1 4 = true then
 (if (I_1 (zsO (x1.toNatClampNeg)) 0) = 0 then
 (some ((0 : Int32), (zxU I_1 (zsO (x1.toNatClampNeg)) 0 (0 : Int32)))) else
 (some ((1 : Int32), (zxU I_1 (zsO (x1.toNatClampNeg)) 0 (0 : Int32))))) else none))))

def fX6_cutToLane (x0 : Int32) (x1 : Int32) (I : zxI) : Option (Int32 × zxI) :=
  (if x1 = (0 : Int32) then
 (some ((x0.toInt8.toInt32), I)) else
 (if x1 = (1 : Int32) then
 (some ((x0.toInt16.toInt32), I)) else
 (some (x0, I))))

def fX6_put (x1 : Int32) (x2 : Int32) (x3 : Int32) (I : zxI) : Option (Int32 × zxI) :=
  (zxB (fX6_isSheet x1 (zxU I 0 10 (0 : Int32))) (fun (r_1 : Int32) (I_1 : zxI) =>
 (if r_1 = 0 then
 (some ((-1 : Int32), I_1)) else
 (if zxIn x1 4 = true then
 (zxB (fX5_faultOfCells (x1.toNatClampNeg) (I_1 (zsO (x1.toNatClampNeg)) 1) x2 (1 : Int32) I_1) (fun (r_4 : Int32) (I_4 : zxI) =>
 (if r_4 = 0 then
 (zxB (fX6_cutToLane x3 (I_4 (zsO (x1.toNatClampNeg)) 1) I_4) (fun (r_6 : Int32) (I_6 : zxI) =>
 (if zxIn x2 60 = true then
 (some ((1 : Int32), (zxU I_6 (zsC (x1.toNatClampNeg)) x2.toNatClampNeg r_6))) else none))) else
 (zxB (fX6_faulted r_4 I_4) (fun (r_8 : Int32) (I_8 : zxI) =>
 (some (r_8, I_8))))))) else none))))

def fX6_cell (x1 : Int32) (x2 : Int32) (x3 : Int32) (I : zxI) : Option (Int64 × zxI) :=
  (zxB (fX6_isSheet x1 (zxU I 0 10 (0 : Int32))) (fun (r_1 : Int32) (I_1 : zxI) =>
 (if r_1 = 0 then
 (some ((-9223372036854775808 : Int64), I_1)) else
 (zxB (fX6_isLane x3 I_1) (fun (r_3 : Int32) (I_3 : zxI) =>
 (if r_3 = 0 then
 (some ((-9223372036854775808 : Int64), I_3)) else
 (if zxIn x1 4 = true then
 (zxB (fX5_faultOfCells (x1.toNatClampNeg) x3 x2 (1 : Int32) I_3) (fun (r_6 : Int32) (I_6 : zxI) =>
 (if r_6 = 0 then
 (if zxIn x2 60 = true then
 (some (((I_6 (zsC (x1.toNatClampNeg)) x2.toNatClampNeg).toInt64), I_6)) else none) else
 (zxB (fX6_faulted r_6 I_6) (fun (r_10 : Int32) (I_10 : zxI) =>
 (some ((-9223372036854775808 : Int64), I_10))))))) else none)))))))

def fX6_copy (x1 : Int32) (x2 : Int32) (x3 : Int32) (x4 : Int32) (x5 : Int32) (I : zxI) : Option (Int32 × zxI) :=
  (zxB (fX6_isSheet x1 (zxU I 0 10 (0 : Int32))) (fun (r_1 : Int32) (I_1 : zxI) =>
 (if r_1 = 0 then
 (some ((-1 : Int32), I_1)) else
 (zxB (fX6_isSheet x3 I_1) (fun (r_3 : Int32) (I_3 : zxI) =>
 (if r_3 = 0 then
 (some ((-1 : Int32), I_3)) else
 (if zxIn x1 4 = true then
 (if zxIn x3 4 = true then
 (if (I_3 (zsO (x1.toNatClampNeg)) 0) = 0 then
 (zxB (fX6_faulted (1 : Int32) I_3) (fun (r_8 : Int32) (I_8 : zxI) =>
 (some (r_8, I_8)))) else
 (if (I_3 (zsO (x3.toNatClampNeg)) 0) = 0 then
 (zxB (fX6_faulted (1 : Int32) I_3) (fun (r_25 : Int32) (I_25 : zxI) =>
 (some (r_25, I_25)))) else
 (if (I_3 (zsO (x1.toNatClampNeg)) 1) = (I_3 (zsO (x3.toNatClampNeg)) 1) then
 (if x5 < 0 then
 (zxB (fX6_faulted (3 : Int32) I_3) (fun (r_12 : Int32) (I_12 : zxI) =>
 (some (r_12, I_12)))) else
 (zxB (fX5_hasCells (x1.toNatClampNeg) x2 x5 I_3) (fun (r_13 : Int32) (I_13 : zxI) =>
 (if r_13 = 0 then
 (zxB (fX6_faulted (3 : Int32) I_13) (fun (r_15 : Int32) (I_15 : zxI) =>
 (some (r_15, I_15)))) else
 (zxB (fX5_hasCells (x3.toNatClampNeg) x4 x5 I_13) (fun (r_16 : Int32) (I_16 : zxI) =>
 (if r_16 = 0 then
 (zxB (fX6_faulted (3 : Int32) I_16) (fun (r_23 : Int32) (I_23 : zxI) =>
 (some (r_23, I_23)))) else
 (if ¬ x2 < 0 ∧ ¬ x4 < 0 ∧ ¬ x5 < 0 ∧ x2.toNatClampNeg + x5.toNatClampNeg ≤ 60 ∧ x4.toNatClampNeg + x5.toNatClampNeg ≤ 60 then
 (some (x5, (zxC I_16 (zsC (x1.toNatClampNeg)) (zsC (x3.toNatClampNeg)) x2.toNatClampNeg x4.toNatClampNeg x5.toNatClampNeg))) else none)))))))) else
 (zxB (fX6_faulted (2 : Int32) I_3) (fun (r_24 : Int32) (I_24 : zxI) =>
 (some (r_24, I_24))))))) else none) else none)))))))

def fX6_leave (x1 : Int32) (I : zxI) : Option zxI :=
  (some (zxU I 0 9 (((31 : Int32) * (I 0 9)) + x1)))

def fX6_greyBody (x1 : Int32) (I : zxI) : Option (Int32 × zxI) :=
  (zxV (fX6_leave (1 : Int32) I) (fun (I_1 : zxI) =>
 (if zxIn x1 6 = true then
 (some ((I_1 13 x1.toNatClampNeg), I_1)) else none)))

def fX6_greenBody (x1 : Int32) (I : zxI) : Option (Int32 × zxI) :=
  (zxV (fX6_leave (2 : Int32) I) (fun (I_1 : zxI) =>
 (zxB (fX6_greyBody x1 I_1) (fun (r_2 : Int32) (I_2 : zxI) =>
 (some ((r_2 + (100 : Int32)), I_2))))))

def fX6_brightBody (x1 : Int32) (I : zxI) : Option (Int32 × zxI) :=
  (zxV (fX6_leave (3 : Int32) I) (fun (I_1 : zxI) =>
 (zxB (fX6_greenBody x1 I_1) (fun (r_2 : Int32) (I_2 : zxI) =>
 (zxB (fX6_greyBody x1 I_2) (fun (r_3 : Int32) (I_3 : zxI) =>
 (some ((r_2 + r_3), I_3))))))))

def fX6_tell (x1 : Int32) (I : zxI) : Option (Int32 × zxI) :=
  (zxB (fX6_isGallery x1 I) (fun (r_1 : Int32) (I_1 : zxI) =>
 (if r_1 = 0 then
 (some ((-1 : Int32), I_1)) else
 (if zxIn x1 6 = true then
 (if (I_1 12 x1.toNatClampNeg) = (1 : Int32) then
 (zxB (fX6_greenBody x1 I_1) (fun (r_6 : Int32) (I_6 : zxI) =>
 (some (r_6, I_6)))) else
 (if (I_1 12 x1.toNatClampNeg) = (2 : Int32) then
 (zxB (fX6_brightBody x1 I_1) (fun (r_7 : Int32) (I_7 : zxI) =>
 (some (r_7, I_7)))) else
 (zxB (fX6_greyBody x1 I_1) (fun (r_8 : Int32) (I_8 : zxI) =>
 (some (r_8, I_8)))))) else none))))

def fX6_brightSignature (I : zxI) : Option (Int32 × zxI) :=
  (zxV (fX6_leave (5 : Int32) I) (fun (I_1 : zxI) =>
 (some ((50 : Int32), I_1))))

def fX6_lentSignature (x1 : Int32) (I : zxI) : Option (Int32 × zxI) :=
  (zxV (fX6_leave (4 : Int32) I) (fun (I_1 : zxI) =>
 (some (x1, I_1))))

def fX6_sign (x1 : Int32) (I : zxI) : Option (Int32 × zxI) :=
  (zxB (fX6_isGallery x1 I) (fun (r_1 : Int32) (I_1 : zxI) =>
 (if r_1 = 0 then
 (some ((-1 : Int32), I_1)) else
 (if zxIn x1 6 = true then
 (if (I_1 12 x1.toNatClampNeg) = (2 : Int32) then
 (zxB (fX6_brightSignature I_1) (fun (r_6 : Int32) (I_6 : zxI) =>
 (some (r_6, I_6)))) else
 (zxB (fX6_lentSignature x1 I_1) (fun (r_5 : Int32) (I_5 : zxI) =>
 (some (r_5, I_5))))) else none))))

def fX6_as (x1 : Int32) (x2 : Int32) (I : zxI) : Option (Int32 × zxI) :=
  (zxB (fX6_isGallery x1 (zxU I 0 10 (0 : Int32))) (fun (r_1 : Int32) (I_1 : zxI) =>
 (if r_1 = 0 then
 (some ((-1 : Int32), I_1)) else
 (if x2 < 0 then
 (some ((-2 : Int32), I_1)) else
 (if x2 < (3 : Int32) then
 (if zxIn x1 6 = true then
 (if (I_1 12 x1.toNatClampNeg) < x2 then
 (zxB (fX6_faulted (2 : Int32) I_1) (fun (r_7 : Int32) (I_7 : zxI) =>
 (some (r_7, I_7)))) else
 (some ((1 : Int32), I_1))) else none) else
 (some ((-2 : Int32), I_1)))))))

def fX6_trace (I : zxI) : Option (Int32 × zxI) :=
  (some ((I 0 9), I))

def fX6_fault (I : zxI) : Option (Int32 × zxI) :=
  (some ((I 0 10), I))

def fX6_many (x1 : Int32) (I : zxI) : Option (Int32 × zxI) :=
  (if x1 = (0 : Int32) then
 (some ((I 10 0), I)) else
 (if x1 = (1 : Int32) then
 (some ((I 10 1), I)) else
 (if x1 = (2 : Int32) then
 (some ((I 0 8), I)) else
 (if x1 = (3 : Int32) then
 (zxB (fJ6_bitCount_0f7a4 (I (zaO 0) 1) I) (fun (r_6 : Int32) (I_6 : zxI) =>
 (some (r_6, I_6)))) else
 (if x1 = (4 : Int32) then
 (some ((I 31 0), I)) else
 (some ((-2 : Int32), I)))))))

def fX7_fails (x1 : Int32) (I : zxI) : Option (Int32 × zxI) :=
  (some (((-10 : Int32) - x1), (zxU I 0 0 x1)))

def fX7_lost (x1 : Int32) (I : zxI) : Option (Int64 × zxI) :=
  (some ((-9223372036854775808 : Int64), (zxU I 0 0 x1)))

def fX7_within (x0 : Int32) (x1 : Int32) (x2 : Int32) (I : zxI) : Option (Int32 × zxI) :=
  (if x0 < x1 then
 (some ((0 : Int32), I)) else
 (if x2 < x0 then
 (some ((0 : Int32), I)) else
 (some ((1 : Int32), I))))

def fX7_isSheet (x0 : Int32) (I : zxI) : Option (Int32 × zxI) :=
  (zxB (fX7_within x0 (0 : Int32) (3 : Int32) I) (fun (r_1 : Int32) (I_1 : zxI) =>
 (if r_1 = 0 ∨ r_1 = 1 then
 (some (r_1, I_1)) else none)))

def fX7_isSort (x0 : Int32) (I : zxI) : Option (Int32 × zxI) :=
  (zxB (fX7_within x0 (0 : Int32) (2 : Int32) I) (fun (r_1 : Int32) (I_1 : zxI) =>
 (if r_1 = 0 ∨ r_1 = 1 then
 (some (r_1, I_1)) else none)))

def fX7_against (x1 : Int32) (x2 : Int32) (x3 : Int32) (x4 : Int32) (I : zxI) : Option (Int32 × zxI) :=
  (if zxIn x1 4 = true then
 (if (I 1 x1.toNatClampNeg) = (-9 : Int32) then
 (if (I 1 x1.toNatClampNeg) = (-9 : Int32) then
 (some ((1 : Int32), I)) else
 (if 0 ≤ x4 then
 (if x3 < 0 then
 (some ((3 : Int32), I)) else
 (if (I 2 x1.toNatClampNeg) < x3 then
 (some ((3 : Int32), I)) else
 (if x4 ≤ ((I 2 x1.toNatClampNeg) - x3) then
 (some ((0 : Int32), I)) else
 (some ((3 : Int32), I))))) else
 (some ((4 : Int32), I)))) else
 (if (I 1 x1.toNatClampNeg) = x2 then
 (if (I 1 x1.toNatClampNeg) = (-9 : Int32) then
 (some ((1 : Int32), I)) else
 (if 0 ≤ x4 then
 (if x3 < 0 then
 (some ((3 : Int32), I)) else
 (if (I 2 x1.toNatClampNeg) < x3 then
 (some ((3 : Int32), I)) else
 (if x4 ≤ ((I 2 x1.toNatClampNeg) - x3) then
 (some ((0 : Int32), I)) else
 (some ((3 : Int32), I))))) else
 (some ((4 : Int32), I)))) else
 (some ((2 : Int32), I)))) else none)

def fX7_isGallery (x1 : Int32) (I : zxI) : Option (Int32 × zxI) :=
  (if x1 < 0 then
 (some ((0 : Int32), I)) else
 (if (I 0 5) ≤ x1 then
 (some ((0 : Int32), I)) else
 (some ((1 : Int32), I))))

def fX7_isWord (x1 : Int32) (I : zxI) : Option (Int32 × zxI) :=
  (if x1 < 0 then
 (some ((0 : Int32), I)) else
 (if (I 0 6) ≤ x1 then
 (some ((0 : Int32), I)) else
 (some ((1 : Int32), I))))

def fX7_isOf (x0 : Int32) (x1 : Int32) (I : zxI) : Option (Int32 × zxI) :=
  (if ((x0 >>> (x1 &&& 31)) &&& (1 : Int32)) = (1 : Int32) then
 (some ((1 : Int32), I)) else
 (some ((0 : Int32), I)))

def fX7_digit (x1 : Int32) (x2 : Int32) (x3 : Int32) (I : zxI) : Option (Int32 × zxI) :=
  (if x1 ≤ (I 0 14) then
 (some ((-9 : Int32), I)) else
 (if zxIn (I 0 14) 240 = true then
 (zxB (fX7_within (I 3 (I 0 14).toNatClampNeg) ((48 : Int32) + x2) ((48 : Int32) + x3) I) (fun (r_3 : Int32) (I_3 : zxI) =>
 (if r_3 = 0 then
 (some ((-9 : Int32), I_3)) else
 (if zxIn (((zxU I_3 0 14 ((I_3 0 14) + (1 : Int32))) 0 14) - (1 : Int32)) 240 = true then
 (some ((((zxU I_3 0 14 ((I_3 0 14) + (1 : Int32))) 3 (((zxU I_3 0 14 ((I_3 0 14) + (1 : Int32))) 0 14) - (1 : Int32)).toNatClampNeg) - (48 : Int32)), (zxU I_3 0 14 ((I_3 0 14) + (1 : Int32))))) else none)))) else none))

def fX7_isSign (x1 : Int32) (x2 : Int32) (I : zxI) : Option (Int32 × zxI) :=
  (if x1 ≤ (I 0 14) then
 (some ((0 : Int32), I)) else
 (if zxIn (I 0 14) 240 = true then
 (if (I 3 (I 0 14).toNatClampNeg) = x2 then
 (some ((1 : Int32), (zxU I 0 14 ((I 0 14) + (1 : Int32))))) else
 (some ((0 : Int32), I))) else none))

def fX7_readTheWords_L5  : Nat → Int32 → zxI → Option (Int32 × zxI)
  | 0, _, _ => none
  | n5 + 1, v1, I => (if (4 : Int32) ≤ (I 0 15) then
 (some ((1 : Int32), I)) else
 (zxB (fX7_digit v1 (0 : Int32) (9 : Int32) I) (fun (r_2 : Int32) (I_2 : zxI) =>
 (if r_2 = (-9 : Int32) then
 (if (I_2 0 15) ≤ 0 then
 (some ((0 : Int32), I_2)) else
 (some ((1 : Int32), I_2))) else
 (if zxIn (I_2 0 15) 4 = true then
 (fX7_readTheWords_L5 n5 v1 (zxU (zxU I_2 8 (I_2 0 15).toNatClampNeg r_2) 0 15 (((zxU I_2 8 (I_2 0 15).toNatClampNeg r_2) 0 15) + (1 : Int32)))) else none)))))
def fX7_readTheWords (x1 : Int32) (I : zxI) : Option (Int32 × zxI) :=
  (fX7_readTheWords_L5 1000 x1 (zxU I 0 15 (0 : Int32)))

def fX7_readGallery (x1 : Int32) (I : zxI) : Option (Int32 × zxI) :=
  (if x1 ≤ (I 0 14) then
 (if zxIn ((4 : Int32) * (I 0 16)) 24 = true then
 (if ((zxU I 9 ((4 : Int32) * (I 0 16)).toNatClampNeg (-9 : Int32)) 9 ((4 : Int32) * (I 0 16)).toNatClampNeg) = (-9 : Int32) then
 (some ((0 : Int32), (zxU I 9 ((4 : Int32) * (I 0 16)).toNatClampNeg (-9 : Int32)))) else
 (zxB (fX7_digit x1 (0 : Int32) (9 : Int32) (zxU (zxU I 9 ((4 : Int32) * (I 0 16)).toNatClampNeg (-9 : Int32)) 0 14 (((zxU I 9 ((4 : Int32) * (I 0 16)).toNatClampNeg (-9 : Int32)) 0 14) + (1 : Int32)))) (fun (r_8 : Int32) (I_8 : zxI) =>
 (if zxIn (((4 : Int32) * (I 0 16)) + (1 : Int32)) 24 = true then
 (if ((zxU I_8 9 (((4 : Int32) * (I 0 16)) + (1 : Int32)).toNatClampNeg r_8) 9 (((4 : Int32) * (I 0 16)) + (1 : Int32)).toNatClampNeg) = (-9 : Int32) then
 (some ((0 : Int32), (zxU I_8 9 (((4 : Int32) * (I 0 16)) + (1 : Int32)).toNatClampNeg r_8))) else
 (zxB (fX7_digit x1 (1 : Int32) (9 : Int32) (zxU I_8 9 (((4 : Int32) * (I 0 16)) + (1 : Int32)).toNatClampNeg r_8)) (fun (r_12 : Int32) (I_12 : zxI) =>
 (if zxIn (((4 : Int32) * (I 0 16)) + (2 : Int32)) 24 = true then
 (if ((zxU I_12 9 (((4 : Int32) * (I 0 16)) + (2 : Int32)).toNatClampNeg r_12) 9 (((4 : Int32) * (I 0 16)) + (2 : Int32)).toNatClampNeg) = (-9 : Int32) then
 (some ((0 : Int32), (zxU I_12 9 (((4 : Int32) * (I 0 16)) + (2 : Int32)).toNatClampNeg r_12))) else
 (zxB (fX7_digit x1 (0 : Int32) (1 : Int32) (zxU I_12 9 (((4 : Int32) * (I 0 16)) + (2 : Int32)).toNatClampNeg r_12)) (fun (r_16 : Int32) (I_16 : zxI) =>
 (if zxIn (((4 : Int32) * (I 0 16)) + (3 : Int32)) 24 = true then
 (if ((zxU (zxU I_16 9 (((4 : Int32) * (I 0 16)) + (3 : Int32)).toNatClampNeg r_16) 0 16 (((zxU I_16 9 (((4 : Int32) * (I 0 16)) + (3 : Int32)).toNatClampNeg r_16) 0 16) + (1 : Int32))) 9 (((4 : Int32) * (I 0 16)) + (3 : Int32)).toNatClampNeg) = (-9 : Int32) then
 (some ((0 : Int32), (zxU (zxU I_16 9 (((4 : Int32) * (I 0 16)) + (3 : Int32)).toNatClampNeg r_16) 0 16 (((zxU I_16 9 (((4 : Int32) * (I 0 16)) + (3 : Int32)).toNatClampNeg r_16) 0 16) + (1 : Int32))))) else
 (some ((1 : Int32), (zxU (zxU I_16 9 (((4 : Int32) * (I 0 16)) + (3 : Int32)).toNatClampNeg r_16) 0 16 (((zxU I_16 9 (((4 : Int32) * (I 0 16)) + (3 : Int32)).toNatClampNeg r_16) 0 16) + (1 : Int32)))))) else none)))) else none)))) else none)))) else none) else
 (if zxIn (I 0 14) 240 = true then
 (if (I 3 (I 0 14).toNatClampNeg) = (103 : Int32) then
 (if zxIn ((4 : Int32) * (I 0 16)) 24 = true then
 (if ((zxU I 9 ((4 : Int32) * (I 0 16)).toNatClampNeg (0 : Int32)) 9 ((4 : Int32) * (I 0 16)).toNatClampNeg) = (-9 : Int32) then
 (some ((0 : Int32), (zxU I 9 ((4 : Int32) * (I 0 16)).toNatClampNeg (0 : Int32)))) else
 (zxB (fX7_digit x1 (0 : Int32) (9 : Int32) (zxU (zxU I 9 ((4 : Int32) * (I 0 16)).toNatClampNeg (0 : Int32)) 0 14 (((zxU I 9 ((4 : Int32) * (I 0 16)).toNatClampNeg (0 : Int32)) 0 14) + (1 : Int32)))) (fun (r_72 : Int32) (I_72 : zxI) =>
 (if zxIn (((4 : Int32) * (I 0 16)) + (1 : Int32)) 24 = true then
 (if ((zxU I_72 9 (((4 : Int32) * (I 0 16)) + (1 : Int32)).toNatClampNeg r_72) 9 (((4 : Int32) * (I 0 16)) + (1 : Int32)).toNatClampNeg) = (-9 : Int32) then
 (some ((0 : Int32), (zxU I_72 9 (((4 : Int32) * (I 0 16)) + (1 : Int32)).toNatClampNeg r_72))) else
 (zxB (fX7_digit x1 (1 : Int32) (9 : Int32) (zxU I_72 9 (((4 : Int32) * (I 0 16)) + (1 : Int32)).toNatClampNeg r_72)) (fun (r_76 : Int32) (I_76 : zxI) =>
 (if zxIn (((4 : Int32) * (I 0 16)) + (2 : Int32)) 24 = true then
 (if ((zxU I_76 9 (((4 : Int32) * (I 0 16)) + (2 : Int32)).toNatClampNeg r_76) 9 (((4 : Int32) * (I 0 16)) + (2 : Int32)).toNatClampNeg) = (-9 : Int32) then
 (some ((0 : Int32), (zxU I_76 9 (((4 : Int32) * (I 0 16)) + (2 : Int32)).toNatClampNeg r_76))) else
 (zxB (fX7_digit x1 (0 : Int32) (1 : Int32) (zxU I_76 9 (((4 : Int32) * (I 0 16)) + (2 : Int32)).toNatClampNeg r_76)) (fun (r_80 : Int32) (I_80 : zxI) =>
 (if zxIn (((4 : Int32) * (I 0 16)) + (3 : Int32)) 24 = true then
 (if ((zxU (zxU I_80 9 (((4 : Int32) * (I 0 16)) + (3 : Int32)).toNatClampNeg r_80) 0 16 (((zxU I_80 9 (((4 : Int32) * (I 0 16)) + (3 : Int32)).toNatClampNeg r_80) 0 16) + (1 : Int32))) 9 (((4 : Int32) * (I 0 16)) + (3 : Int32)).toNatClampNeg) = (-9 : Int32) then
 (some ((0 : Int32), (zxU (zxU I_80 9 (((4 : Int32) * (I 0 16)) + (3 : Int32)).toNatClampNeg r_80) 0 16 (((zxU I_80 9 (((4 : Int32) * (I 0 16)) + (3 : Int32)).toNatClampNeg r_80) 0 16) + (1 : Int32))))) else
 (some ((1 : Int32), (zxU (zxU I_80 9 (((4 : Int32) * (I 0 16)) + (3 : Int32)).toNatClampNeg r_80) 0 16 (((zxU I_80 9 (((4 : Int32) * (I 0 16)) + (3 : Int32)).toNatClampNeg r_80) 0 16) + (1 : Int32)))))) else none)))) else none)))) else none)))) else none) else
 (if (I 3 (I 0 14).toNatClampNeg) = (110 : Int32) then
 (if zxIn ((4 : Int32) * (I 0 16)) 24 = true then
 (if ((zxU I 9 ((4 : Int32) * (I 0 16)).toNatClampNeg (1 : Int32)) 9 ((4 : Int32) * (I 0 16)).toNatClampNeg) = (-9 : Int32) then
 (some ((0 : Int32), (zxU I 9 ((4 : Int32) * (I 0 16)).toNatClampNeg (1 : Int32)))) else
 (zxB (fX7_digit x1 (0 : Int32) (9 : Int32) (zxU (zxU I 9 ((4 : Int32) * (I 0 16)).toNatClampNeg (1 : Int32)) 0 14 (((zxU I 9 ((4 : Int32) * (I 0 16)).toNatClampNeg (1 : Int32)) 0 14) + (1 : Int32)))) (fun (r_57 : Int32) (I_57 : zxI) =>
 (if zxIn (((4 : Int32) * (I 0 16)) + (1 : Int32)) 24 = true then
 (if ((zxU I_57 9 (((4 : Int32) * (I 0 16)) + (1 : Int32)).toNatClampNeg r_57) 9 (((4 : Int32) * (I 0 16)) + (1 : Int32)).toNatClampNeg) = (-9 : Int32) then
 (some ((0 : Int32), (zxU I_57 9 (((4 : Int32) * (I 0 16)) + (1 : Int32)).toNatClampNeg r_57))) else
 (zxB (fX7_digit x1 (1 : Int32) (9 : Int32) (zxU I_57 9 (((4 : Int32) * (I 0 16)) + (1 : Int32)).toNatClampNeg r_57)) (fun (r_61 : Int32) (I_61 : zxI) =>
 (if zxIn (((4 : Int32) * (I 0 16)) + (2 : Int32)) 24 = true then
 (if ((zxU I_61 9 (((4 : Int32) * (I 0 16)) + (2 : Int32)).toNatClampNeg r_61) 9 (((4 : Int32) * (I 0 16)) + (2 : Int32)).toNatClampNeg) = (-9 : Int32) then
 (some ((0 : Int32), (zxU I_61 9 (((4 : Int32) * (I 0 16)) + (2 : Int32)).toNatClampNeg r_61))) else
 (zxB (fX7_digit x1 (0 : Int32) (1 : Int32) (zxU I_61 9 (((4 : Int32) * (I 0 16)) + (2 : Int32)).toNatClampNeg r_61)) (fun (r_65 : Int32) (I_65 : zxI) =>
 (if zxIn (((4 : Int32) * (I 0 16)) + (3 : Int32)) 24 = true then
 (if ((zxU (zxU I_65 9 (((4 : Int32) * (I 0 16)) + (3 : Int32)).toNatClampNeg r_65) 0 16 (((zxU I_65 9 (((4 : Int32) * (I 0 16)) + (3 : Int32)).toNatClampNeg r_65) 0 16) + (1 : Int32))) 9 (((4 : Int32) * (I 0 16)) + (3 : Int32)).toNatClampNeg) = (-9 : Int32) then
 (some ((0 : Int32), (zxU (zxU I_65 9 (((4 : Int32) * (I 0 16)) + (3 : Int32)).toNatClampNeg r_65) 0 16 (((zxU I_65 9 (((4 : Int32) * (I 0 16)) + (3 : Int32)).toNatClampNeg r_65) 0 16) + (1 : Int32))))) else
 (some ((1 : Int32), (zxU (zxU I_65 9 (((4 : Int32) * (I 0 16)) + (3 : Int32)).toNatClampNeg r_65) 0 16 (((zxU I_65 9 (((4 : Int32) * (I 0 16)) + (3 : Int32)).toNatClampNeg r_65) 0 16) + (1 : Int32)))))) else none)))) else none)))) else none)))) else none) else
 (if (I 3 (I 0 14).toNatClampNeg) = (98 : Int32) then
 (if zxIn ((4 : Int32) * (I 0 16)) 24 = true then
 (if ((zxU I 9 ((4 : Int32) * (I 0 16)).toNatClampNeg (2 : Int32)) 9 ((4 : Int32) * (I 0 16)).toNatClampNeg) = (-9 : Int32) then
 (some ((0 : Int32), (zxU I 9 ((4 : Int32) * (I 0 16)).toNatClampNeg (2 : Int32)))) else
 (zxB (fX7_digit x1 (0 : Int32) (9 : Int32) (zxU (zxU I 9 ((4 : Int32) * (I 0 16)).toNatClampNeg (2 : Int32)) 0 14 (((zxU I 9 ((4 : Int32) * (I 0 16)).toNatClampNeg (2 : Int32)) 0 14) + (1 : Int32)))) (fun (r_42 : Int32) (I_42 : zxI) =>
 (if zxIn (((4 : Int32) * (I 0 16)) + (1 : Int32)) 24 = true then
 (if ((zxU I_42 9 (((4 : Int32) * (I 0 16)) + (1 : Int32)).toNatClampNeg r_42) 9 (((4 : Int32) * (I 0 16)) + (1 : Int32)).toNatClampNeg) = (-9 : Int32) then
 (some ((0 : Int32), (zxU I_42 9 (((4 : Int32) * (I 0 16)) + (1 : Int32)).toNatClampNeg r_42))) else
 (zxB (fX7_digit x1 (1 : Int32) (9 : Int32) (zxU I_42 9 (((4 : Int32) * (I 0 16)) + (1 : Int32)).toNatClampNeg r_42)) (fun (r_46 : Int32) (I_46 : zxI) =>
 (if zxIn (((4 : Int32) * (I 0 16)) + (2 : Int32)) 24 = true then
 (if ((zxU I_46 9 (((4 : Int32) * (I 0 16)) + (2 : Int32)).toNatClampNeg r_46) 9 (((4 : Int32) * (I 0 16)) + (2 : Int32)).toNatClampNeg) = (-9 : Int32) then
 (some ((0 : Int32), (zxU I_46 9 (((4 : Int32) * (I 0 16)) + (2 : Int32)).toNatClampNeg r_46))) else
 (zxB (fX7_digit x1 (0 : Int32) (1 : Int32) (zxU I_46 9 (((4 : Int32) * (I 0 16)) + (2 : Int32)).toNatClampNeg r_46)) (fun (r_50 : Int32) (I_50 : zxI) =>
 (if zxIn (((4 : Int32) * (I 0 16)) + (3 : Int32)) 24 = true then
 (if ((zxU (zxU I_50 9 (((4 : Int32) * (I 0 16)) + (3 : Int32)).toNatClampNeg r_50) 0 16 (((zxU I_50 9 (((4 : Int32) * (I 0 16)) + (3 : Int32)).toNatClampNeg r_50) 0 16) + (1 : Int32))) 9 (((4 : Int32) * (I 0 16)) + (3 : Int32)).toNatClampNeg) = (-9 : Int32) then
 (some ((0 : Int32), (zxU (zxU I_50 9 (((4 : Int32) * (I 0 16)) + (3 : Int32)).toNatClampNeg r_50) 0 16 (((zxU I_50 9 (((4 : Int32) * (I 0 16)) + (3 : Int32)).toNatClampNeg r_50) 0 16) + (1 : Int32))))) else
 (some ((1 : Int32), (zxU (zxU I_50 9 (((4 : Int32) * (I 0 16)) + (3 : Int32)).toNatClampNeg r_50) 0 16 (((zxU I_50 9 (((4 : Int32) * (I 0 16)) + (3 : Int32)).toNatClampNeg r_50) 0 16) + (1 : Int32)))))) else none)))) else none)))) else none)))) else none) else
 (if zxIn ((4 : Int32) * (I 0 16)) 24 = true then
 (if ((zxU I 9 ((4 : Int32) * (I 0 16)).toNatClampNeg (-9 : Int32)) 9 ((4 : Int32) * (I 0 16)).toNatClampNeg) = (-9 : Int32) then
 (some ((0 : Int32), (zxU I 9 ((4 : Int32) * (I 0 16)).toNatClampNeg (-9 : Int32)))) else
 (zxB (fX7_digit x1 (0 : Int32) (9 : Int32) (zxU (zxU I 9 ((4 : Int32) * (I 0 16)).toNatClampNeg (-9 : Int32)) 0 14 (((zxU I 9 ((4 : Int32) * (I 0 16)).toNatClampNeg (-9 : Int32)) 0 14) + (1 : Int32)))) (fun (r_27 : Int32) (I_27 : zxI) =>
 (if zxIn (((4 : Int32) * (I 0 16)) + (1 : Int32)) 24 = true then
 (if ((zxU I_27 9 (((4 : Int32) * (I 0 16)) + (1 : Int32)).toNatClampNeg r_27) 9 (((4 : Int32) * (I 0 16)) + (1 : Int32)).toNatClampNeg) = (-9 : Int32) then
 (some ((0 : Int32), (zxU I_27 9 (((4 : Int32) * (I 0 16)) + (1 : Int32)).toNatClampNeg r_27))) else
 (zxB (fX7_digit x1 (1 : Int32) (9 : Int32) (zxU I_27 9 (((4 : Int32) * (I 0 16)) + (1 : Int32)).toNatClampNeg r_27)) (fun (r_31 : Int32) (I_31 : zxI) =>
 (if zxIn (((4 : Int32) * (I 0 16)) + (2 : Int32)) 24 = true then
 (if ((zxU I_31 9 (((4 : Int32) * (I 0 16)) + (2 : Int32)).toNatClampNeg r_31) 9 (((4 : Int32) * (I 0 16)) + (2 : Int32)).toNatClampNeg) = (-9 : Int32) then
 (some ((0 : Int32), (zxU I_31 9 (((4 : Int32) * (I 0 16)) + (2 : Int32)).toNatClampNeg r_31))) else
 (zxB (fX7_digit x1 (0 : Int32) (1 : Int32) (zxU I_31 9 (((4 : Int32) * (I 0 16)) + (2 : Int32)).toNatClampNeg r_31)) (fun (r_35 : Int32) (I_35 : zxI) =>
 (if zxIn (((4 : Int32) * (I 0 16)) + (3 : Int32)) 24 = true then
 (if ((zxU (zxU I_35 9 (((4 : Int32) * (I 0 16)) + (3 : Int32)).toNatClampNeg r_35) 0 16 (((zxU I_35 9 (((4 : Int32) * (I 0 16)) + (3 : Int32)).toNatClampNeg r_35) 0 16) + (1 : Int32))) 9 (((4 : Int32) * (I 0 16)) + (3 : Int32)).toNatClampNeg) = (-9 : Int32) then
 (some ((0 : Int32), (zxU (zxU I_35 9 (((4 : Int32) * (I 0 16)) + (3 : Int32)).toNatClampNeg r_35) 0 16 (((zxU I_35 9 (((4 : Int32) * (I 0 16)) + (3 : Int32)).toNatClampNeg r_35) 0 16) + (1 : Int32))))) else
 (some ((1 : Int32), (zxU (zxU I_35 9 (((4 : Int32) * (I 0 16)) + (3 : Int32)).toNatClampNeg r_35) 0 16 (((zxU I_35 9 (((4 : Int32) * (I 0 16)) + (3 : Int32)).toNatClampNeg r_35) 0 16) + (1 : Int32)))))) else none)))) else none)))) else none)))) else none)))) else none))

def fX7_readMine_L25  : Nat → Int32 → zxI → Option (Int32 × zxI)
  | 0, _, _ => none
  | n25 + 1, v1, I => (if (I 0 16) < (2 : Int32) then
 (zxB (fX7_isSign v1 (59 : Int32) I) (fun (r_6 : Int32) (I_6 : zxI) =>
 (if r_6 = 0 then
 (some ((0 : Int32), I_6)) else
 (zxB (fX7_readGallery v1 I_6) (fun (r_8 : Int32) (I_8 : zxI) =>
 (if r_8 = 0 then
 (some ((0 : Int32), I_8)) else
 (fX7_readMine_L25 n25 v1 I_8))))))) else
 (if (6 : Int32) ≤ (I 0 16) then
 (if (I 0 14) = v1 then
 (some ((1 : Int32), I)) else
 (some ((0 : Int32), I))) else
 (if v1 ≤ (I 0 14) then
 (if (I 0 14) = v1 then
 (some ((1 : Int32), I)) else
 (some ((0 : Int32), I))) else
 (zxB (fX7_isSign v1 (59 : Int32) I) (fun (r_14 : Int32) (I_14 : zxI) =>
 (if r_14 = 0 then
 (some ((0 : Int32), I_14)) else
 (zxB (fX7_readGallery v1 I_14) (fun (r_16 : Int32) (I_16 : zxI) =>
 (if r_16 = 0 then
 (some ((0 : Int32), I_16)) else
 (fX7_readMine_L25 n25 v1 I_16))))))))))
def fX7_readMine (x1 : Int32) (I : zxI) : Option (Int32 × zxI) :=
  (zxB (fX7_isSign x1 (109 : Int32) (zxU I 0 16 (0 : Int32))) (fun (r_1 : Int32) (I_1 : zxI) =>
 (if r_1 = 0 then
 (some ((0 : Int32), I_1)) else
 (zxB (fX7_readTheWords x1 I_1) (fun (r_3 : Int32) (I_3 : zxI) =>
 (if r_3 = 0 then
 (some ((0 : Int32), I_3)) else
 (fX7_readMine_L25 1000 x1 I_3)))))))

def fX7_takeMine_L51  : Nat → Int32 → zxI → Option zxI
  | 0, _, _ => none
  | n51 + 1, v1, I => (if (I 0 5) ≤ v1 then
 (some (zxU (zxU (zxU I 0 7 (0 : Int32)) 0 8 (0 : Int32)) 0 25 (0 : Int32))) else
 (if zxIn ((4 : Int32) * v1) 24 = true then
 (if zxIn v1 6 = true then
 (if zxIn (((4 : Int32) * v1) + (1 : Int32)) 24 = true then
 (if zxIn (((4 : Int32) * v1) + (2 : Int32)) 24 = true then
 (if zxIn (((4 : Int32) * v1) + (3 : Int32)) 24 = true then
 (if ((zxU (zxU (zxU I 5 v1.toNatClampNeg (I 9 ((4 : Int32) * v1).toNatClampNeg)) 6 v1.toNatClampNeg ((zxU I 5 v1.toNatClampNeg (I 9 ((4 : Int32) * v1).toNatClampNeg)) 9 (((4 : Int32) * v1) + (1 : Int32)).toNatClampNeg)) 7 v1.toNatClampNeg ((zxU (zxU I 5 v1.toNatClampNeg (I 9 ((4 : Int32) * v1).toNatClampNeg)) 6 v1.toNatClampNeg ((zxU I 5 v1.toNatClampNeg (I 9 ((4 : Int32) * v1).toNatClampNeg)) 9 (((4 : Int32) * v1) + (1 : Int32)).toNatClampNeg)) 9 (((4 : Int32) * v1) + (2 : Int32)).toNatClampNeg)) 9 (((4 : Int32) * v1) + (3 : Int32)).toNatClampNeg) = (1 : Int32) then
 (if (((zxU (zxU (zxU I 5 v1.toNatClampNeg (I 9 ((4 : Int32) * v1).toNatClampNeg)) 6 v1.toNatClampNeg ((zxU I 5 v1.toNatClampNeg (I 9 ((4 : Int32) * v1).toNatClampNeg)) 9 (((4 : Int32) * v1) + (1 : Int32)).toNatClampNeg)) 7 v1.toNatClampNeg ((zxU (zxU I 5 v1.toNatClampNeg (I 9 ((4 : Int32) * v1).toNatClampNeg)) 6 v1.toNatClampNeg ((zxU I 5 v1.toNatClampNeg (I 9 ((4 : Int32) * v1).toNatClampNeg)) 9 (((4 : Int32) * v1) + (1 : Int32)).toNatClampNeg)) 9 (((4 : Int32) * v1) + (2 : Int32)).toNatClampNeg)) 0 5) - (1 : Int32)) ≤ v1 then
 (fX7_takeMine_L51 n51 (v1 + (1 : Int32)) (zxU (zxU (zxU (zxU I 5 v1.toNatClampNeg (I 9 ((4 : Int32) * v1).toNatClampNeg)) 6 v1.toNatClampNeg ((zxU I 5 v1.toNatClampNeg (I 9 ((4 : Int32) * v1).toNatClampNeg)) 9 (((4 : Int32) * v1) + (1 : Int32)).toNatClampNeg)) 7 v1.toNatClampNeg ((zxU (zxU I 5 v1.toNatClampNeg (I 9 ((4 : Int32) * v1).toNatClampNeg)) 6 v1.toNatClampNeg ((zxU I 5 v1.toNatClampNeg (I 9 ((4 : Int32) * v1).toNatClampNeg)) 9 (((4 : Int32) * v1) + (1 : Int32)).toNatClampNeg)) 9 (((4 : Int32) * v1) + (2 : Int32)).toNatClampNeg)) 0 9 (((zxU (zxU (zxU I 5 v1.toNatClampNeg (I 9 ((4 : Int32) * v1).toNatClampNeg)) 6 v1.toNatClampNeg ((zxU I 5 v1.toNatClampNeg (I 9 ((4 : Int32) * v1).toNatClampNeg)) 9 (((4 : Int32) * v1) + (1 : Int32)).toNatClampNeg)) 7 v1.toNatClampNeg ((zxU (zxU I 5 v1.toNatClampNeg (I 9 ((4 : Int32) * v1).toNatClampNeg)) 6 v1.toNatClampNeg ((zxU I 5 v1.toNatClampNeg (I 9 ((4 : Int32) * v1).toNatClampNeg)) 9 (((4 : Int32) * v1) + (1 : Int32)).toNatClampNeg)) 9 (((4 : Int32) * v1) + (2 : Int32)).toNatClampNeg)) 0 9) ||| (0 : Int32)))) else
 (fX7_takeMine_L51 n51 (v1 + (1 : Int32)) (zxU (zxU (zxU (zxU I 5 v1.toNatClampNeg (I 9 ((4 : Int32) * v1).toNatClampNeg)) 6 v1.toNatClampNeg ((zxU I 5 v1.toNatClampNeg (I 9 ((4 : Int32) * v1).toNatClampNeg)) 9 (((4 : Int32) * v1) + (1 : Int32)).toNatClampNeg)) 7 v1.toNatClampNeg ((zxU (zxU I 5 v1.toNatClampNeg (I 9 ((4 : Int32) * v1).toNatClampNeg)) 6 v1.toNatClampNeg ((zxU I 5 v1.toNatClampNeg (I 9 ((4 : Int32) * v1).toNatClampNeg)) 9 (((4 : Int32) * v1) + (1 : Int32)).toNatClampNeg)) 9 (((4 : Int32) * v1) + (2 : Int32)).toNatClampNeg)) 0 9 (((zxU (zxU (zxU I 5 v1.toNatClampNeg (I 9 ((4 : Int32) * v1).toNatClampNeg)) 6 v1.toNatClampNeg ((zxU I 5 v1.toNatClampNeg (I 9 ((4 : Int32) * v1).toNatClampNeg)) 9 (((4 : Int32) * v1) + (1 : Int32)).toNatClampNeg)) 7 v1.toNatClampNeg ((zxU (zxU I 5 v1.toNatClampNeg (I 9 ((4 : Int32) * v1).toNatClampNeg)) 6 v1.toNatClampNeg ((zxU I 5 v1.toNatClampNeg (I 9 ((4 : Int32) * v1).toNatClampNeg)) 9 (((4 : Int32) * v1) + (1 : Int32)).toNatClampNeg)) 9 (((4 : Int32) * v1) + (2 : Int32)).toNatClampNeg)) 0 9) ||| ((1 : Int32) <<< (v1 &&& 31)))))) else
 (fX7_takeMine_L51 n51 (v1 + (1 : Int32)) (zxU (zxU (zxU (zxU I 5 v1.toNatClampNeg (I 9 ((4 : Int32) * v1).toNatClampNeg)) 6 v1.toNatClampNeg ((zxU I 5 v1.toNatClampNeg (I 9 ((4 : Int32) * v1).toNatClampNeg)) 9 (((4 : Int32) * v1) + (1 : Int32)).toNatClampNeg)) 7 v1.toNatClampNeg ((zxU (zxU I 5 v1.toNatClampNeg (I 9 ((4 : Int32) * v1).toNatClampNeg)) 6 v1.toNatClampNeg ((zxU I 5 v1.toNatClampNeg (I 9 ((4 : Int32) * v1).toNatClampNeg)) 9 (((4 : Int32) * v1) + (1 : Int32)).toNatClampNeg)) 9 (((4 : Int32) * v1) + (2 : Int32)).toNatClampNeg)) 0 9 (((zxU (zxU (zxU I 5 v1.toNatClampNeg (I 9 ((4 : Int32) * v1).toNatClampNeg)) 6 v1.toNatClampNeg ((zxU I 5 v1.toNatClampNeg (I 9 ((4 : Int32) * v1).toNatClampNeg)) 9 (((4 : Int32) * v1) + (1 : Int32)).toNatClampNeg)) 7 v1.toNatClampNeg ((zxU (zxU I 5 v1.toNatClampNeg (I 9 ((4 : Int32) * v1).toNatClampNeg)) 6 v1.toNatClampNeg ((zxU I 5 v1.toNatClampNeg (I 9 ((4 : Int32) * v1).toNatClampNeg)) 9 (((4 : Int32) * v1) + (1 : Int32)).toNatClampNeg)) 9 (((4 : Int32) * v1) + (2 : Int32)).toNatClampNeg)) 0 9) ||| (0 : Int32))))) else none) else none) else none) else none) else none))
def fX7_takeMine_L10  : Nat → Int32 → zxI → Option zxI
  | 0, _, _ => none
  | n10 + 1, v1, I => (if (I 0 6) ≤ v1 then
 (fX7_takeMine_L51 1000 (0 : Int32) (zxU (zxU I 0 5 (I 0 16)) 0 9 (0 : Int32))) else
 (if zxIn v1 4 = true then
 (fX7_takeMine_L10 n10 (v1 + (1 : Int32)) (zxU I 4 v1.toNatClampNeg (I 8 v1.toNatClampNeg))) else none))
def fX7_takeMine (I : zxI) : Option zxI :=
  (fX7_takeMine_L10 1000 (0 : Int32) (zxU I 0 6 (I 0 15)))

def fX7_mine (x1 : Int32) (x2 : Int32) (x3 : Int32) (x4 : Int32) (I : zxI) : Option (Int32 × zxI) :=
  (zxB (fX7_isSheet x1 (zxU I 0 0 (0 : Int32))) (fun (r_1 : Int32) (I_1 : zxI) =>
 (if r_1 = 0 then
 (some ((-1 : Int32), I_1)) else
 (zxB (fX7_isSort x2 I_1) (fun (r_3 : Int32) (I_3 : zxI) =>
 (if r_3 = 0 then
 (some ((-2 : Int32), I_3)) else
 (zxB (fX7_against x1 x2 x3 x4 I_3) (fun (r_5 : Int32) (I_5 : zxI) =>
 (if r_5 = 0 then
 (zxB (fX7_readMine ((((60 : Int32) * x1) + x3) + x4) (zxU I_5 0 14 (((60 : Int32) * x1) + x3))) (fun (r_7 : Int32) (I_7 : zxI) =>
 (if r_7 = 0 then
 (some (((-100 : Int32) - ((I_7 0 14) - (((60 : Int32) * x1) + x3))), I_7)) else
 (zxV (fX7_takeMine I_7) (fun (I_9 : zxI) =>
 (some ((I_9 0 5), I_9))))))) else
 (zxB (fX7_fails r_5 I_5) (fun (r_10 : Int32) (I_10 : zxI) =>
 (some (r_10, I_10)))))))))))))

def fX7_bearsBy (x0 : Int32) (x1 : Int32) (I : zxI) : Option (Int32 × zxI) :=
  (if x0 = 0 then
 (some (x1, I)) else
 (if x0 = (1 : Int32) then
 (some ((x1 - (1 : Int32)), I)) else
 (some (((2 : Int32) * x1), I))))

def fX7_bearsOf (x1 : Int32) (I : zxI) : Option (Int32 × zxI) :=
  (if zxIn x1 6 = true then
 (zxB (fX7_bearsBy (I 5 x1.toNatClampNeg) (I 7 x1.toNatClampNeg) I) (fun (r_3 : Int32) (I_3 : zxI) =>
 (some (r_3, I_3)))) else none)

def fX7_isDoor (x1 : Int32) (I : zxI) : Option (Int32 × zxI) :=
  (if x1 < 0 then
 (some ((0 : Int32), I)) else
 (if ((I 0 5) - (1 : Int32)) ≤ x1 then
 (some ((0 : Int32), I)) else
 (some ((1 : Int32), I))))

def fX7_ofGallery (x1 : Int32) (x2 : Int32) (I : zxI) : Option (Int32 × zxI) :=
  (zxB (fX7_isGallery x1 I) (fun (r_1 : Int32) (I_1 : zxI) =>
 (if r_1 = 0 then
 (some ((-1 : Int32), I_1)) else
 (if x2 = (0 : Int32) then
 (if zxIn x1 6 = true then
 (some ((I_1 5 x1.toNatClampNeg), I_1)) else none) else
 (if x2 = (1 : Int32) then
 (if zxIn x1 6 = true then
 (some ((I_1 6 x1.toNatClampNeg), I_1)) else none) else
 (if x2 = (2 : Int32) then
 (if zxIn x1 6 = true then
 (some ((I_1 7 x1.toNatClampNeg), I_1)) else none) else
 (if x2 = (3 : Int32) then
 (zxB (fX7_bearsOf x1 I_1) (fun (r_12 : Int32) (I_12 : zxI) =>
 (some (r_12, I_12)))) else
 (if x2 = (4 : Int32) then
 (some ((((I_1 0 8) >>> (x1 &&& 31)) &&& (1 : Int32)), I_1)) else
 (if x2 = (5 : Int32) then
 (zxB (fX7_isDoor x1 I_1) (fun (r_13 : Int32) (I_13 : zxI) =>
 (if r_13 = 0 then
 (some ((-9 : Int32), I_13)) else
 (some ((((I_13 0 9) >>> (x1 &&& 31)) &&& (1 : Int32)), I_13))))) else
 (some ((-2 : Int32), I_1)))))))))))

def fX7_bad (x1 : Int32) (I : zxI) : Option (Int32 × zxI) :=
  (zxB (fX7_isWord x1 I) (fun (r_1 : Int32) (I_1 : zxI) =>
 (if r_1 = 0 then
 (some ((-1 : Int32), I_1)) else
 (if zxIn x1 4 = true then
 (some ((I_1 4 x1.toNatClampNeg), I_1)) else none))))

def fX7_foul (x1 : Int32) (x2 : Int32) (I : zxI) : Option (Int32 × zxI) :=
  (zxB (fX7_isGallery x1 I) (fun (r_1 : Int32) (I_1 : zxI) =>
 (if r_1 = 0 then
 (some ((-1 : Int32), I_1)) else
 (zxB (fX7_within x2 (0 : Int32) (40 : Int32) I_1) (fun (r_3 : Int32) (I_3 : zxI) =>
 (if r_3 = 0 then
 (some ((-2 : Int32), I_3)) else
 (if zxIn x1 6 = true then
 (some ((I_3 6 x1.toNatClampNeg), (zxU I_3 6 x1.toNatClampNeg x2))) else none)))))))

def fX7_breed (x1 : Int32) (x2 : Int32) (I : zxI) : Option (Int32 × zxI) :=
  (zxB (fX7_isGallery x1 I) (fun (r_1 : Int32) (I_1 : zxI) =>
 (if r_1 = 0 then
 (some ((-1 : Int32), I_1)) else
 (zxB (fX7_within x2 (1 : Int32) (9 : Int32) I_1) (fun (r_3 : Int32) (I_3 : zxI) =>
 (if r_3 = 0 then
 (some ((-2 : Int32), I_3)) else
 (if zxIn x1 6 = true then
 (some ((I_3 7 x1.toNatClampNeg), (zxU I_3 7 x1.toNatClampNeg x2))) else none)))))))

def fX7_door (x1 : Int32) (x2 : Int32) (I : zxI) : Option (Int32 × zxI) :=
  (zxB (fX7_isDoor x1 I) (fun (r_1 : Int32) (I_1 : zxI) =>
 (if r_1 = 0 then
 (some ((-1 : Int32), I_1)) else
 (zxB (fX7_within x2 (0 : Int32) (1 : Int32) I_1) (fun (r_3 : Int32) (I_3 : zxI) =>
 (if r_3 = 0 then
 (some ((-2 : Int32), I_3)) else
 (some ((((I_3 0 9) >>> (x1 &&& 31)) &&& (1 : Int32)), (zxU I_3 0 9 (((I_3 0 9) &&& (((1 : Int32) <<< (x1 &&& 31)) ^^^ (-1 : Int32))) ||| (x2 <<< (x1 &&& 31))))))))))))

def fX7_pass_L4  : Nat → Int32 → Int32 → zxI → Option (Int32 × zxI)
  | 0, _, _, _ => none
  | n4 + 1, v1, v2, I => (if ((I 0 5) - (1 : Int32)) ≤ v2 then
 (some (v1, I)) else
 (if zxIn v2 6 = true then
 (if zxIn (v2 + (1 : Int32)) 6 = true then
 (zxB (fX7_isOf (I 0 9) v2 I) (fun (r_4 : Int32) (I_4 : zxI) =>
 (if r_4 = 0 then
 (fX7_pass_L4 n4 v1 (v2 + (1 : Int32)) I_4) else
 (if (1 : Int32) < ((I 6 v2.toNatClampNeg) - (I 6 (v2 + (1 : Int32)).toNatClampNeg)) then
 (if ((I 6 v2.toNatClampNeg) - (I 6 (v2 + (1 : Int32)).toNatClampNeg)) ≤ 0 then
 (fX7_pass_L4 n4 (v1 + (1 : Int32)) (v2 + (1 : Int32)) (zxU (zxU I_4 6 v2.toNatClampNeg ((I_4 6 v2.toNatClampNeg) - (-1 : Int32))) 6 (v2 + (1 : Int32)).toNatClampNeg (((zxU I_4 6 v2.toNatClampNeg ((I_4 6 v2.toNatClampNeg) - (-1 : Int32))) 6 (v2 + (1 : Int32)).toNatClampNeg) + (-1 : Int32)))) else
 (fX7_pass_L4 n4 (v1 + (1 : Int32)) (v2 + (1 : Int32)) (zxU (zxU I_4 6 v2.toNatClampNeg ((I_4 6 v2.toNatClampNeg) - (1 : Int32))) 6 (v2 + (1 : Int32)).toNatClampNeg (((zxU I_4 6 v2.toNatClampNeg ((I_4 6 v2.toNatClampNeg) - (1 : Int32))) 6 (v2 + (1 : Int32)).toNatClampNeg) + (1 : Int32))))) else
 (if (-1 : Int32) ≤ ((I 6 v2.toNatClampNeg) - (I 6 (v2 + (1 : Int32)).toNatClampNeg)) then
 (fX7_pass_L4 n4 v1 (v2 + (1 : Int32)) I_4) else
 (if ((I 6 v2.toNatClampNeg) - (I 6 (v2 + (1 : Int32)).toNatClampNeg)) ≤ 0 then
 (fX7_pass_L4 n4 (v1 + (1 : Int32)) (v2 + (1 : Int32)) (zxU (zxU I_4 6 v2.toNatClampNeg ((I_4 6 v2.toNatClampNeg) - (-1 : Int32))) 6 (v2 + (1 : Int32)).toNatClampNeg (((zxU I_4 6 v2.toNatClampNeg ((I_4 6 v2.toNatClampNeg) - (-1 : Int32))) 6 (v2 + (1 : Int32)).toNatClampNeg) + (-1 : Int32)))) else
 (fX7_pass_L4 n4 (v1 + (1 : Int32)) (v2 + (1 : Int32)) (zxU (zxU I_4 6 v2.toNatClampNeg ((I_4 6 v2.toNatClampNeg) - (1 : Int32))) 6 (v2 + (1 : Int32)).toNatClampNeg (((zxU I_4 6 v2.toNatClampNeg ((I_4 6 v2.toNatClampNeg) - (1 : Int32))) 6 (v2 + (1 : Int32)).toNatClampNeg) + (1 : Int32)))))))))) else none) else none))
def fX7_pass (I : zxI) : Option (Int32 × zxI) :=
  (fX7_pass_L4 1000 (0 : Int32) (0 : Int32) I)

def fX7_drop_L4  : Nat → Int32 → Int32 → zxI → Option (Int32 × zxI)
  | 0, _, _, _ => none
  | n4 + 1, v1, v2, I => (if (I 0 5) ≤ v2 then
 (some (v1, (zxU I 0 8 ((I 0 8) ||| v1)))) else
 (zxB (fX7_isOf (I 0 8) v2 I) (fun (r_2 : Int32) (I_2 : zxI) =>
 (if r_2 = 0 then
 (if zxIn v2 6 = true then
 (zxB (fX7_bearsOf v2 I_2) (fun (r_5 : Int32) (I_5 : zxI) =>
 (if (I_2 6 v2.toNatClampNeg) ≤ r_5 then
 (fX7_drop_L4 n4 (v1 ||| (0 : Int32)) (v2 + (1 : Int32)) I_5) else
 (fX7_drop_L4 n4 (v1 ||| ((1 : Int32) <<< (v2 &&& 31))) (v2 + (1 : Int32)) I_5)))) else none) else
 (fX7_drop_L4 n4 (v1 ||| (0 : Int32)) (v2 + (1 : Int32)) I_2)))))
def fX7_drop (I : zxI) : Option (Int32 × zxI) :=
  (fX7_drop_L4 1000 (0 : Int32) (0 : Int32) I)

def fX7_sayIn (x1 : Int32) (x2 : Int32) (I : zxI) : Option zxI :=
  (if zxIn x1 6 = true then
 (if zxIn x2 4 = true then
 (if 0 ≤ (((I 6 x1.toNatClampNeg) + (I 4 x2.toNatClampNeg)) - (4 : Int32)) then
 (if (((I 6 x1.toNatClampNeg) + (I 4 x2.toNatClampNeg)) - (4 : Int32)) ≤ (40 : Int32) then
 (some (zxU I 6 x1.toNatClampNeg (((I 6 x1.toNatClampNeg) + (I 4 x2.toNatClampNeg)) - (4 : Int32)))) else
 (some (zxU I 6 x1.toNatClampNeg (40 : Int32)))) else
 (some (zxU I 6 x1.toNatClampNeg (0 : Int32)))) else none) else none)

def fX7_breathe (x1 : Int32) (x2 : Int32) (I : zxI) : Option (Int32 × zxI) :=
  (zxV (fX7_sayIn x1 x2 I) (fun (I_1 : zxI) =>
 (zxB (fX7_pass I_1) (fun (r_2 : Int32) (I_2 : zxI) =>
 (zxB (fX7_drop I_2) (fun (r_3 : Int32) (I_3 : zxI) =>
 (some (r_3, I_3))))))))

def fX7_say (x1 : Int32) (x2 : Int32) (I : zxI) : Option (Int32 × zxI) :=
  (zxB (fX7_isGallery x1 I) (fun (r_1 : Int32) (I_1 : zxI) =>
 (if r_1 = 0 then
 (some ((-1 : Int32), I_1)) else
 (zxB (fX7_isWord x2 I_1) (fun (r_3 : Int32) (I_3 : zxI) =>
 (if r_3 = 0 then
 (some ((-1 : Int32), I_3)) else
 (zxB (fX7_breathe x1 x2 (zxU I_3 0 7 ((I_3 0 7) + (1 : Int32)))) (fun (r_5 : Int32) (I_5 : zxI) =>
 (some (r_5, I_5))))))))))

def fX7_hush_L27  : Nat → Int32 → Int32 → Int32 → zxI → Option (Int32 × zxI)
  | 0, _, _, _, _ => none
  | n27 + 1, v1, v2, v3, I => (if v1 ≤ v3 then
 (some (v2, (zxU I 0 7 ((I 0 7) + v1)))) else
 (zxB (fX7_pass I) (fun (r_5 : Int32) (I_5 : zxI) =>
 (zxB (fX7_drop I_5) (fun (r_6 : Int32) (I_6 : zxI) =>
 (fX7_hush_L27 n27 v1 (v2 ||| r_6) (v3 + (1 : Int32)) I_6))))))
def fX7_hush (x1 : Int32) (I : zxI) : Option (Int32 × zxI) :=
  (zxB (fX7_within x1 (1 : Int32) (30 : Int32) I) (fun (r_1 : Int32) (I_1 : zxI) =>
 (if r_1 = 0 then
 (some ((-2 : Int32), I_1)) else
 (if (I_1 0 5) = 0 then
 (some ((-3 : Int32), I_1)) else
 (fX7_hush_L27 1000 x1 (0 : Int32) (0 : Int32) I_1)))))

def fX7_size_L4  : Nat → Int32 → Int32 → zxI → Option (Int32 × zxI)
  | 0, _, _, _ => none
  | n4 + 1, v1, v2, I => (if v2 ≤ 0 then
 (some (v1, I)) else
 (fX7_size_L4 n4 (v1 + (v2 &&& (1 : Int32))) (v2 >>> ((1 : Int32) &&& 31)) I))
def fX7_size (x0 : Int32) (I : zxI) : Option (Int32 × zxI) :=
  (fX7_size_L4 1000 (0 : Int32) x0 I)

def fX7_blow (x1 : Int32) (I : zxI) : Option (Int32 × zxI) :=
  (zxB (fX7_isGallery x1 I) (fun (r_1 : Int32) (I_1 : zxI) =>
 (if r_1 = 0 then
 (some ((-1 : Int32), I_1)) else
 (zxB (fX7_isOf (I_1 0 8) x1 I_1) (fun (r_3 : Int32) (I_3 : zxI) =>
 (if r_3 = 0 then
 (some ((-3 : Int32), I_3)) else
 (if zxIn x1 6 = true then
 (zxB (fX7_bearsOf x1 I_3) (fun (r_6 : Int32) (I_6 : zxI) =>
 (if (I_3 6 x1.toNatClampNeg) ≤ r_6 then
 (zxB (fX7_size ((zxU I_6 0 8 ((I_6 0 8) &&& (((1 : Int32) <<< (x1 &&& 31)) ^^^ (-1 : Int32)))) 0 8) (zxU I_6 0 8 ((I_6 0 8) &&& (((1 : Int32) <<< (x1 &&& 31)) ^^^ (-1 : Int32))))) (fun (r_8 : Int32) (I_8 : zxI) =>
 (some (r_8, I_8)))) else
 (some ((-3 : Int32), I_6))))) else none)))))))

def fX7_keep_L10  : Nat → Int32 → zxI → Option zxI
  | 0, _, _ => none
  | n10 + 1, v1, I => (if (I 0 5) ≤ v1 then
 (some I) else
 (if zxIn v1 6 = true then
 (fX7_keep_L10 n10 (v1 + (1 : Int32)) (zxU I 10 v1.toNatClampNeg (I 6 v1.toNatClampNeg))) else none))
def fX7_keep (I : zxI) : Option zxI :=
  (fX7_keep_L10 1000 (0 : Int32) (zxU I 0 20 (I 0 8)))

def fX7_putBack_L10  : Nat → Int32 → zxI → Option zxI
  | 0, _, _ => none
  | n10 + 1, v1, I => (if (I 0 5) ≤ v1 then
 (some I) else
 (if zxIn v1 6 = true then
 (fX7_putBack_L10 n10 (v1 + (1 : Int32)) (zxU I 6 v1.toNatClampNeg (I 10 v1.toNatClampNeg))) else none))
def fX7_putBack (I : zxI) : Option zxI :=
  (fX7_putBack_L10 1000 (0 : Int32) (zxU I 0 8 (I 0 20)))

def fX7_refusesPairs_L2  : Nat → Int32 → Int32 → Int32 → zxI → Option (Int32 × zxI)
  | 0, _, _, _, _ => none
  | n2 + 1, v1, v2, v3, I => (if v2 ≤ v3 then
 (some ((0 : Int32), I)) else
 (if zxIn (v1 + ((2 : Int32) * v3)) 240 = true then
 (zxB (fX7_isGallery (I 3 (v1 + ((2 : Int32) * v3)).toNatClampNeg) I) (fun (r_3 : Int32) (I_3 : zxI) =>
 (if r_3 = 0 then
 (some ((-1 : Int32), I_3)) else
 (if zxIn ((v1 + ((2 : Int32) * v3)) + (1 : Int32)) 240 = true then
 (zxB (fX7_isWord (I_3 3 ((v1 + ((2 : Int32) * v3)) + (1 : Int32)).toNatClampNeg) I_3) (fun (r_6 : Int32) (I_6 : zxI) =>
 (if r_6 = 0 then
 (some ((-1 : Int32), I_6)) else
 (fX7_refusesPairs_L2 n2 v1 v2 (v3 + (1 : Int32)) I_6)))) else none)))) else none))
def fX7_refusesPairs (x1 : Int32) (x2 : Int32) (I : zxI) : Option (Int32 × zxI) :=
  (fX7_refusesPairs_L2 1000 x1 x2 (0 : Int32) I)

def fX7_goShift_L13  : Nat → Int32 → Int32 → Int32 → zxI → Option zxI
  | 0, _, _, _, _ => none
  | n13 + 1, v1, v2, v3, I => (if v2 ≤ v3 then
 (some I) else
 (if zxIn (v1 + ((2 : Int32) * v3)) 240 = true then
 (if zxIn ((v1 + ((2 : Int32) * v3)) + (1 : Int32)) 240 = true then
 (zxB (fX7_breathe (I 3 (v1 + ((2 : Int32) * v3)).toNatClampNeg) (I 3 ((v1 + ((2 : Int32) * v3)) + (1 : Int32)).toNatClampNeg) I) (fun (r_4 : Int32) (I_4 : zxI) =>
 (zxB (fX7_size r_4 I_4) (fun (r_5 : Int32) (I_5 : zxI) =>
 (if ((zxU I_5 0 21 ((I_4 0 21) + r_5)) 0 22) = (-9 : Int32) then
 (if r_4 = 0 then
 (fX7_goShift_L13 n13 v1 v2 (v3 + (1 : Int32)) (zxU (zxU I_5 0 21 ((I_4 0 21) + r_5)) 0 22 ((zxU I_5 0 21 ((I_4 0 21) + r_5)) 0 22))) else
 (fX7_goShift_L13 n13 v1 v2 (v3 + (1 : Int32)) (zxU (zxU I_5 0 21 ((I_4 0 21) + r_5)) 0 22 v3))) else
 (fX7_goShift_L13 n13 v1 v2 (v3 + (1 : Int32)) (zxU (zxU I_5 0 21 ((I_4 0 21) + r_5)) 0 22 ((zxU I_5 0 21 ((I_4 0 21) + r_5)) 0 22)))))))) else none) else none))
def fX7_goShift (x1 : Int32) (x2 : Int32) (I : zxI) : Option zxI :=
  (fX7_goShift_L13 1000 x1 x2 (0 : Int32) (zxU (zxU I 0 21 (0 : Int32)) 0 22 (-9 : Int32)))

def fX7_refuses (x1 : Int32) (x2 : Int32) (x3 : Int32) (x4 : Int32) (x5 : Int32) (x6 : Int32) (I : zxI) : Option (Int32 × zxI) :=
  (zxB (fX7_isSheet x1 I) (fun (r_1 : Int32) (I_1 : zxI) =>
 (if r_1 = 0 then
 (some ((-1 : Int32), I_1)) else
 (zxB (fX7_isSort x2 I_1) (fun (r_3 : Int32) (I_3 : zxI) =>
 (if r_3 = 0 then
 (some ((-2 : Int32), I_3)) else
 (zxB (fX7_within x4 (0 : Int32) x5 I_3) (fun (r_5 : Int32) (I_5 : zxI) =>
 (if r_5 = 0 then
 (some ((-2 : Int32), I_5)) else
 (if x6 = 0 then
 (some ((-2 : Int32), I_5)) else
 (zxB (fX7_against x1 x2 x3 ((2 : Int32) * x4) I_5) (fun (r_8 : Int32) (I_8 : zxI) =>
 (if r_8 = 0 then
 (if (I_8 0 5) = 0 then
 (some ((-3 : Int32), I_8)) else
 (zxB (fX7_refusesPairs (((60 : Int32) * x1) + x3) x4 I_8) (fun (r_11 : Int32) (I_11 : zxI) =>
 (some (r_11, I_11))))) else
 (zxB (fX7_fails r_8 I_8) (fun (r_12 : Int32) (I_12 : zxI) =>
 (some (r_12, I_12)))))))))))))))))

def fX7_tellShift_L69  : Nat → Int32 → Int32 → zxI → Option (Int32 × zxI)
  | 0, _, _, _ => none
  | n69 + 1, v2, v3, I => (if (I 0 5) ≤ v3 then
 (some (v2, I)) else
 (if zxIn v3 6 = true then
 (fX7_tellShift_L69 n69 (v2 + (I 6 v3.toNatClampNeg)) (v3 + (1 : Int32)) I) else none))
def fX7_tellShift (x1 : Int32) (I : zxI) : Option (Int32 × zxI) :=
  (if x1 < (10 : Int32) then
 (if (3 : Int32) ≤ x1 then
 (fX7_tellShift_L69 1000 (0 : Int32) (0 : Int32) I) else
 (if x1 = 0 then
 (some ((I 0 21), I)) else
 (if x1 = (1 : Int32) then
 (some ((I 0 22), I)) else
 (some ((I 0 8), I))))) else
 (zxB (fX7_isGallery (x1 - (10 : Int32)) I) (fun (r_7 : Int32) (I_7 : zxI) =>
 (if r_7 = 0 then
 (some ((-9 : Int32), I_7)) else
 (if zxIn (x1 - (10 : Int32)) 6 = true then
 (some ((I_7 6 (x1 - (10 : Int32)).toNatClampNeg), I_7)) else none)))))

def fX7_shift (x1 : Int32) (x2 : Int32) (x3 : Int32) (x4 : Int32) (x5 : Int32) (I : zxI) : Option (Int32 × zxI) :=
  (zxB (fX7_within x5 (0 : Int32) (3 : Int32) (zxU I 0 0 (0 : Int32))) (fun (r_1 : Int32) (I_1 : zxI) =>
 (if r_1 = 0 then
 (zxB (fX7_within x5 (10 : Int32) (15 : Int32) I_1) (fun (r_9 : Int32) (I_9 : zxI) =>
 (if r_9 = 0 then
 (zxB (fX7_refuses x1 x2 x3 x4 (20 : Int32) (0 : Int32) I_9) (fun (r_11 : Int32) (I_11 : zxI) =>
 (if r_11 = 0 then
 (zxV (fX7_keep I_11) (fun (I_13 : zxI) =>
 (zxV (fX7_goShift (((60 : Int32) * x1) + x3) x4 I_13) (fun (I_14 : zxI) =>
 (zxB (fX7_tellShift x5 I_14) (fun (r_15 : Int32) (I_15 : zxI) =>
 (zxV (fX7_putBack I_15) (fun (I_16 : zxI) =>
 (some (r_15, I_16)))))))))) else
 (some (r_11, I_11))))) else
 (zxB (fX7_refuses x1 x2 x3 x4 (20 : Int32) (1 : Int32) I_9) (fun (r_17 : Int32) (I_17 : zxI) =>
 (if r_17 = 0 then
 (zxV (fX7_keep I_17) (fun (I_19 : zxI) =>
 (zxV (fX7_goShift (((60 : Int32) * x1) + x3) x4 I_19) (fun (I_20 : zxI) =>
 (zxB (fX7_tellShift x5 I_20) (fun (r_21 : Int32) (I_21 : zxI) =>
 (zxV (fX7_putBack I_21) (fun (I_22 : zxI) =>
 (some (r_21, I_22)))))))))) else
 (some (r_17, I_17)))))))) else
 (zxB (fX7_refuses x1 x2 x3 x4 (20 : Int32) (1 : Int32) I_1) (fun (r_3 : Int32) (I_3 : zxI) =>
 (if r_3 = 0 then
 (zxV (fX7_keep I_3) (fun (I_5 : zxI) =>
 (zxV (fX7_goShift (((60 : Int32) * x1) + x3) x4 I_5) (fun (I_6 : zxI) =>
 (zxB (fX7_tellShift x5 I_6) (fun (r_7 : Int32) (I_7 : zxI) =>
 (zxV (fX7_putBack I_7) (fun (I_8 : zxI) =>
 (some (r_7, I_8)))))))))) else
 (some (r_3, I_3))))))))

def fX7_orderOf_L53 (kk : Int32 → Int32 → Int32 → Int32 → Int32 → zxI → Option zxI) : Nat → Int32 → Int32 → Int32 → Int32 → Int32 → Int32 → Int32 → zxI → Option zxI
  | 0, _, _, _, _, _, _, _, _ => none
  | n53 + 1, v2, v3, v4, v5, v6, v7, v8, I => (zxB (fX7_isOf v5 v8 I) (fun (r_5 : Int32) (I_5 : zxI) =>
 (if r_5 = 0 then
 (if v7 ≤ 0 then
 (if zxIn v6 6 = true then
 (if ((v2 - v6) - (1 : Int32)) ≤ (1 : Int32) then
 (kk v2 v3 (1 : Int32) (v5 ||| ((1 : Int32) <<< (v8 &&& 31))) (v6 + (1 : Int32)) (zxU I_5 11 v6.toNatClampNeg v8)) else
 (if ¬ ((v2 - v6) - (1 : Int32)) = 0 then
 (kk v2 v3 (v4 / ((v2 - v6) - (1 : Int32))) (v5 ||| ((1 : Int32) <<< (v8 &&& 31))) (v6 + (1 : Int32)) (zxU I_5 11 v6.toNatClampNeg v8)) else none)) else none) else
 (zxB (fX7_isOf v5 v8 I_5) (fun (r_13 : Int32) (I_13 : zxI) =>
 (if r_13 = 0 then
 (fX7_orderOf_L53 kk n53 v2 v3 v4 v5 v6 (v7 - (1 : Int32)) (v8 + (1 : Int32)) I_13) else
 (fX7_orderOf_L53 kk n53 v2 v3 v4 v5 v6 (v7 - (0 : Int32)) (v8 + (1 : Int32)) I_13))))) else
 (zxB (fX7_isOf v5 v8 I_5) (fun (r_7 : Int32) (I_7 : zxI) =>
 (if r_7 = 0 then
 (fX7_orderOf_L53 kk n53 v2 v3 v4 v5 v6 (v7 - (1 : Int32)) (v8 + (1 : Int32)) I_7) else
 (fX7_orderOf_L53 kk n53 v2 v3 v4 v5 v6 (v7 - (0 : Int32)) (v8 + (1 : Int32)) I_7)))))))
def fX7_orderOf_L33  : Nat → Int32 → Int32 → Int32 → Int32 → Int32 → zxI → Option zxI
  | 0, _, _, _, _, _, _ => none
  | n33 + 1, v2, v3, v4, v5, v6, I => (if v2 ≤ v6 then
 (some I) else
 (if ¬ v4 = 0 then
 (fX7_orderOf_L53 (fun a0 a1 a2 a3 a4 I => (fX7_orderOf_L33 n33 a0 a1 a2 a3 a4 I)) 1000 v2 (v3 - v3 / v4 * v4) v4 v5 v6 (v3 / v4) (0 : Int32) I) else none))
def fX7_orderOf_L8  : Nat → Int32 → Int32 → Int32 → Int32 → zxI → Option zxI
  | 0, _, _, _, _, _ => none
  | n8 + 1, v2, v3, v4, v5, I => (if v2 ≤ v5 then
 (fX7_orderOf_L33 1000 v2 v3 v4 (0 : Int32) (0 : Int32) I) else
 (fX7_orderOf_L8 n8 v2 v3 (v4 * v5) (v5 + (1 : Int32)) I))
def fX7_orderOf (x1 : Int32) (x2 : Int32) (I : zxI) : Option zxI :=
  (fX7_orderOf_L8 1000 x2 x1 (1 : Int32) (2 : Int32) I)

def fX7_ordersOf_L4  : Nat → Int32 → Int32 → Int32 → zxI → Option (Int32 × zxI)
  | 0, _, _, _, _ => none
  | n4 + 1, v0, v1, v2, I => (if v0 < v2 then
 (some (v1, I)) else
 (fX7_ordersOf_L4 n4 v0 (v1 * v2) (v2 + (1 : Int32)) I))
def fX7_ordersOf (x0 : Int32) (I : zxI) : Option (Int32 × zxI) :=
  (fX7_ordersOf_L4 1000 x0 (1 : Int32) (2 : Int32) I)

def fX7_isQuiet_L9  : Nat → Int32 → Int32 → Int32 → Int32 → zxI → Option (Int32 × zxI)
  | 0, _, _, _, _, _ => none
  | n9 + 1, v1, v2, v3, v4, I => (if v2 ≤ v4 then
 (zxV (fX7_putBack I) (fun (I_3 : zxI) =>
 (if v3 = 0 ∨ v3 = 1 then
 (some (v3, I_3)) else none))) else
 (if v3 = 0 then
 (zxV (fX7_putBack I) (fun (I_6 : zxI) =>
 (if v3 = 0 ∨ v3 = 1 then
 (some (v3, I_6)) else none))) else
 (if zxIn v4 6 = true then
 (if zxIn (v1 + ((2 : Int32) * (I 11 v4.toNatClampNeg))) 240 = true then
 (if zxIn ((v1 + ((2 : Int32) * (I 11 v4.toNatClampNeg))) + (1 : Int32)) 240 = true then
 (zxB (fX7_breathe (I 3 (v1 + ((2 : Int32) * (I 11 v4.toNatClampNeg))).toNatClampNeg) (I 3 ((v1 + ((2 : Int32) * (I 11 v4.toNatClampNeg))) + (1 : Int32)).toNatClampNeg) I) (fun (r_12 : Int32) (I_12 : zxI) =>
 (if r_12 = 0 then
 (fX7_isQuiet_L9 n9 v1 v2 (1 : Int32) (v4 + (1 : Int32)) I_12) else
 (fX7_isQuiet_L9 n9 v1 v2 (0 : Int32) (v4 + (1 : Int32)) I_12)))) else none) else none) else none)))
def fX7_isQuiet (x1 : Int32) (x2 : Int32) (I : zxI) : Option (Int32 × zxI) :=
  (zxV (fX7_keep I) (fun (I_1 : zxI) =>
 (fX7_isQuiet_L9 1000 x1 x2 (1 : Int32) (0 : Int32) I_1)))

def fX7_order_L46  : Nat → Int32 → Int32 → Int32 → Int32 → Int32 → zxI → Option (Int32 × zxI)
  | 0, _, _, _, _, _, _ => none
  | n46 + 1, v1, v3, v4, v5, v7, I => (zxB (fX7_ordersOf v4 I) (fun (r_5 : Int32) (I_5 : zxI) =>
 (if r_5 ≤ v7 then
 (some ((-9 : Int32), I_5)) else
 (zxV (fX7_orderOf v7 v4 I_5) (fun (I_7 : zxI) =>
 (zxB (fX7_isQuiet (((60 : Int32) * v1) + v3) v4 I_7) (fun (r_8 : Int32) (I_8 : zxI) =>
 (if r_8 = 0 then
 (fX7_order_L46 n46 v1 v3 v4 v5 (v7 + (1 : Int32)) I_8) else
 (if zxIn v5 6 = true then
 (some ((I_8 11 v5.toNatClampNeg), I_8)) else none)))))))))
def fX7_order (x1 : Int32) (x2 : Int32) (x3 : Int32) (x4 : Int32) (x5 : Int32) (I : zxI) : Option (Int32 × zxI) :=
  (zxB (fX7_within x5 (0 : Int32) (5 : Int32) (zxU I 0 0 (0 : Int32))) (fun (r_1 : Int32) (I_1 : zxI) =>
 (zxB (fX7_refuses x1 x2 x3 x4 (6 : Int32) r_1 I_1) (fun (r_2 : Int32) (I_2 : zxI) =>
 (if r_2 = 0 then
 (if x5 < x4 then
 (fX7_order_L46 1000 x1 x3 x4 x5 (0 : Int32) I_2) else
 (some ((-9 : Int32), I_2))) else
 (some (r_2, I_2)))))))

def fX7_shut_L49  : Nat → Int32 → Int32 → Int32 → Int32 → Int32 → Int32 → Int32 → Int32 → zxI → Option (Int32 × zxI)
  | 0, _, _, _, _, _, _, _, _, _ => none
  | n49 + 1, v1, v3, v4, v5, v7, v8, v9, v10, I => (if ((1 : Int32) <<< (((I 0 5) - (1 : Int32)) &&& 31)) ≤ v10 then
 (if v5 = 0 then
 (some (v8, (zxU I 0 9 v7))) else
 (some (v9, (zxU I 0 9 v7)))) else
 (zxV (fX7_keep (zxU I 0 9 v10)) (fun (I_6 : zxI) =>
 (zxV (fX7_goShift (((60 : Int32) * v1) + v3) v4 I_6) (fun (I_7 : zxI) =>
 (zxV (fX7_putBack I_7) (fun (I_8 : zxI) =>
 (if v9 = (-9 : Int32) then
 (fX7_shut_L49 n49 v1 v3 v4 v5 v7 v10 (I_8 0 21) (v10 + (1 : Int32)) I_8) else
 (if (I_8 0 21) < v9 then
 (fX7_shut_L49 n49 v1 v3 v4 v5 v7 v10 (I_8 0 21) (v10 + (1 : Int32)) I_8) else
 (if (I_8 0 21) = v9 then
 (zxB (fX7_size v10 I_8) (fun (r_12 : Int32) (I_12 : zxI) =>
 (zxB (fX7_size v8 I_12) (fun (r_13 : Int32) (I_13 : zxI) =>
 (if r_13 ≤ r_12 then
 (fX7_shut_L49 n49 v1 v3 v4 v5 v7 v8 v9 (v10 + (1 : Int32)) I_13) else
 (fX7_shut_L49 n49 v1 v3 v4 v5 v7 v10 (I_13 0 21) (v10 + (1 : Int32)) I_13)))))) else
 (fX7_shut_L49 n49 v1 v3 v4 v5 v7 v8 v9 (v10 + (1 : Int32)) I_8)))))))))))
def fX7_shut (x1 : Int32) (x2 : Int32) (x3 : Int32) (x4 : Int32) (x5 : Int32) (I : zxI) : Option (Int32 × zxI) :=
  (zxB (fX7_within x5 (0 : Int32) (1 : Int32) (zxU I 0 0 (0 : Int32))) (fun (r_1 : Int32) (I_1 : zxI) =>
 (zxB (fX7_refuses x1 x2 x3 x4 (20 : Int32) r_1 I_1) (fun (r_2 : Int32) (I_2 : zxI) =>
 (if r_2 = 0 then
 (fX7_shut_L49 1000 x1 x3 x4 x5 (I_2 0 9) (0 : Int32) (-9 : Int32) (0 : Int32) I_2) else
 (some (r_2, I_2)))))))

def fX7_rests_L16  : Nat → Int32 → zxI → Option (Int32 × zxI)
  | 0, _, _ => none
  | n16 + 1, v1, I => (if (60 : Int32) < v1 then
 (zxV (fX7_putBack I) (fun (I_4 : zxI) =>
 (if (60 : Int32) < v1 then
 (some ((-9 : Int32), I_4)) else
 (some (v1, I_4))))) else
 (zxB (fX7_pass I) (fun (r_6 : Int32) (I_6 : zxI) =>
 (if r_6 ≤ 0 then
 (zxV (fX7_putBack I_6) (fun (I_8 : zxI) =>
 (if (60 : Int32) < v1 then
 (some ((-9 : Int32), I_8)) else
 (some (v1, I_8))))) else
 (fX7_rests_L16 n16 (v1 + (1 : Int32)) I_6)))))
def fX7_rests (I : zxI) : Option (Int32 × zxI) :=
  (if (I 0 5) = 0 then
 (some ((-3 : Int32), I)) else
 (zxV (fX7_keep I) (fun (I_2 : zxI) =>
 (fX7_rests_L16 1000 (0 : Int32) I_2))))

def fX7_clears_L29  : Nat → Int32 → Int32 → Int32 → zxI → Option (Int32 × zxI)
  | 0, _, _, _, _ => none
  | n29 + 1, v1, v2, v3, I => (if (60 : Int32) < v3 then
 (zxV (fX7_putBack I) (fun (I_7 : zxI) =>
 (if (60 : Int32) < v3 then
 (some ((-9 : Int32), I_7)) else
 (some (v3, I_7))))) else
 (if zxIn v1 6 = true then
 (if (I 6 v1.toNatClampNeg) ≤ v2 then
 (zxV (fX7_putBack I) (fun (I_11 : zxI) =>
 (if (60 : Int32) < v3 then
 (some ((-9 : Int32), I_11)) else
 (some (v3, I_11))))) else
 (zxB (fX7_pass I) (fun (r_13 : Int32) (I_13 : zxI) =>
 (fX7_clears_L29 n29 v1 v2 (v3 + (1 : Int32)) I_13)))) else none))
def fX7_clears (x1 : Int32) (x2 : Int32) (I : zxI) : Option (Int32 × zxI) :=
  (zxB (fX7_isGallery x1 I) (fun (r_1 : Int32) (I_1 : zxI) =>
 (if r_1 = 0 then
 (some ((-1 : Int32), I_1)) else
 (zxB (fX7_within x2 (0 : Int32) (40 : Int32) I_1) (fun (r_3 : Int32) (I_3 : zxI) =>
 (if r_3 = 0 then
 (some ((-2 : Int32), I_3)) else
 (zxV (fX7_keep I_3) (fun (I_5 : zxI) =>
 (fX7_clears_L29 1000 x1 x2 (0 : Int32) I_5)))))))))

def fX7_findPerches_L84 (kk : Int32 → Int32 → zxI → Option (Int32 × zxI)) : Nat → Int32 → Int32 → Int32 → zxI → Option (Int32 × zxI)
  | 0, _, _, _, _ => none
  | n84 + 1, v1, v2, v4, I => (if (I 0 5) ≤ v4 then
 (kk v1 (v2 + (1 : Int32)) I) else
 (if zxIn v4 6 = true then
 (fX7_findPerches_L84 kk n84 v1 v2 (v4 + (1 : Int32)) (zxU I 12 v4.toNatClampNeg (I 11 v4.toNatClampNeg))) else none))
def fX7_findPerches_L30 (kk : Int32 → Int32 → zxI → Option (Int32 × zxI)) : Nat → Int32 → Int32 → Int32 → Int32 → zxI → Option (Int32 × zxI)
  | 0, _, _, _, _, _ => none
  | n30 + 1, v1, v2, v3, v4, I => (if (I 0 5) ≤ v4 then
 (if v3 ≤ v1 then
 (kk v1 (v2 + (1 : Int32)) I) else
 (fX7_findPerches_L84 (fun a0 a1 I => (kk a0 a1 I)) 1000 v3 v2 (0 : Int32) I)) else
 (if zxIn v4 6 = true then
 (zxB (fX7_bearsOf (I 11 v4.toNatClampNeg) I) (fun (r_11 : Int32) (I_11 : zxI) =>
 (if r_11 < (I 6 v4.toNatClampNeg) then
 (fX7_findPerches_L30 kk n30 v1 v2 (v3 + (0 : Int32)) (v4 + (1 : Int32)) I_11) else
 (fX7_findPerches_L30 kk n30 v1 v2 (v3 + (1 : Int32)) (v4 + (1 : Int32)) I_11)))) else none))
def fX7_findPerches_L5  : Nat → Int32 → Int32 → zxI → Option (Int32 × zxI)
  | 0, _, _, _ => none
  | n5 + 1, v1, v2, I => (zxB (fX7_ordersOf (I 0 5) I) (fun (r_1 : Int32) (I_1 : zxI) =>
 (if r_1 ≤ v2 then
 (some (v1, I_1)) else
 (zxV (fX7_orderOf v2 (I_1 0 5) I_1) (fun (I_3 : zxI) =>
 (fX7_findPerches_L30 (fun a0 a1 I => (fX7_findPerches_L5 n5 a0 a1 I)) 1000 v1 v2 (0 : Int32) (0 : Int32) I_3))))))
def fX7_findPerches (I : zxI) : Option (Int32 × zxI) :=
  (fX7_findPerches_L5 1000 (-9 : Int32) (0 : Int32) I)

def fX7_perches (x1 : Int32) (I : zxI) : Option (Int32 × zxI) :=
  (zxB (fX7_within x1 (-1 : Int32) (5 : Int32) I) (fun (r_1 : Int32) (I_1 : zxI) =>
 (if r_1 = 0 then
 (some ((-2 : Int32), I_1)) else
 (if (I_1 0 5) = 0 then
 (some ((-3 : Int32), I_1)) else
 (zxB (fX7_findPerches I_1) (fun (r_4 : Int32) (I_4 : zxI) =>
 (if x1 = (-1 : Int32) then
 (some (r_4, I_4)) else
 (zxB (fX7_isGallery x1 I_4) (fun (r_6 : Int32) (I_6 : zxI) =>
 (if r_6 = 0 then
 (some ((-9 : Int32), I_6)) else
 (if zxIn x1 6 = true then
 (some ((I_6 12 x1.toNatClampNeg), I_6)) else none)))))))))))

def fX7_isFound_L17  : Nat → Int32 → Int32 → Int32 → zxI → Option (Int32 × zxI)
  | 0, _, _, _, _ => none
  | n17 + 1, v1, v4, v5, I => (if (I 0 5) ≤ v5 then
 (zxV (fX7_putBack I) (fun (I_4 : zxI) =>
 (if v4 = 0 ∨ v4 = 1 then
 (some (v4, I_4)) else none))) else
 (if v4 = 0 then
 (fX7_isFound_L17 n17 v1 (0 : Int32) (v5 + (1 : Int32)) I) else
 (if zxIn v5 6 = true then
 (if zxIn (v1 + v5) 240 = true then
 (if (I 6 v5.toNatClampNeg) = (I 3 (v1 + v5).toNatClampNeg) then
 (fX7_isFound_L17 n17 v1 (1 : Int32) (v5 + (1 : Int32)) I) else
 (fX7_isFound_L17 n17 v1 (0 : Int32) (v5 + (1 : Int32)) I)) else none) else none)))
def fX7_isFound (x1 : Int32) (x2 : Int32) (x3 : Int32) (I : zxI) : Option (Int32 × zxI) :=
  (zxV (fX7_keep I) (fun (I_1 : zxI) =>
 (zxB (fX7_breathe x2 x3 I_1) (fun (r_2 : Int32) (I_2 : zxI) =>
 (fX7_isFound_L17 1000 x1 (1 : Int32) (0 : Int32) I_2)))))

def fX7_found_L76  : Nat → Int32 → Int32 → Int32 → Int32 → Int32 → zxI → Option (Int32 × zxI)
  | 0, _, _, _, _, _, _ => none
  | n76 + 1, v1, v3, v4, v6, v7, I => (if ((I 0 5) * (I 0 6)) ≤ v7 then
 (if v4 = (-1 : Int32) then
 (some (v6, I)) else
 (some ((-9 : Int32), I))) else
 (if ¬ (I 0 6) = 0 then
 (zxB (fX7_isFound (((60 : Int32) * v1) + v3) (v7 / (I 0 6)) (v7 - v7 / (I 0 6) * (I 0 6)) I) (fun (r_14 : Int32) (I_14 : zxI) =>
 (if r_14 = 0 then
 (fX7_found_L76 n76 v1 v3 v4 v6 (v7 + (1 : Int32)) I_14) else
 (if v6 = v4 then
 (if ¬ (I_14 0 6) = 0 then
 (some ((((10 : Int32) * (v7 / (I_14 0 6))) + (v7 - v7 / (I_14 0 6) * (I_14 0 6))), I_14)) else none) else
 (fX7_found_L76 n76 v1 v3 v4 (v6 + (1 : Int32)) (v7 + (1 : Int32)) I_14))))) else none))
def fX7_found (x1 : Int32) (x2 : Int32) (x3 : Int32) (x4 : Int32) (I : zxI) : Option (Int32 × zxI) :=
  (zxB (fX7_isSheet x1 (zxU I 0 0 (0 : Int32))) (fun (r_1 : Int32) (I_1 : zxI) =>
 (if r_1 = 0 then
 (some ((-1 : Int32), I_1)) else
 (zxB (fX7_isSort x2 I_1) (fun (r_3 : Int32) (I_3 : zxI) =>
 (if r_3 = 0 then
 (some ((-2 : Int32), I_3)) else
 (zxB (fX7_within x4 (-1 : Int32) (23 : Int32) I_3) (fun (r_5 : Int32) (I_5 : zxI) =>
 (if r_5 = 0 then
 (some ((-2 : Int32), I_5)) else
 (if (I_5 0 5) = 0 then
 (some ((-3 : Int32), I_5)) else
 (zxB (fX7_against x1 x2 x3 (I_5 0 5) I_5) (fun (r_8 : Int32) (I_8 : zxI) =>
 (if r_8 = 0 then
 (fX7_found_L76 1000 x1 x3 x4 (0 : Int32) (0 : Int32) I_8) else
 (zxB (fX7_fails r_8 I_8) (fun (r_19 : Int32) (I_19 : zxI) =>
 (some (r_19, I_19)))))))))))))))))

def fX7_reading (x1 : Int32) (x2 : Int32) (x3 : Int32) (I : zxI) : Option (Int32 × zxI) :=
  (zxB (fX7_isGallery x1 I) (fun (r_1 : Int32) (I_1 : zxI) =>
 (if r_1 = 0 then
 (some ((-1 : Int32), I_1)) else
 (zxB (fX7_within x2 (0 : Int32) (40 : Int32) I_1) (fun (r_3 : Int32) (I_3 : zxI) =>
 (if r_3 = 0 then
 (some ((-2 : Int32), I_3)) else
 (zxB (fX7_within x3 (0 : Int32) (1 : Int32) I_3) (fun (r_5 : Int32) (I_5 : zxI) =>
 (if r_5 = 0 then
 (some ((-2 : Int32), I_5)) else
 (if (I_5 0 25) = (8 : Int32) then
 (some ((-4 : Int32), I_5)) else
 (if zxIn (I_5 0 25) 8 = true then
 (if zxIn ((zxU I_5 13 (I_5 0 25).toNatClampNeg x1) 0 25) 8 = true then
 (if zxIn ((zxU (zxU I_5 13 (I_5 0 25).toNatClampNeg x1) 14 ((zxU I_5 13 (I_5 0 25).toNatClampNeg x1) 0 25).toNatClampNeg x2) 0 25) 8 = true then
 (some ((((zxU (zxU (zxU (zxU I_5 13 (I_5 0 25).toNatClampNeg x1) 14 ((zxU I_5 13 (I_5 0 25).toNatClampNeg x1) 0 25).toNatClampNeg x2) 15 ((zxU (zxU I_5 13 (I_5 0 25).toNatClampNeg x1) 14 ((zxU I_5 13 (I_5 0 25).toNatClampNeg x1) 0 25).toNatClampNeg x2) 0 25).toNatClampNeg x3) 0 25 (((zxU (zxU (zxU I_5 13 (I_5 0 25).toNatClampNeg x1) 14 ((zxU I_5 13 (I_5 0 25).toNatClampNeg x1) 0 25).toNatClampNeg x2) 15 ((zxU (zxU I_5 13 (I_5 0 25).toNatClampNeg x1) 14 ((zxU I_5 13 (I_5 0 25).toNatClampNeg x1) 0 25).toNatClampNeg x2) 0 25).toNatClampNeg x3) 0 25) + (1 : Int32))) 0 25) - (1 : Int32)), (zxU (zxU (zxU (zxU I_5 13 (I_5 0 25).toNatClampNeg x1) 14 ((zxU I_5 13 (I_5 0 25).toNatClampNeg x1) 0 25).toNatClampNeg x2) 15 ((zxU (zxU I_5 13 (I_5 0 25).toNatClampNeg x1) 14 ((zxU I_5 13 (I_5 0 25).toNatClampNeg x1) 0 25).toNatClampNeg x2) 0 25).toNatClampNeg x3) 0 25 (((zxU (zxU (zxU I_5 13 (I_5 0 25).toNatClampNeg x1) 14 ((zxU I_5 13 (I_5 0 25).toNatClampNeg x1) 0 25).toNatClampNeg x2) 15 ((zxU (zxU I_5 13 (I_5 0 25).toNatClampNeg x1) 14 ((zxU I_5 13 (I_5 0 25).toNatClampNeg x1) 0 25).toNatClampNeg x2) 0 25).toNatClampNeg x3) 0 25) + (1 : Int32))))) else none) else none) else none)))))))))))

def fX7_back (x1 : Int32) (I : zxI) : Option (Int32 × zxI) :=
  (zxB (fX7_within x1 (0 : Int32) (I 0 25) I) (fun (r_1 : Int32) (I_1 : zxI) =>
 (if r_1 = 0 then
 (some ((-2 : Int32), I_1)) else
 (some (((zxU I_1 0 25 ((I_1 0 25) - x1)) 0 25), (zxU I_1 0 25 ((I_1 0 25) - x1)))))))

def fX7_areSo_L2  : Nat → Int32 → zxI → Option (Int32 × zxI)
  | 0, _, _ => none
  | n2 + 1, v1, I => (if (I 0 25) ≤ v1 then
 (some ((1 : Int32), I)) else
 (if zxIn v1 8 = true then
 (zxB (fX7_bearsOf (I 13 v1.toNatClampNeg) I) (fun (r_4 : Int32) (I_4 : zxI) =>
 (if (I 14 v1.toNatClampNeg) ≤ r_4 then
 (if (0 : Int32) = (I_4 15 v1.toNatClampNeg) then
 (fX7_areSo_L2 n2 (v1 + (1 : Int32)) I_4) else
 (some ((0 : Int32), I_4))) else
 (if (1 : Int32) = (I_4 15 v1.toNatClampNeg) then
 (fX7_areSo_L2 n2 (v1 + (1 : Int32)) I_4) else
 (some ((0 : Int32), I_4)))))) else none))
def fX7_areSo (I : zxI) : Option (Int32 × zxI) :=
  (fX7_areSo_L2 1000 (0 : Int32) I)

def fX7_strengths_L22  : Nat → Int32 → Int32 → Int32 → Int32 → zxI → Option (Int32 × zxI)
  | 0, _, _, _, _, _ => none
  | n22 + 1, v1, v2, v3, v4, I => (if (9 : Int32) < v4 then
 (if zxIn v1 6 = true then
 (some (v3, (zxU I 7 v1.toNatClampNeg v2))) else none) else
 (if zxIn v1 6 = true then
 (zxB (fX7_areSo (zxU I 7 v1.toNatClampNeg v4)) (fun (r_7 : Int32) (I_7 : zxI) =>
 (if r_7 = 0 then
 (fX7_strengths_L22 n22 v1 v2 (v3 ||| (0 : Int32)) (v4 + (1 : Int32)) I_7) else
 (fX7_strengths_L22 n22 v1 v2 (v3 ||| ((1 : Int32) <<< (v4 &&& 31))) (v4 + (1 : Int32)) I_7)))) else none))
def fX7_strengths (x1 : Int32) (I : zxI) : Option (Int32 × zxI) :=
  (zxB (fX7_isGallery x1 I) (fun (r_1 : Int32) (I_1 : zxI) =>
 (if r_1 = 0 then
 (some ((-1 : Int32), I_1)) else
 (if zxIn x1 6 = true then
 (fX7_strengths_L22 1000 x1 (I_1 7 x1.toNatClampNeg) (0 : Int32) (1 : Int32) I_1) else none))))

def fX7_kinds_L22  : Nat → Int32 → Int32 → Int32 → Int32 → zxI → Option (Int32 × zxI)
  | 0, _, _, _, _, _ => none
  | n22 + 1, v1, v2, v3, v4, I => (if (3 : Int32) ≤ v4 then
 (if zxIn v1 6 = true then
 (some (v3, (zxU I 5 v1.toNatClampNeg v2))) else none) else
 (if zxIn v1 6 = true then
 (zxB (fX7_areSo (zxU I 5 v1.toNatClampNeg v4)) (fun (r_7 : Int32) (I_7 : zxI) =>
 (if r_7 = 0 then
 (fX7_kinds_L22 n22 v1 v2 (v3 ||| (0 : Int32)) (v4 + (1 : Int32)) I_7) else
 (fX7_kinds_L22 n22 v1 v2 (v3 ||| ((1 : Int32) <<< (v4 &&& 31))) (v4 + (1 : Int32)) I_7)))) else none))
def fX7_kinds (x1 : Int32) (I : zxI) : Option (Int32 × zxI) :=
  (zxB (fX7_isGallery x1 I) (fun (r_1 : Int32) (I_1 : zxI) =>
 (if r_1 = 0 then
 (some ((-1 : Int32), I_1)) else
 (if zxIn x1 6 = true then
 (fX7_kinds_L22 1000 x1 (I_1 5 x1.toNatClampNeg) (0 : Int32) (0 : Int32) I_1) else none))))

def fX7_inLeastTerms_L6  : Nat → Int64 → Int64 → Int32 → Int64 → Int64 → zxI → Option (Int64 × zxI)
  | 0, _, _, _, _, _, _ => none
  | n6 + 1, v0, v2, v4, v5, v7, I => (if (lg_cmp v7 (0 : Int64)) = 0 then
 (if v4 = 0 then
 (if ¬ v5 = 0 then
 (some ((v0 / v5), I)) else none) else
 (if ¬ v5 = 0 then
 (some ((v2 / v5), I)) else none)) else
 (if ¬ v7 = 0 then
 (fX7_inLeastTerms_L6 n6 v0 v2 v4 v7 (v5 - v5 / v7 * v7) I) else none))
def fX7_inLeastTerms (x0 : Int64) (x2 : Int64) (x4 : Int32) (I : zxI) : Option (Int64 × zxI) :=
  (fX7_inLeastTerms_L6 1000 x0 x2 x4 x0 x2 I)

def fX7_odds_L26  : Nat → Int32 → Int32 → Int32 → Int32 → zxI → Option (Int64 × zxI)
  | 0, _, _, _, _, _ => none
  | n26 + 1, v1, v2, v3, v4, I => (if ((I 0 5) * (I 0 6)) ≤ v4 then
 (zxB (fX7_inLeastTerms (v3.toInt64) (((I 0 5) * (I 0 6)).toInt64) v2 I) (fun (r_6 : Int64) (I_6 : zxI) =>
 (some (r_6, I_6)))) else
 (zxV (fX7_keep I) (fun (I_7 : zxI) =>
 (if ¬ (I_7 0 6) = 0 then
 (zxB (fX7_breathe (v4 / (I_7 0 6)) (v4 - v4 / (I_7 0 6) * (I_7 0 6)) I_7) (fun (r_10 : Int32) (I_10 : zxI) =>
 (zxV (fX7_putBack I_10) (fun (I_11 : zxI) =>
 (fX7_odds_L26 n26 v1 v2 (v3 + (((I_10 0 8) >>> (v1 &&& 31)) &&& (1 : Int32))) (v4 + (1 : Int32)) I_11))))) else none))))
def fX7_odds (x1 : Int32) (x2 : Int32) (I : zxI) : Option (Int64 × zxI) :=
  (zxB (fX7_isGallery x1 I) (fun (r_1 : Int32) (I_1 : zxI) =>
 (if r_1 = 0 then
 (some ((-9223372036854775808 : Int64), I_1)) else
 (zxB (fX7_within x2 (0 : Int32) (1 : Int32) I_1) (fun (r_3 : Int32) (I_3 : zxI) =>
 (if r_3 = 0 then
 (some ((-9223372036854775808 : Int64), I_3)) else
 (fX7_odds_L26 1000 x1 x2 (0 : Int32) (0 : Int32) I_3)))))))

def fX7_sheet_L57  : Nat → Int32 → Int32 → zxI → Option (Int32 × zxI)
  | 0, _, _, _ => none
  | n57 + 1, v1, v4, I => (if (60 : Int32) ≤ v4 then
 (some ((1 : Int32), I)) else
 (if zxIn (((60 : Int32) * v1) + v4) 240 = true then
 (fX7_sheet_L57 n57 v1 (v4 + (1 : Int32)) (zxU I 3 (((60 : Int32) * v1) + v4).toNatClampNeg (0 : Int32))) else none))
def fX7_sheet (x1 : Int32) (x2 : Int32) (x3 : Int32) (I : zxI) : Option (Int32 × zxI) :=
  (zxB (fX7_isSheet x1 (zxU I 0 0 (0 : Int32))) (fun (r_1 : Int32) (I_1 : zxI) =>
 (if r_1 = 0 then
 (some ((-1 : Int32), I_1)) else
 (zxB (fX7_isSort x2 I_1) (fun (r_3 : Int32) (I_3 : zxI) =>
 (if r_3 = 0 then
 (some ((-2 : Int32), I_3)) else
 (if x3 ≤ (60 : Int32) then
 (if 0 ≤ x3 then
 (if zxIn x1 4 = true then
 (fX7_sheet_L57 1000 x1 (0 : Int32) (zxU (zxU I_3 1 x1.toNatClampNeg x2) 2 x1.toNatClampNeg x3)) else none) else
 (zxB (fX7_fails (4 : Int32) I_3) (fun (r_11 : Int32) (I_11 : zxI) =>
 (some (r_11, I_11))))) else
 (some ((-2 : Int32), I_3)))))))))

def fX7_lose (x1 : Int32) (I : zxI) : Option (Int32 × zxI) :=
  (zxB (fX7_isSheet x1 I) (fun (r_1 : Int32) (I_1 : zxI) =>
 (if r_1 = 0 then
 (some ((-1 : Int32), I_1)) else
 (if zxIn x1 4 = true then
 (if (I_1 1 x1.toNatClampNeg) = (-9 : Int32) then
 (some ((0 : Int32), (zxU I_1 1 x1.toNatClampNeg (-9 : Int32)))) else
 (some ((1 : Int32), (zxU I_1 1 x1.toNatClampNeg (-9 : Int32))))) else none))))

def fX7_put (x1 : Int32) (x2 : Int32) (x3 : Int32) (I : zxI) : Option (Int32 × zxI) :=
  (zxB (fX7_isSheet x1 (zxU I 0 0 (0 : Int32))) (fun (r_1 : Int32) (I_1 : zxI) =>
 (if r_1 = 0 then
 (some ((-1 : Int32), I_1)) else
 (if zxIn x1 4 = true then
 (if (I_1 1 x1.toNatClampNeg) = (-9 : Int32) then
 (zxB (fX7_fails (1 : Int32) I_1) (fun (r_16 : Int32) (I_16 : zxI) =>
 (some (r_16, I_16)))) else
 (zxB (fX7_within x2 (0 : Int32) ((I_1 2 x1.toNatClampNeg) - (1 : Int32)) I_1) (fun (r_6 : Int32) (I_6 : zxI) =>
 (if r_6 = 0 then
 (zxB (fX7_fails (3 : Int32) I_6) (fun (r_15 : Int32) (I_15 : zxI) =>
 (some (r_15, I_15)))) else
 (if (I_6 1 x1.toNatClampNeg) = 0 then
 (if zxIn (((60 : Int32) * x1) + x2) 240 = true then
 (some ((1 : Int32), (zxU I_6 3 (((60 : Int32) * x1) + x2).toNatClampNeg (x3.toInt8.toInt32)))) else none) else
 (if (I_6 1 x1.toNatClampNeg) = (1 : Int32) then
 (if zxIn (((60 : Int32) * x1) + x2) 240 = true then
 (some ((1 : Int32), (zxU I_6 3 (((60 : Int32) * x1) + x2).toNatClampNeg (x3.toInt16.toInt32)))) else none) else
 (if zxIn (((60 : Int32) * x1) + x2) 240 = true then
 (some ((1 : Int32), (zxU I_6 3 (((60 : Int32) * x1) + x2).toNatClampNeg x3))) else none))))))) else none))))

def fX7_cell (x1 : Int32) (x2 : Int32) (x3 : Int32) (I : zxI) : Option (Int64 × zxI) :=
  (zxB (fX7_isSheet x1 (zxU I 0 0 (0 : Int32))) (fun (r_1 : Int32) (I_1 : zxI) =>
 (if r_1 = 0 then
 (some ((-9223372036854775808 : Int64), I_1)) else
 (zxB (fX7_isSort x3 I_1) (fun (r_3 : Int32) (I_3 : zxI) =>
 (if r_3 = 0 then
 (some ((-9223372036854775808 : Int64), I_3)) else
 (if zxIn x1 4 = true then
 (if (I_3 1 x1.toNatClampNeg) = (-9 : Int32) then
 (if (I_3 1 x1.toNatClampNeg) = (-9 : Int32) then
 (zxB (fX7_lost (1 : Int32) I_3) (fun (r_14 : Int64) (I_14 : zxI) =>
 (some (r_14, I_14)))) else
 (zxB (fX7_within x2 (0 : Int32) ((I_3 2 x1.toNatClampNeg) - (1 : Int32)) I_3) (fun (r_10 : Int32) (I_10 : zxI) =>
 (if r_10 = 0 then
 (zxB (fX7_lost (3 : Int32) I_10) (fun (r_13 : Int64) (I_13 : zxI) =>
 (some (r_13, I_13)))) else
 (if zxIn (((60 : Int32) * x1) + x2) 240 = true then
 (some (((I_10 3 (((60 : Int32) * x1) + x2).toNatClampNeg).toInt64), I_10)) else none))))) else
 (if (I_3 1 x1.toNatClampNeg) = x3 then
 (if (I_3 1 x1.toNatClampNeg) = (-9 : Int32) then
 (zxB (fX7_lost (1 : Int32) I_3) (fun (r_24 : Int64) (I_24 : zxI) =>
 (some (r_24, I_24)))) else
 (zxB (fX7_within x2 (0 : Int32) ((I_3 2 x1.toNatClampNeg) - (1 : Int32)) I_3) (fun (r_20 : Int32) (I_20 : zxI) =>
 (if r_20 = 0 then
 (zxB (fX7_lost (3 : Int32) I_20) (fun (r_23 : Int64) (I_23 : zxI) =>
 (some (r_23, I_23)))) else
 (if zxIn (((60 : Int32) * x1) + x2) 240 = true then
 (some (((I_20 3 (((60 : Int32) * x1) + x2).toNatClampNeg).toInt64), I_20)) else none))))) else
 (zxB (fX7_lost (2 : Int32) I_3) (fun (r_25 : Int64) (I_25 : zxI) =>
 (some (r_25, I_25)))))) else none)))))))

def fX7_copy_L166  : Nat → Int32 → Int32 → Int32 → Int32 → Int32 → Int32 → Int32 → zxI → Option (Int32 × zxI)
  | 0, _, _, _, _, _, _, _, _ => none
  | n166 + 1, v1, v2, v3, v4, v5, v7, v8, I => (if v5 ≤ v8 then
 (some (v5, I)) else
 (if v7 = 0 then
 (if zxIn ((((60 : Int32) * v1) + v2) + v8) 240 = true then
 (if zxIn ((((60 : Int32) * v3) + v4) + v8) 240 = true then
 (fX7_copy_L166 n166 v1 v2 v3 v4 v5 v7 (v8 + (1 : Int32)) (zxU I 3 ((((60 : Int32) * v3) + v4) + v8).toNatClampNeg (I 3 ((((60 : Int32) * v1) + v2) + v8).toNatClampNeg))) else none) else none) else
 (if zxIn ((((60 : Int32) * v1) + v2) + ((v5 - (1 : Int32)) - v8)) 240 = true then
 (if zxIn ((((60 : Int32) * v3) + v4) + ((v5 - (1 : Int32)) - v8)) 240 = true then
 (fX7_copy_L166 n166 v1 v2 v3 v4 v5 v7 (v8 + (1 : Int32)) (zxU I 3 ((((60 : Int32) * v3) + v4) + ((v5 - (1 : Int32)) - v8)).toNatClampNeg (I 3 ((((60 : Int32) * v1) + v2) + ((v5 - (1 : Int32)) - v8)).toNatClampNeg))) else none) else none)))
def fX7_copy (x1 : Int32) (x2 : Int32) (x3 : Int32) (x4 : Int32) (x5 : Int32) (I : zxI) : Option (Int32 × zxI) :=
  (zxB (fX7_isSheet x1 (zxU I 0 0 (0 : Int32))) (fun (r_1 : Int32) (I_1 : zxI) =>
 (if r_1 = 0 then
 (some ((-1 : Int32), I_1)) else
 (zxB (fX7_isSheet x3 I_1) (fun (r_3 : Int32) (I_3 : zxI) =>
 (if r_3 = 0 then
 (some ((-1 : Int32), I_3)) else
 (if zxIn x1 4 = true then
 (if (I_3 1 x1.toNatClampNeg) = (-9 : Int32) then
 (zxB (fX7_fails (1 : Int32) I_3) (fun (r_7 : Int32) (I_7 : zxI) =>
 (some (r_7, I_7)))) else
 (if zxIn x3 4 = true then
 (if (I_3 1 x3.toNatClampNeg) = (-9 : Int32) then
 (zxB (fX7_fails (1 : Int32) I_3) (fun (r_51 : Int32) (I_51 : zxI) =>
 (some (r_51, I_51)))) else
 (if (I_3 1 x1.toNatClampNeg) = (I_3 1 x3.toNatClampNeg) then
 (if x2 < 0 then
 (zxB (fX7_fails (3 : Int32) I_3) (fun (r_15 : Int32) (I_15 : zxI) =>
 (some (r_15, I_15)))) else
 (if x4 < 0 then
 (zxB (fX7_fails (3 : Int32) I_3) (fun (r_18 : Int32) (I_18 : zxI) =>
 (some (r_18, I_18)))) else
 (if x5 < 0 then
 (zxB (fX7_fails (3 : Int32) I_3) (fun (r_21 : Int32) (I_21 : zxI) =>
 (some (r_21, I_21)))) else
 (if (I_3 2 x1.toNatClampNeg) < x2 then
 (zxB (fX7_fails (3 : Int32) I_3) (fun (r_25 : Int32) (I_25 : zxI) =>
 (some (r_25, I_25)))) else
 (if (I_3 2 x3.toNatClampNeg) < x4 then
 (zxB (fX7_fails (3 : Int32) I_3) (fun (r_29 : Int32) (I_29 : zxI) =>
 (some (r_29, I_29)))) else
 (if ((I_3 2 x1.toNatClampNeg) - x2) < x5 then
 (zxB (fX7_fails (3 : Int32) I_3) (fun (r_33 : Int32) (I_33 : zxI) =>
 (some (r_33, I_33)))) else
 (if x5 ≤ ((I_3 2 x3.toNatClampNeg) - x4) then
 (if x4 ≤ x2 then
 (fX7_copy_L166 1000 x1 x2 x3 x4 x5 (0 : Int32) (0 : Int32) I_3) else
 (fX7_copy_L166 1000 x1 x2 x3 x4 x5 (1 : Int32) (0 : Int32) I_3)) else
 (zxB (fX7_fails (3 : Int32) I_3) (fun (r_49 : Int32) (I_49 : zxI) =>
 (some (r_49, I_49))))))))))) else
 (zxB (fX7_fails (2 : Int32) I_3) (fun (r_50 : Int32) (I_50 : zxI) =>
 (some (r_50, I_50)))))) else none)) else none)))))))

def fX7_begins (x1 : Int32) (I : zxI) : Option zxI :=
  (some (zxU I 0 1 (((31 : Int32) * (I 0 1)) + x1)))

def fX7_tell (x1 : Int32) (I : zxI) : Option (Int32 × zxI) :=
  (zxB (fX7_isGallery x1 I) (fun (r_1 : Int32) (I_1 : zxI) =>
 (if r_1 = 0 then
 (some ((-1 : Int32), I_1)) else
 (if zxIn x1 6 = true then
 (if (I_1 5 x1.toNatClampNeg) = (1 : Int32) then
 (zxV (fX7_begins (2 : Int32) I_1) (fun (I_7 : zxI) =>
 (zxV (fX7_begins (1 : Int32) I_7) (fun (I_8 : zxI) =>
 (some (((I_1 7 x1.toNatClampNeg) + (100 : Int32)), I_8)))))) else
 (if (I_1 5 x1.toNatClampNeg) = (2 : Int32) then
 (zxV (fX7_begins (3 : Int32) I_1) (fun (I_9 : zxI) =>
 (zxV (fX7_begins (2 : Int32) I_9) (fun (I_10 : zxI) =>
 (zxV (fX7_begins (1 : Int32) I_10) (fun (I_11 : zxI) =>
 (zxV (fX7_begins (1 : Int32) I_11) (fun (I_12 : zxI) =>
 (some ((((2 : Int32) * (I_1 7 x1.toNatClampNeg)) + (100 : Int32)), I_12)))))))))) else
 (zxV (fX7_begins (1 : Int32) I_1) (fun (I_13 : zxI) =>
 (some ((I_1 7 x1.toNatClampNeg), I_13)))))) else none))))

def fX7_sign (x1 : Int32) (I : zxI) : Option (Int32 × zxI) :=
  (zxB (fX7_isGallery x1 I) (fun (r_1 : Int32) (I_1 : zxI) =>
 (if r_1 = 0 then
 (some ((-1 : Int32), I_1)) else
 (if zxIn x1 6 = true then
 (if (I_1 5 x1.toNatClampNeg) = (2 : Int32) then
 (zxV (fX7_begins (5 : Int32) I_1) (fun (I_8 : zxI) =>
 (if (I_8 5 x1.toNatClampNeg) = (2 : Int32) then
 (some ((50 : Int32), I_8)) else
 (some (x1, I_8))))) else
 (zxV (fX7_begins (4 : Int32) I_1) (fun (I_5 : zxI) =>
 (if (I_5 5 x1.toNatClampNeg) = (2 : Int32) then
 (some ((50 : Int32), I_5)) else
 (some (x1, I_5)))))) else none))))

def fX7_as (x1 : Int32) (x2 : Int32) (I : zxI) : Option (Int32 × zxI) :=
  (zxB (fX7_isGallery x1 (zxU I 0 0 (0 : Int32))) (fun (r_1 : Int32) (I_1 : zxI) =>
 (if r_1 = 0 then
 (some ((-1 : Int32), I_1)) else
 (zxB (fX7_within x2 (0 : Int32) (2 : Int32) I_1) (fun (r_3 : Int32) (I_3 : zxI) =>
 (if r_3 = 0 then
 (some ((-2 : Int32), I_3)) else
 (if zxIn x1 6 = true then
 (if (I_3 5 x1.toNatClampNeg) < x2 then
 (zxB (fX7_fails (2 : Int32) I_3) (fun (r_7 : Int32) (I_7 : zxI) =>
 (some (r_7, I_7)))) else
 (some ((1 : Int32), I_3))) else none)))))))

def fX7_trace (I : zxI) : Option (Int32 × zxI) :=
  (some ((I 0 1), I))

def fX7_fault (I : zxI) : Option (Int32 × zxI) :=
  (some ((I 0 0), I))

def fX7_many (x1 : Int32) (I : zxI) : Option (Int32 × zxI) :=
  (if x1 = (0 : Int32) then
 (some ((I 0 5), I)) else
 (if x1 = (1 : Int32) then
 (some ((I 0 6), I)) else
 (if x1 = (2 : Int32) then
 (some ((I 0 7), I)) else
 (if x1 = (3 : Int32) then
 (zxB (fX7_size (I 0 8) I) (fun (r_6 : Int32) (I_6 : zxI) =>
 (some (r_6, I_6)))) else
 (if x1 = (4 : Int32) then
 (some ((I 0 25), I)) else
 (some ((-2 : Int32), I)))))))
