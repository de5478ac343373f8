/-! what each method means, over a state in numbers (printed by gen.py) -/
def zx_sl (b : Bool) : Int32 := cond b 4 5
def zx_sn (b : Bool) : Nat := cond b 4 5
def zx_sc (b : Bool) (k : Nat) : Int32 := (cond b [116, 114, 117, 101] [102, 97, 108, 115, 101] : List Int32).getD k 0
def zs_Loom_diagnosis (a1 : Int32) (h : zx_H) : Option Int32 :=
  (zx_chain a1 [((0 : Int32), (some (h.1 16 0 4))), ((1 : Int32), (some (h.1 16 0 5))), ((2 : Int32), (some (h.1 16 0 6)))] (some (-1 : Int32)))
def zs_Store_typeOf_J21 (h : zx_H)   : Option Int32 :=
  (some (-1 : Int32))
def zs_Store_typeOf (a1 : Int32) (h : zx_H) : Option Int32 :=
  (if a1 < 0 then (zs_Store_typeOf_J21 h) else (if (h.1 7 0 4) ≤ a1 then (zs_Store_typeOf_J21 h) else (if zx_in a1 400 = true then (some (h.1 8 0 a1.toNatClampNeg)) else none)))
def zs_Types_isBean_J28 (h : zx_H)   : Option Bool :=
  (some false)
def zs_Types_isBean (a1 : Int32) (h : zx_H) : Option Bool :=
  (if a1 < (15 : Int32) then (zs_Types_isBean_J28 h) else (if (h.1 1 0 5) ≤ a1 then (zs_Types_isBean_J28 h) else (if zx_in a1 40 = true then (if (h.1 2 0 a1.toNatClampNeg) = (2 : Int32) then (some true) else (zs_Types_isBean_J28 h)) else none)))
def zs_Store_hasPlace_J30 (h : zx_H)   : Option Bool :=
  (some false)
def zs_Store_hasPlace (a1 : Int32) (a2 : Int32) (h : zx_H) : Option Bool :=
  (if a1 < 0 then (zs_Store_hasPlace_J30 h) else (if (h.1 7 0 4) ≤ a1 then (zs_Store_hasPlace_J30 h) else (if a2 < 0 then (zs_Store_hasPlace_J30 h) else (if zx_in a1 400 = true then (if (h.1 9 0 a1.toNatClampNeg) ≤ a2 then (zs_Store_hasPlace_J30 h) else (some true)) else none))))
def zs_Types_typeAt_J31 (h : zx_H)  (x1 : Int32) (x2 : Int32) (s0 : Bool) : Option Int32 :=
  (if s0 = true then (if zx_in ((x1 * (8 : Int32)) + x2) 320 = true then (some (h.1 6 0 ((x1 * (8 : Int32)) + x2).toNatClampNeg)) else none) else (some (-1 : Int32)))
def zs_Types_typeAt_J30 (h : zx_H)  (x1 : Int32) (x2 : Int32) : Option Int32 :=
  (zs_Types_typeAt_J31 h x1 x2 false)
def zs_Types_typeAt (a1 : Int32) (a2 : Int32) (h : zx_H) : Option Int32 :=
  (if a1 < 0 then (zs_Types_typeAt_J30 h a1 a2) else (if (h.1 1 0 5) ≤ a1 then (zs_Types_typeAt_J30 h a1 a2) else (if a2 < 0 then (zs_Types_typeAt_J30 h a1 a2) else (if zx_in a1 40 = true then (if (h.1 4 0 a1.toNatClampNeg) ≤ a2 then (zs_Types_typeAt_J30 h a1 a2) else (zs_Types_typeAt_J31 h a1 a2 true)) else none))))
def zs_Basics_isPrimitive_J14 (h : zx_H)   : Option Bool :=
  (some false)
def zs_Basics_isPrimitive (a0 : Int32) (h : zx_H) : Option Bool :=
  (if a0 < 0 then (zs_Basics_isPrimitive_J14 h) else (if (7 : Int32) ≤ a0 then (zs_Basics_isPrimitive_J14 h) else (some true)))
def zs_Basics_holds_J60 (h : zx_H)   : Option Bool :=
  (some false)
def zs_Basics_holds (a0 : Int32) (a1 : Int64) (h : zx_H) : Option Bool :=
  (if a0 = (6 : Int32) then (if (9218868437227405312 : Int64) < (a1 &&& (9223372036854775807 : Int64)) then (some false) else (some true)) else (if a0 < 0 then (zs_Basics_holds_J60 h) else (if (6 : Int32) ≤ a0 then (zs_Basics_holds_J60 h) else (if zx_in a0 6 = true then (if a1 < (zx_least a0.toNatClampNeg) then (zs_Basics_holds_J60 h) else (if zx_in a0 6 = true then (if (zx_most a0.toNatClampNeg) < a1 then (zs_Basics_holds_J60 h) else (some true)) else none)) else none))))
def zs_Types_isEnum_J28 (h : zx_H)   : Option Bool :=
  (some false)
def zs_Types_isEnum (a1 : Int32) (h : zx_H) : Option Bool :=
  (if a1 < (15 : Int32) then (zs_Types_isEnum_J28 h) else (if (h.1 1 0 5) ≤ a1 then (zs_Types_isEnum_J28 h) else (if zx_in a1 40 = true then (if (h.1 2 0 a1.toNatClampNeg) = (1 : Int32) then (some true) else (zs_Types_isEnum_J28 h)) else none)))
def zs_Types_memberCount_J21 (h : zx_H)   : Option Int32 :=
  (some (0 : Int32))
def zs_Types_memberCount (a1 : Int32) (h : zx_H) : Option Int32 :=
  (if a1 < 0 then (zs_Types_memberCount_J21 h) else (if (h.1 1 0 5) ≤ a1 then (zs_Types_memberCount_J21 h) else (if zx_in a1 40 = true then (some (h.1 4 0 a1.toNatClampNeg)) else none)))
def zs_Store_has_J20 (h : zx_H)   : Option Bool :=
  (some false)
def zs_Store_has (a1 : Int64) (h : zx_H) : Option Bool :=
  (if a1 < (0 : Int64) then (zs_Store_has_J20 h) else (if ((h.1 7 0 4).toInt64) ≤ a1 then (zs_Store_has_J20 h) else (some true)))
def zs_Store_isValue_J58 (h : zx_H)   : Option Bool :=
  (some false)
def zs_Store_isValue_J83 (h : zx_H)   : Option Bool :=
  (some false)
def zs_Store_isValue (a1 : Int32) (a2 : Int64) (h : zx_H) : Option Bool :=
  ((zs_Basics_isPrimitive a1 h).bind (fun r1 => (if r1 = true then ((zs_Basics_holds a1 a2 h).bind (fun r2 => (some r2))) else (if a2 = (-1 : Int64) then (some true) else ((zs_Types_isEnum a1 h).bind (fun r3 => (if r3 = true then (if a2 < (0 : Int64) then (zs_Store_isValue_J58 h) else ((zs_Types_memberCount a1 h).bind (fun r4 => (if (r4.toInt64) ≤ a2 then (zs_Store_isValue_J58 h) else (some true))))) else ((zs_Store_has a2 h).bind (fun r5 => (if r5 = true then (if zx_in (a2.toInt32) 400 = true then (if (h.1 8 0 (a2.toInt32).toNatClampNeg) = a1 then (some true) else (zs_Store_isValue_J83 h)) else none) else (zs_Store_isValue_J83 h)))))))))))
def zs_Store_set_J31  (x1 : Int32) (x2 : Int32) (x3 : Int64) (s0 : Bool) (h : zx_H) : Option (Bool × zx_H) :=
  (if s0 = true then (if zx_in ((x1 * (24 : Int32)) + x2) 9600 = true then (zx_bnd (zx_sJ h 10 0 ((x1 * (24 : Int32)) + x2).toNatClampNeg x3) (fun h1 => (some (s0, h1)))) else none) else (some (s0, h)))
def zs_Store_set_J30  (x1 : Int32) (x2 : Int32) (x3 : Int64) (h : zx_H) : Option (Bool × zx_H) :=
  (zs_Store_set_J31 x1 x2 x3 false h)
def zs_Store_set (a1 : Int32) (a2 : Int32) (a3 : Int64) (h : zx_H) : Option (Bool × zx_H) :=
  (if a1 < 0 then (zs_Store_set_J30 a1 a2 a3 h) else (if (h.1 7 0 4) ≤ a1 then (zs_Store_set_J30 a1 a2 a3 h) else (if a2 < 0 then (zs_Store_set_J30 a1 a2 a3 h) else (if zx_in a1 400 = true then (if (h.1 9 0 a1.toNatClampNeg) ≤ a2 then (zs_Store_set_J30 a1 a2 a3 h) else (zs_Store_set_J31 a1 a2 a3 true h)) else none))))
def zs_Types_isList_J28 (h : zx_H)   : Option Bool :=
  (some false)
def zs_Types_isList (a1 : Int32) (h : zx_H) : Option Bool :=
  (if a1 < (15 : Int32) then (zs_Types_isList_J28 h) else (if (h.1 1 0 5) ≤ a1 then (zs_Types_isList_J28 h) else (if zx_in a1 40 = true then (if (h.1 2 0 a1.toNatClampNeg) = (3 : Int32) then (some true) else (zs_Types_isList_J28 h)) else none)))
def zs_Store_length_J21 (h : zx_H)   : Option Int32 :=
  (some (0 : Int32))
def zs_Store_length (a1 : Int32) (h : zx_H) : Option Int32 :=
  (if a1 < 0 then (zs_Store_length_J21 h) else (if (h.1 7 0 4) ≤ a1 then (zs_Store_length_J21 h) else (if zx_in a1 400 = true then (some (h.1 9 0 a1.toNatClampNeg)) else none)))
def zs_Types_element_J21 (h : zx_H)   : Option Int32 :=
  (some (-1 : Int32))
def zs_Types_element (a1 : Int32) (h : zx_H) : Option Int32 :=
  (if a1 < 0 then (zs_Types_element_J21 h) else (if (h.1 1 0 5) ≤ a1 then (zs_Types_element_J21 h) else (if zx_in a1 40 = true then (some (h.1 3 0 a1.toNatClampNeg)) else none)))
def zs_Store_append (a1 : Int32) (a2 : Int64) (h : zx_H) : Option (Bool × zx_H) :=
  (if a1 < 0 then (some (false, h)) else (if (h.1 7 0 4) ≤ a1 then (some (false, h)) else (if zx_in a1 400 = true then (if (h.1 9 0 a1.toNatClampNeg) < (24 : Int32) then (if zx_in a1 400 = true then (if zx_in ((a1 * (24 : Int32)) + (h.1 9 0 a1.toNatClampNeg)) 9600 = true then (zx_bnd (zx_sJ h 10 0 ((a1 * (24 : Int32)) + (h.1 9 0 a1.toNatClampNeg)).toNatClampNeg a2) (fun h1 => (if zx_in a1 400 = true then (if zx_in a1 400 = true then (zx_bnd (zx_sI h1 9 0 a1.toNatClampNeg ((h1.1 9 0 a1.toNatClampNeg) + (1 : Int32))) (fun h2 => (some (true, h2)))) else none) else none))) else none) else none) else (some (false, h))) else none)))
def zs_Loom_put_J72   (h : zx_H) : Option (Bool × zx_H) :=
  (some (false, h))
def zs_Loom_put_J135   (h : zx_H) : Option (Bool × zx_H) :=
  (some (false, h))
def zs_Loom_put (a1 : Int32) (a2 : Int32) (a3 : Int64) (h : zx_H) : Option (Bool × zx_H) :=
  ((zs_Store_typeOf a1 h).bind (fun r1 => ((zs_Types_isBean r1 h).bind (fun r2 => (if r2 = true then ((zs_Store_hasPlace a1 a2 h).bind (fun r3 => (if r3 = true then ((zs_Types_typeAt r1 a2 h).bind (fun r4 => ((zs_Store_isValue r4 a3 h).bind (fun r5 => (if r5 = true then ((zs_Store_set a1 a2 a3 h).bind (fun r6 => (if r6.1 = true then (some (true, r6.2)) else (zs_Loom_put_J72 r6.2)))) else (zs_Loom_put_J72 h)))))) else (zs_Loom_put_J72 h)))) else ((zs_Types_isList r1 h).bind (fun r7 => (if r7 = true then ((zs_Store_length a1 h).bind (fun r8 => (if (16 : Int32) ≤ r8 then (zs_Loom_put_J135 h) else ((zs_Types_element r1 h).bind (fun r9 => ((zs_Store_isValue r9 a3 h).bind (fun r10 => (if r10 = true then ((zs_Store_append a1 a3 h).bind (fun r11 => (if r11.1 = true then (some (true, r11.2)) else (zs_Loom_put_J135 r11.2)))) else (zs_Loom_put_J135 h))))))))) else (zs_Loom_put_J135 h)))))))))
def zs_Types_size  (h : zx_H) : Option Int32 :=
  (some (h.1 1 0 5))
def zs_Store_size  (h : zx_H) : Option Int32 :=
  (some (h.1 7 0 4))
def zs_Loom_count (a1 : Int32) (h : zx_H) : Option Int32 :=
  (zx_chain a1 [((0 : Int32), ((zs_Types_size h).bind (fun r1 => (some r1)))), ((1 : Int32), (some (h.1 11 0 3))), ((2 : Int32), (some (h.1 11 0 2))), ((3 : Int32), ((zs_Store_size h).bind (fun r2 => (some r2)))), ((4 : Int32), (if (h.1 0 0 5) = 0 then (some (0 : Int32)) else (some (1 : Int32))))] (some (-1 : Int32)))
def zs_Ref_thrown  (h : zx_H) : Option Int32 :=
  (some (h.1 24 0 0))
def zs_Ref_fails (a1 : Int32) (h : zx_H) : Option (Int32 × zx_H) :=
  (zx_bnd (zx_sI h 24 0 0 a1) (fun h1 => (some ((0 : Int32), h1))))
def zs_Ref_isName_J14 (h : zx_H)   : Option Bool :=
  (some false)
def zs_Ref_isName (a0 : Int32) (h : zx_H) : Option Bool :=
  (if a0 < 0 then (zs_Ref_isName_J14 h) else (if (64 : Int32) ≤ a0 then (zs_Ref_isName_J14 h) else (some true)))
def zs_Ref_isType_J16 (h : zx_H)   : Option Bool :=
  (some false)
def zs_Ref_isType (a1 : Int32) (h : zx_H) : Option Bool :=
  (if a1 < 0 then (zs_Ref_isType_J16 h) else (if (h.1 24 0 2) ≤ a1 then (zs_Ref_isType_J16 h) else (some true)))
def zs_Ref_isSort_J34 (h : zx_H)   : Option Bool :=
  (some false)
def zs_Ref_isSort_J25 (h : zx_H)  (x2 : Int32) (s1 : Int32) : Option Bool :=
  (if zx_in s1 40 = true then (if (h.1 25 0 s1.toNatClampNeg) = x2 then (some true) else (zs_Ref_isSort_J34 h)) else none)
def zs_Ref_isSort (a1 : Int32) (a2 : Int32) (h : zx_H) : Option Bool :=
  ((zs_Ref_isType a1 h).bind (fun r1 => (if r1 = true then ((zs_Ref_isType a1 h).bind (fun r2 => (if r2 = true then (zs_Ref_isSort_J25 h a2 a1) else (zs_Ref_isSort_J25 h a2 (0 : Int32))))) else (zs_Ref_isSort_J34 h))))
def zs_Ref_newType (a1 : Int32) (h : zx_H) : Option (Int32 × zx_H) :=
  (if zx_in (h.1 24 0 2) 40 = true then (zx_bnd (zx_sI h 25 0 (h.1 24 0 2).toNatClampNeg a1) (fun h1 => (if zx_in (h1.1 24 0 2) 40 = true then (zx_bnd (zx_sI h1 26 0 (h1.1 24 0 2).toNatClampNeg (0 : Int32)) (fun h2 => (zx_bnd (zx_sI h2 24 0 2 ((h2.1 24 0 2) + (1 : Int32))) (fun h3 => (some (((h3.1 24 0 2) - (1 : Int32)), h3)))))) else none))) else none)
def zs_Ref_enumeration_J11   (h : zx_H) : Option (Int32 × zx_H) :=
  ((zs_Ref_fails (1 : Int32) h).bind (fun r1 => (some (r1.1, r1.2))))
def zs_Ref_enumeration_J85 (k20 : (Int64 → Int32 → Int32 → zx_H → Option (Int32 × zx_H))) (k50 : (Int64 → Int32 → Int32 → Int32 → Bool → Int32 → zx_H → Option (Int32 × zx_H))) (x1 : Int64) (x3 : Int32) (x4 : Int32) (x5 : Int32) (x7 : Int32) (s0 : Bool) (h : zx_H) : Option (Int32 × zx_H) :=
  (k50 x1 x3 x4 x5 s0 (x7 + (1 : Int32)) h)
def zs_Ref_enumeration_J84 (k20 : (Int64 → Int32 → Int32 → zx_H → Option (Int32 × zx_H))) (k50 : (Int64 → Int32 → Int32 → Int32 → Bool → Int32 → zx_H → Option (Int32 × zx_H))) (x1 : Int64) (x3 : Int32) (x4 : Int32) (x5 : Int32) (x7 : Int32) (h : zx_H) : Option (Int32 × zx_H) :=
  (zs_Ref_enumeration_J85 k20 k50 x1 x3 x4 x5 x7 false h)
def zs_Ref_enumeration_L50_body (k20 : (Int64 → Int32 → Int32 → zx_H → Option (Int32 × zx_H))) (k50 : (Int64 → Int32 → Int32 → Int32 → Bool → Int32 → zx_H → Option (Int32 × zx_H))) (x1 : Int64) (x3 : Int32) (x4 : Int32) (x5 : Int32) (x6 : Bool) (x7 : Int32) (h : zx_H) : Option (Int32 × zx_H) :=
  (if x4 ≤ x7 then (if x6 = true then (k20 x1 x3 (x4 + (1 : Int32)) h) else ((zs_Ref_fails (1 : Int32) h).bind (fun r1 => (some (r1.1, r1.2))))) else (if x6 = true then (if ((zx_clshr x1 ((8 : Int32) * x7)) &&& (255 : Int64)) = (x5.toInt64) then (zs_Ref_enumeration_J84 k20 k50 x1 x3 x4 x5 x7 h) else (zs_Ref_enumeration_J85 k20 k50 x1 x3 x4 x5 x7 true h)) else (zs_Ref_enumeration_J84 k20 k50 x1 x3 x4 x5 x7 h)))
def zs_Ref_enumeration_L50 (k20 : (Int64 → Int32 → Int32 → zx_H → Option (Int32 × zx_H))) : (Int64 → Int32 → Int32 → Int32 → Bool → Int32 → zx_H → Option (Int32 × zx_H)) := zx_loop (fun _ _ _ _ _ _ _ => none) (zs_Ref_enumeration_L50_body k20) zx_fuel
def zs_Ref_enumeration_J126   (h : zx_H) : Option (Int32 × zx_H) :=
  ((zs_Ref_fails (2 : Int32) h).bind (fun r1 => (some (r1.1, r1.2))))
def zs_Ref_enumeration_L155_body  (k155 : (Int64 → Int32 → Int32 → Int32 → zx_H → Option (Int32 × zx_H))) (x1 : Int64) (x3 : Int32) (x4 : Int32) (x5 : Int32) (h : zx_H) : Option (Int32 × zx_H) :=
  (if x3 ≤ x5 then (some (x4, h)) else (if zx_in (((8 : Int32) * x4) + x5) 320 = true then (zx_bnd (zx_sI h 27 0 (((8 : Int32) * x4) + x5).toNatClampNeg (((zx_clshr x1 ((8 : Int32) * x5)) &&& (255 : Int64)).toInt32)) (fun h1 => (k155 x1 x3 x4 (x5 + (1 : Int32)) h1))) else none))
def zs_Ref_enumeration_L155  : (Int64 → Int32 → Int32 → Int32 → zx_H → Option (Int32 × zx_H)) := zx_loop (fun _ _ _ _ _ => none) (zs_Ref_enumeration_L155_body ) zx_fuel
def zs_Ref_enumeration_L20_body  (k20 : (Int64 → Int32 → Int32 → zx_H → Option (Int32 × zx_H))) (x1 : Int64) (x3 : Int32) (x4 : Int32) (h : zx_H) : Option (Int32 × zx_H) :=
  (if x3 ≤ x4 then (if (h.1 24 0 1) = 0 then (if (h.1 24 0 2) = (40 : Int32) then (zs_Ref_enumeration_J126 h) else (zx_bnd (zx_sI h 24 0 0 (0 : Int32)) (fun h3 => ((zs_Ref_newType (3 : Int32) h3).bind (fun r4 => (if zx_in r4.1 40 = true then (zx_bnd (zx_sI r4.2 26 0 r4.1.toNatClampNeg x3) (fun h5 => (zs_Ref_enumeration_L155 x1 x3 r4.1 (0 : Int32) h5))) else none)))))) else (zs_Ref_enumeration_J126 h)) else (zx_bnd (((zx_clshr x1 ((8 : Int32) * x4)) &&& (255 : Int64)).toInt32) (fun y1 => ((zs_Ref_isName y1 h).bind (fun r2 => (zs_Ref_enumeration_L50 k20 x1 x3 x4 y1 r2 (0 : Int32) h))))))
def zs_Ref_enumeration_L20  : (Int64 → Int32 → Int32 → zx_H → Option (Int32 × zx_H)) := zx_loop (fun _ _ _ _ => none) (zs_Ref_enumeration_L20_body ) zx_fuel
def zs_Ref_enumeration (a1 : Int64) (a3 : Int32) (h : zx_H) : Option (Int32 × zx_H) :=
  (if a3 < (1 : Int32) then (zs_Ref_enumeration_J11 h) else (if a3 ≤ (8 : Int32) then (zs_Ref_enumeration_L20 a1 a3 (0 : Int32) h) else (zs_Ref_enumeration_J11 h)))
def zs_Ref_bean_J16   (h : zx_H) : Option (Int32 × zx_H) :=
  ((zs_Ref_fails (1 : Int32) h).bind (fun r1 => (some (r1.1, r1.2))))
def zs_Ref_bean  (h : zx_H) : Option (Int32 × zx_H) :=
  (if (h.1 24 0 1) = 0 then (if (h.1 24 0 2) = (40 : Int32) then (zs_Ref_bean_J16 h) else (zx_bnd (zx_sI h 24 0 0 (0 : Int32)) (fun h1 => ((zs_Ref_newType (4 : Int32) h1).bind (fun r2 => (some (r2.1, r2.2))))))) else (zs_Ref_bean_J16 h))
def zs_Ref_placeOf_J58 (h : zx_H) (k5 : (Int32 → Int32 → Int32 → Int32 → Option Int32)) (x1 : Int32) (x2 : Int32) (x4 : Int32) (s0 : Int32) : Option Int32 :=
  (k5 x1 x2 s0 (x4 + (1 : Int32)))
def zs_Ref_placeOf_J36 (h : zx_H) (k5 : (Int32 → Int32 → Int32 → Int32 → Option Int32)) (x1 : Int32) (x2 : Int32) (x3 : Int32) (x4 : Int32) : Option Int32 :=
  (if zx_in (((8 : Int32) * x1) + x4) 320 = true then (if (h.1 27 0 (((8 : Int32) * x1) + x4).toNatClampNeg) = x2 then (zs_Ref_placeOf_J58 h k5 x1 x2 x4 x4) else (zs_Ref_placeOf_J58 h k5 x1 x2 x4 x3)) else none)
def zs_Ref_placeOf_L5_body (h : zx_H)  (k5 : (Int32 → Int32 → Int32 → Int32 → Option Int32)) (x1 : Int32) (x2 : Int32) (x3 : Int32) (x4 : Int32) : Option Int32 :=
  (if zx_in x1 40 = true then (if (h.1 26 0 x1.toNatClampNeg) ≤ x4 then (some x3) else (if zx_in x1 40 = true then (if (h.1 25 0 x1.toNatClampNeg) = (3 : Int32) then (zs_Ref_placeOf_J36 h k5 x1 x2 x3 x4) else (if zx_in x1 40 = true then (if (h.1 25 0 x1.toNatClampNeg) = (4 : Int32) then (zs_Ref_placeOf_J36 h k5 x1 x2 x3 x4) else (some x3)) else none)) else none)) else none)
def zs_Ref_placeOf_L5 (h : zx_H)  : (Int32 → Int32 → Int32 → Int32 → Option Int32) := zx_loop (fun _ _ _ _ => none) (zs_Ref_placeOf_L5_body h ) zx_fuel
def zs_Ref_placeOf (a1 : Int32) (a2 : Int32) (h : zx_H) : Option Int32 :=
  (zs_Ref_placeOf_L5 h a1 a2 (-1 : Int32) (0 : Int32))
def zs_Ref_property_J33   (h : zx_H) : Option (Int32 × zx_H) :=
  ((zs_Ref_fails (1 : Int32) h).bind (fun r1 => (some (r1.1, r1.2))))
def zs_Ref_property_J64   (h : zx_H) : Option (Int32 × zx_H) :=
  ((zs_Ref_fails (2 : Int32) h).bind (fun r1 => (some (r1.1, r1.2))))
def zs_Ref_property (a1 : Int32) (a2 : Int32) (a3 : Int32) (h : zx_H) : Option (Int32 × zx_H) :=
  ((zs_Ref_isSort a1 (4 : Int32) h).bind (fun r1 => (if r1 = true then ((zs_Ref_isName a2 h).bind (fun r2 => (if r2 = true then ((zs_Ref_isType a3 h).bind (fun r3 => (if r3 = true then ((zs_Ref_placeOf a1 a2 h).bind (fun r4 => (if r4 < 0 then (if (h.1 24 0 1) = 0 then (if zx_in a1 40 = true then (if (h.1 26 0 a1.toNatClampNeg) = (8 : Int32) then (zs_Ref_property_J64 h) else (if (h.1 24 0 23) ≤ 0 then (zx_bnd (zx_sI h 24 0 0 (0 : Int32)) (fun h5 => (if zx_in a1 40 = true then (if zx_in (((8 : Int32) * a1) + (h5.1 26 0 a1.toNatClampNeg)) 320 = true then (zx_bnd (zx_sI h5 27 0 (((8 : Int32) * a1) + (h5.1 26 0 a1.toNatClampNeg)).toNatClampNeg a2) (fun h6 => (if zx_in a1 40 = true then (if zx_in (((8 : Int32) * a1) + (h6.1 26 0 a1.toNatClampNeg)) 320 = true then (zx_bnd (zx_sI h6 28 0 (((8 : Int32) * a1) + (h6.1 26 0 a1.toNatClampNeg)).toNatClampNeg a3) (fun h7 => (if zx_in a1 40 = true then (if zx_in a1 40 = true then (zx_bnd (zx_sI h7 26 0 a1.toNatClampNeg ((h7.1 26 0 a1.toNatClampNeg) + (1 : Int32))) (fun h8 => (if zx_in a1 40 = true then (some (((h8.1 26 0 a1.toNatClampNeg) - (1 : Int32)), h8)) else none))) else none) else none))) else none) else none))) else none) else none))) else (zs_Ref_property_J64 h))) else none) else (zs_Ref_property_J64 h)) else (zs_Ref_property_J33 h)))) else (zs_Ref_property_J33 h)))) else (zs_Ref_property_J33 h)))) else (zs_Ref_property_J33 h))))
def zs_Ref_list_J17   (h : zx_H) : Option (Int32 × zx_H) :=
  ((zs_Ref_fails (1 : Int32) h).bind (fun r1 => (some (r1.1, r1.2))))
def zs_Ref_list_J61 (k31 : (Int32 → Int32 → zx_H → Option (Int32 × zx_H))) (x1 : Int32) (x2 : Int32) (h : zx_H) : Option (Int32 × zx_H) :=
  (k31 x1 (x2 + (1 : Int32)) h)
def zs_Ref_list_J83   (h : zx_H) : Option (Int32 × zx_H) :=
  ((zs_Ref_fails (2 : Int32) h).bind (fun r1 => (some (r1.1, r1.2))))
def zs_Ref_list_L31_body  (k31 : (Int32 → Int32 → zx_H → Option (Int32 × zx_H))) (x1 : Int32) (x2 : Int32) (h : zx_H) : Option (Int32 × zx_H) :=
  (if (h.1 24 0 2) ≤ x2 then (if (h.1 24 0 1) = 0 then (if (h.1 24 0 2) = (40 : Int32) then (zs_Ref_list_J83 h) else ((zs_Ref_newType (5 : Int32) h).bind (fun r1 => (if zx_in r1.1 40 = true then (zx_bnd (zx_sI r1.2 29 0 r1.1.toNatClampNeg x1) (fun h2 => (some (r1.1, h2)))) else none)))) else (zs_Ref_list_J83 h)) else (if zx_in x2 40 = true then (if (h.1 25 0 x2.toNatClampNeg) = (5 : Int32) then (if zx_in x2 40 = true then (if (h.1 29 0 x2.toNatClampNeg) = x1 then (some (x2, h)) else (zs_Ref_list_J61 k31 x1 x2 h)) else none) else (zs_Ref_list_J61 k31 x1 x2 h)) else none))
def zs_Ref_list_L31  : (Int32 → Int32 → zx_H → Option (Int32 × zx_H)) := zx_loop (fun _ _ _ => none) (zs_Ref_list_L31_body ) zx_fuel
def zs_Ref_list (a1 : Int32) (h : zx_H) : Option (Int32 × zx_H) :=
  ((zs_Ref_isType a1 h).bind (fun r1 => (if r1 = true then (if zx_in a1 40 = true then (if (h.1 25 0 a1.toNatClampNeg) = 0 then (zs_Ref_list_J17 h) else (zx_bnd (zx_sI h 24 0 0 (0 : Int32)) (fun h2 => (zs_Ref_list_L31 a1 (15 : Int32) h2)))) else none) else (zs_Ref_list_J17 h))))
def zs_Ref_method_J68   (h : zx_H) : Option (Int32 × zx_H) :=
  ((zs_Ref_fails (2 : Int32) h).bind (fun r1 => (some (r1.1, r1.2))))
def zs_Ref_method_J41  (x1 : Int32) (x2 : Int32) (s0 : Bool) (h : zx_H) : Option (Int32 × zx_H) :=
  (if s0 = true then (if (h.1 24 0 1) = 0 then (if (h.1 24 0 8) = (16 : Int32) then (zs_Ref_method_J68 h) else (zx_bnd (zx_sI h 24 0 0 (0 : Int32)) (fun h2 => (if zx_in (h2.1 24 0 8) 16 = true then (zx_bnd (zx_sI h2 30 0 (h2.1 24 0 8).toNatClampNeg x1) (fun h3 => (if zx_in (h3.1 24 0 8) 16 = true then (zx_bnd (zx_sI h3 31 0 (h3.1 24 0 8).toNatClampNeg x2) (fun h4 => (zx_bnd (zx_sI h4 24 0 8 ((h4.1 24 0 8) + (1 : Int32))) (fun h5 => (some (((h5.1 24 0 8) - (1 : Int32)), h5)))))) else none))) else none)))) else (zs_Ref_method_J68 h)) else ((zs_Ref_fails (1 : Int32) h).bind (fun r1 => (some (r1.1, r1.2)))))
def zs_Ref_method_J36  (x1 : Int32) (x2 : Int32) (h : zx_H) : Option (Int32 × zx_H) :=
  (zs_Ref_method_J41 x1 x2 true h)
def zs_Ref_method_J40  (x1 : Int32) (x2 : Int32) (h : zx_H) : Option (Int32 × zx_H) :=
  (zs_Ref_method_J41 x1 x2 false h)
def zs_Ref_method_J18  (x1 : Int32) (x2 : Int32) (h : zx_H) : Option (Int32 × zx_H) :=
  ((zs_Ref_isSort x1 (3 : Int32) h).bind (fun r1 => (if r1 = true then ((zs_Ref_isSort x2 (3 : Int32) h).bind (fun r2 => (if r2 = true then (zs_Ref_method_J36 x1 x2 h) else (zs_Ref_method_J40 x1 x2 h)))) else (zs_Ref_method_J40 x1 x2 h))))
def zs_Ref_method (a1 : Int32) (a2 : Int32) (h : zx_H) : Option (Int32 × zx_H) :=
  ((zs_Ref_isSort a1 (4 : Int32) h).bind (fun r1 => (if r1 = true then ((zs_Ref_isSort a2 (4 : Int32) h).bind (fun r2 => (if r2 = true then (zs_Ref_method_J36 a1 a2 h) else (zs_Ref_method_J18 a1 a2 h)))) else (zs_Ref_method_J18 a1 a2 h))))
def zs_Ref_kindOf (a0 : Int32) (h : zx_H) : Option Int32 :=
  (if (7 : Int32) ≤ a0 then (some (a0 - (7 : Int32))) else (some a0))
def zs_Ref_isAmount_J14 (h : zx_H)   : Option Bool :=
  (some false)
def zs_Ref_isAmount (a0 : Int32) (h : zx_H) : Option Bool :=
  (if a0 < 0 then (zs_Ref_isAmount_J14 h) else (if (14 : Int32) ≤ a0 then (zs_Ref_isAmount_J14 h) else (some true)))
def zs_Ref_function_J32   (h : zx_H) : Option (Int32 × zx_H) :=
  ((zs_Ref_fails (1 : Int32) h).bind (fun r1 => (some (r1.1, r1.2))))
def zs_Ref_function_J54   (h : zx_H) : Option (Int32 × zx_H) :=
  ((zs_Ref_fails (2 : Int32) h).bind (fun r1 => (some (r1.1, r1.2))))
def zs_Ref_function (a1 : Int32) (a2 : Int32) (a3 : Int32) (a4 : Int32) (h : zx_H) : Option (Int32 × zx_H) :=
  ((zs_Ref_isAmount a1 h).bind (fun r1 => (if r1 = true then ((zs_Ref_isAmount a2 h).bind (fun r2 => (if r2 = true then ((zs_Ref_kindOf a1 h).bind (fun r3 => (if r3 = (6 : Int32) then (zs_Ref_function_J32 h) else ((zs_Ref_kindOf a2 h).bind (fun r4 => (if r4 = (6 : Int32) then (zs_Ref_function_J32 h) else (if (h.1 24 0 1) = 0 then (if (h.1 24 0 15) = (8 : Int32) then (zs_Ref_function_J54 h) else (zx_bnd (zx_sI h 24 0 0 (0 : Int32)) (fun h5 => (if zx_in (h5.1 24 0 15) 8 = true then (zx_bnd (zx_sI h5 36 0 (h5.1 24 0 15).toNatClampNeg a1) (fun h6 => (if zx_in (h6.1 24 0 15) 8 = true then (zx_bnd (zx_sI h6 37 0 (h6.1 24 0 15).toNatClampNeg a2) (fun h7 => (if zx_in (h7.1 24 0 15) 8 = true then (zx_bnd (zx_sI h7 38 0 (h7.1 24 0 15).toNatClampNeg a3) (fun h8 => (if zx_in (h8.1 24 0 15) 8 = true then (zx_bnd (zx_sI h8 39 0 (h8.1 24 0 15).toNatClampNeg a4) (fun h9 => (zx_bnd (zx_sI h9 24 0 15 ((h9.1 24 0 15) + (1 : Int32))) (fun h10 => (some (((h10.1 24 0 15) - (1 : Int32)), h10)))))) else none))) else none))) else none))) else none)))) else (zs_Ref_function_J54 h)))))))) else (zs_Ref_function_J32 h)))) else (zs_Ref_function_J32 h))))
def zs_Ref_rule_J22   (h : zx_H) : Option zx_H :=
  (zx_bnd (zx_sI h 24 0 0 (1 : Int32)) (fun h1 => (some h1)))
def zs_Ref_rule_J46   (h : zx_H) : Option zx_H :=
  (zx_bnd (zx_sI h 24 0 0 (2 : Int32)) (fun h1 => (some h1)))
def zs_Ref_rule (a1 : Int32) (a2 : Int32) (a3 : Int32) (a4 : Int64) (h : zx_H) : Option zx_H :=
  (if a1 < 0 then (zs_Ref_rule_J22 h) else (if (h.1 24 0 8) ≤ a1 then (zs_Ref_rule_J22 h) else (if a2 < 0 then (zs_Ref_rule_J22 h) else (if a2 ≤ (8 : Int32) then (if (h.1 24 0 1) = 0 then (if zx_in a1 16 = true then (if (h.1 32 0 a1.toNatClampNeg) = (24 : Int32) then (zs_Ref_rule_J46 h) else (zx_bnd (zx_sI h 24 0 0 (0 : Int32)) (fun h1 => (if zx_in a1 16 = true then (zx_bnd (((24 : Int32) * a1) + (h1.1 32 0 a1.toNatClampNeg)) (fun y2 => (if zx_in y2 384 = true then (zx_bnd (zx_sI h1 33 0 y2.toNatClampNeg a2) (fun h3 => (if zx_in y2 384 = true then (zx_bnd (zx_sI h3 34 0 y2.toNatClampNeg a3) (fun h4 => (if zx_in y2 384 = true then (zx_bnd (zx_sJ h4 35 0 y2.toNatClampNeg a4) (fun h5 => (if zx_in a1 16 = true then (if zx_in a1 16 = true then (zx_bnd (zx_sI h5 32 0 a1.toNatClampNeg ((h5.1 32 0 a1.toNatClampNeg) + (1 : Int32))) (fun h6 => (some h6))) else none) else none))) else none))) else none))) else none))) else none)))) else none) else (zs_Ref_rule_J46 h)) else (zs_Ref_rule_J22 h)))))
def zs_Ref_firstRule_J47 (h : zx_H) (k6 : (Int32 → Int32 → Int32 → Int32 → Option Int32)) (x1 : Int32) (x2 : Int32) (x3 : Int32) (x4 : Int32) : Option Int32 :=
  (k6 x1 x2 x3 (x4 + (1 : Int32)))
def zs_Ref_firstRule_L6_body (h : zx_H)  (k6 : (Int32 → Int32 → Int32 → Int32 → Option Int32)) (x1 : Int32) (x2 : Int32) (x3 : Int32) (x4 : Int32) : Option Int32 :=
  (if zx_in x1 16 = true then (if (((24 : Int32) * x1) + (h.1 32 0 x1.toNatClampNeg)) ≤ x4 then (some (-1 : Int32)) else (if zx_in x4 384 = true then (if (h.1 33 0 x4.toNatClampNeg) = x2 then (if zx_in x4 384 = true then (if (h.1 34 0 x4.toNatClampNeg) = x3 then (some x4) else (zs_Ref_firstRule_J47 h k6 x1 x2 x3 x4)) else none) else (zs_Ref_firstRule_J47 h k6 x1 x2 x3 x4)) else none)) else none)
def zs_Ref_firstRule_L6 (h : zx_H)  : (Int32 → Int32 → Int32 → Int32 → Option Int32) := zx_loop (fun _ _ _ _ => none) (zs_Ref_firstRule_L6_body h ) zx_fuel
def zs_Ref_firstRule (a1 : Int32) (a2 : Int32) (a3 : Int32) (h : zx_H) : Option Int32 :=
  (zx_bnd ((24 : Int32) * a1) (fun y1 => (zs_Ref_firstRule_L6 h a1 a2 a3 y1)))
def zs_Ref_latest_J41 (h : zx_H) (k8 : (Int32 → Int32 → Int32 → Int32 → Option Int32)) (x1 : Int32) (x2 : Int32) (x4 : Int32) (s0 : Int32) : Option Int32 :=
  (k8 x1 x2 s0 (x4 + (1 : Int32)))
def zs_Ref_latest_L8_body (h : zx_H)  (k8 : (Int32 → Int32 → Int32 → Int32 → Option Int32)) (x1 : Int32) (x2 : Int32) (x3 : Int32) (x4 : Int32) : Option Int32 :=
  (if zx_in x1 16 = true then (if (((24 : Int32) * x1) + (h.1 32 0 x1.toNatClampNeg)) ≤ x4 then (some x3) else (if zx_in x4 384 = true then (if (h.1 33 0 x4.toNatClampNeg) = x2 then (zs_Ref_latest_J41 h k8 x1 x2 x4 x4) else (zs_Ref_latest_J41 h k8 x1 x2 x4 x3)) else none)) else none)
def zs_Ref_latest_L8 (h : zx_H)  : (Int32 → Int32 → Int32 → Int32 → Option Int32) := zx_loop (fun _ _ _ _ => none) (zs_Ref_latest_L8_body h ) zx_fuel
def zs_Ref_latest (a1 : Int32) (a2 : Int32) (h : zx_H) : Option Int32 :=
  (zx_bnd ((24 : Int32) * a1) (fun y1 => (zs_Ref_latest_L8 h a1 a2 (-1 : Int32) y1)))
def zs_Ref_isNamed_J67 (h : zx_H) (k4 : (Int32 → Bool → Int32 → Option Bool)) (k18 : (Int32 → Bool → Int32 → Int32 → Option Bool)) (x1 : Int32) (x3 : Int32) (x4 : Int32) (s0 : Bool) : Option Bool :=
  (k18 x1 s0 x3 (x4 + (1 : Int32)))
def zs_Ref_isNamed_J62 (h : zx_H) (k4 : (Int32 → Bool → Int32 → Option Bool)) (k18 : (Int32 → Bool → Int32 → Int32 → Option Bool)) (x1 : Int32) (x3 : Int32) (x4 : Int32) : Option Bool :=
  (zs_Ref_isNamed_J67 h k4 k18 x1 x3 x4 true)
def zs_Ref_isNamed_J66 (h : zx_H) (k4 : (Int32 → Bool → Int32 → Option Bool)) (k18 : (Int32 → Bool → Int32 → Int32 → Option Bool)) (x1 : Int32) (x3 : Int32) (x4 : Int32) : Option Bool :=
  (zs_Ref_isNamed_J67 h k4 k18 x1 x3 x4 false)
def zs_Ref_isNamed_L18_body (h : zx_H) (k4 : (Int32 → Bool → Int32 → Option Bool)) (k18 : (Int32 → Bool → Int32 → Int32 → Option Bool)) (x1 : Int32) (x2 : Bool) (x3 : Int32) (x4 : Int32) : Option Bool :=
  (if zx_in x3 16 = true then (if (((24 : Int32) * x3) + (h.1 32 0 x3.toNatClampNeg)) ≤ x4 then (k4 x1 x2 (x3 + (1 : Int32))) else (if x2 = true then (zs_Ref_isNamed_J62 h k4 k18 x1 x3 x4) else (if zx_in x4 384 = true then (if (h.1 33 0 x4.toNatClampNeg) = (4 : Int32) then (if zx_in x4 384 = true then (if (h.2 35 0 x4.toNatClampNeg) = (x1.toInt64) then (zs_Ref_isNamed_J62 h k4 k18 x1 x3 x4) else (zs_Ref_isNamed_J66 h k4 k18 x1 x3 x4)) else none) else (zs_Ref_isNamed_J66 h k4 k18 x1 x3 x4)) else none))) else none)
def zs_Ref_isNamed_L18 (h : zx_H) (k4 : (Int32 → Bool → Int32 → Option Bool)) : (Int32 → Bool → Int32 → Int32 → Option Bool) := zx_loop (fun _ _ _ _ => none) (zs_Ref_isNamed_L18_body h k4) zx_fuel
def zs_Ref_isNamed_L4_body (h : zx_H)  (k4 : (Int32 → Bool → Int32 → Option Bool)) (x1 : Int32) (x2 : Bool) (x3 : Int32) : Option Bool :=
  (if (h.1 24 0 8) ≤ x3 then (some x2) else (zx_bnd ((24 : Int32) * x3) (fun y1 => (zs_Ref_isNamed_L18 h k4 x1 x2 x3 y1))))
def zs_Ref_isNamed_L4 (h : zx_H)  : (Int32 → Bool → Int32 → Option Bool) := zx_loop (fun _ _ _ => none) (zs_Ref_isNamed_L4_body h ) zx_fuel
def zs_Ref_isNamed (a1 : Int32) (h : zx_H) : Option Bool :=
  (zs_Ref_isNamed_L4 h a1 false (0 : Int32))
def zs_Ref_inverseOf (a1 : Int32) (h : zx_H) : Option Int32 :=
  ((zs_Ref_latest a1 (7 : Int32) h).bind (fun r1 => (if 0 ≤ r1 then (if zx_in r1 384 = true then (some ((h.2 35 0 r1.toNatClampNeg).toInt32)) else none) else (some (-1 : Int32)))))
def zs_Ref_nameOf_L2_body (h : zx_H)  (k2 : (Int64 → Int32 → Int32 → Option Int32)) (x0 : Int64) (x2 : Int32) (x3 : Int32) : Option Int32 :=
  (if x2 ≤ x3 then (if x2 ≤ (2 : Int32) then (some ((((zx_clshr x0 ((8 : Int32) * x2)) &&& (255 : Int64)).toInt32) - (1 : Int32))) else (some (-1 : Int32))) else (if ((zx_clshr x0 ((8 : Int32) * x3)) &&& (255 : Int64)) = (0 : Int64) then (some (-1 : Int32)) else (k2 x0 x2 (x3 + (1 : Int32)))))
def zs_Ref_nameOf_L2 (h : zx_H)  : (Int64 → Int32 → Int32 → Option Int32) := zx_loop (fun _ _ _ => none) (zs_Ref_nameOf_L2_body h ) zx_fuel
def zs_Ref_nameOf (a0 : Int64) (a2 : Int32) (h : zx_H) : Option Int32 :=
  (zs_Ref_nameOf_L2 h a0 a2 (0 : Int32))
def zs_Ref_byName (a1 : Int32) (a2 : Int32) (h : zx_H) : Option Int64 :=
  (if zx_in a1 16 = true then ((zs_Ref_placeOf (h.1 30 0 a1.toNatClampNeg) a2 h).bind (fun r1 => (if r1 < 0 then (some (0 : Int64)) else (some ((a2.toInt64) + (1 : Int64)))))) else none)
def zs_Ref_pathOf_J109 (h : zx_H) (k42 : (Int32 → Int32 → Int32 → Int32 → Option Int64)) (x1 : Int32) (x2 : Int32) (x4 : Int32) (x5 : Int32) (s0 : Bool) : Option Int64 :=
  (if s0 = true then (if zx_in x1 16 = true then (if zx_in x5 384 = true then ((zs_Ref_placeOf (h.1 30 0 x1.toNatClampNeg) (h.1 34 0 x5.toNatClampNeg) h).bind (fun r1 => (if r1 < 0 then ((zs_Ref_byName x1 x2 h).bind (fun r2 => (some r2))) else (if zx_in x5 384 = true then (some (((h.1 34 0 x5.toNatClampNeg).toInt64) + (1 : Int64))) else none)))) else none) else none) else (k42 x1 x2 x4 (x5 + (1 : Int32))))
def zs_Ref_pathOf_J108 (h : zx_H) (k42 : (Int32 → Int32 → Int32 → Int32 → Option Int64)) (x1 : Int32) (x2 : Int32) (x4 : Int32) (x5 : Int32) : Option Int64 :=
  (zs_Ref_pathOf_J109 h k42 x1 x2 x4 x5 false)
def zs_Ref_pathOf_J162 (h : zx_H)  (x1 : Int32) (x2 : Int32) : Option Int64 :=
  ((zs_Ref_byName x1 x2 h).bind (fun r1 => (some r1)))
def zs_Ref_pathOf_L42_body (h : zx_H)  (k42 : (Int32 → Int32 → Int32 → Int32 → Option Int64)) (x1 : Int32) (x2 : Int32) (x4 : Int32) (x5 : Int32) : Option Int64 :=
  (if x4 < 0 then (zs_Ref_pathOf_J162 h x1 x2) else (if zx_in x4 16 = true then (if (((24 : Int32) * x4) + (h.1 32 0 x4.toNatClampNeg)) ≤ x5 then (zs_Ref_pathOf_J162 h x1 x2) else (if zx_in x5 384 = true then (if (h.1 33 0 x5.toNatClampNeg) = 0 then (if zx_in x5 384 = true then ((zs_Ref_nameOf (h.2 35 0 x5.toNatClampNeg) (0 : Int32) h).bind (fun r1 => (if r1 = x2 then (if zx_in x5 384 = true then ((zs_Ref_nameOf (h.2 35 0 x5.toNatClampNeg) (1 : Int32) h).bind (fun r2 => (if 0 ≤ r2 then (zs_Ref_pathOf_J108 h k42 x1 x2 x4 x5) else (zs_Ref_pathOf_J109 h k42 x1 x2 x4 x5 true)))) else none) else (zs_Ref_pathOf_J108 h k42 x1 x2 x4 x5)))) else none) else (zs_Ref_pathOf_J108 h k42 x1 x2 x4 x5)) else none)) else none))
def zs_Ref_pathOf_L42 (h : zx_H)  : (Int32 → Int32 → Int32 → Int32 → Option Int64) := zx_loop (fun _ _ _ _ => none) (zs_Ref_pathOf_L42_body h ) zx_fuel
def zs_Ref_pathOf_J39 (h : zx_H)  (x1 : Int32) (x2 : Int32) (x4 : Int32) (s0 : Int32) (s1 : Int32) : Option Int64 :=
  (zx_bnd (s0 * s1) (fun y1 => (zs_Ref_pathOf_L42 h x1 x2 x4 y1)))
def zs_Ref_pathOf (a1 : Int32) (a2 : Int32) (h : zx_H) : Option Int64 :=
  ((zs_Ref_firstRule a1 (0 : Int32) a2 h).bind (fun r1 => (if r1 < 0 then ((zs_Ref_inverseOf a1 h).bind (fun r2 => (if 0 ≤ r2 then (zs_Ref_pathOf_J39 h a1 a2 r2 (24 : Int32) r2) else (zs_Ref_pathOf_J39 h a1 a2 r2 (24 : Int32) (0 : Int32))))) else (if zx_in r1 384 = true then (some (h.2 35 0 r1.toNatClampNeg)) else none))))
def zs_Ref_endOf_J53 (h : zx_H) (k25 : (Int64 → Int32 → Int32 → Int32 → Option Int32)) (x2 : Int64) (x4 : Int32) (x5 : Int32) (s0 : Int32) : Option Int32 :=
  (if 0 ≤ s0 then (if zx_in (((8 : Int32) * x4) + s0) 320 = true then (zx_bnd (h.1 28 0 (((8 : Int32) * x4) + s0).toNatClampNeg) (fun y1 => ((zs_Ref_nameOf x2 (x5 + (1 : Int32)) h).bind (fun r3 => (k25 x2 y1 (x5 + (1 : Int32)) r3))))) else none) else (some (-1 : Int32)))
def zs_Ref_endOf_L25_body (h : zx_H)  (k25 : (Int64 → Int32 → Int32 → Int32 → Option Int32)) (x2 : Int64) (x4 : Int32) (x5 : Int32) (x6 : Int32) : Option Int32 :=
  (if x6 < 0 then (some x4) else (if zx_in x4 40 = true then (if (h.1 25 0 x4.toNatClampNeg) = (4 : Int32) then ((zs_Ref_placeOf x4 x6 h).bind (fun r1 => (zs_Ref_endOf_J53 h k25 x2 x4 x5 r1))) else (zs_Ref_endOf_J53 h k25 x2 x4 x5 (-1 : Int32))) else none))
def zs_Ref_endOf_L25 (h : zx_H)  : (Int64 → Int32 → Int32 → Int32 → Option Int32) := zx_loop (fun _ _ _ _ => none) (zs_Ref_endOf_L25_body h ) zx_fuel
def zs_Ref_endOf (a1 : Int32) (a2 : Int64) (h : zx_H) : Option Int32 :=
  (if zx_in a1 16 = true then (zx_bnd (h.1 30 0 a1.toNatClampNeg) (fun y1 => ((zs_Ref_nameOf a2 (0 : Int32) h).bind (fun r2 => (if 0 ≤ r2 then (zs_Ref_endOf_L25 h a2 y1 (0 : Int32) r2) else (some (-1 : Int32))))))) else none)
def zs_Ref_constantOf_J197 (h : zx_H) (k102 : (Int32 → Int32 → Int32 → Int32 → Bool → Int32 → Option Int32)) (x1 : Int32) (x4 : Int32) (x5 : Int32) (x7 : Int32) (x8 : Bool) (x9 : Int32) : Option Int32 :=
  (k102 x1 x4 x5 x7 x8 (x9 + (1 : Int32)))
def zs_Ref_constantOf_J160 (h : zx_H) (k102 : (Int32 → Int32 → Int32 → Int32 → Bool → Int32 → Option Int32)) (x1 : Int32) (x4 : Int32) (x5 : Int32) (x7 : Int32) (x9 : Int32) (s0 : Bool) : Option Int32 :=
  (if s0 = true then (if zx_in x9 384 = true then ((zs_Ref_placeOf x4 (h.1 34 0 x9.toNatClampNeg) h).bind (fun r1 => (if r1 < 0 then (zs_Ref_constantOf_J197 h k102 x1 x4 x5 x7 s0 x9) else (if zx_in x9 384 = true then ((zs_Ref_placeOf x4 (h.1 34 0 x9.toNatClampNeg) h).bind (fun r2 => (some r2))) else none)))) else none) else (zs_Ref_constantOf_J197 h k102 x1 x4 x5 x7 s0 x9))
def zs_Ref_constantOf_J159 (h : zx_H) (k102 : (Int32 → Int32 → Int32 → Int32 → Bool → Int32 → Option Int32)) (x1 : Int32) (x4 : Int32) (x5 : Int32) (x7 : Int32) (x9 : Int32) : Option Int32 :=
  (zs_Ref_constantOf_J160 h k102 x1 x4 x5 x7 x9 false)
def zs_Ref_constantOf_J203 (h : zx_H)  (x1 : Int32) (x4 : Int32) (x5 : Int32) : Option Int32 :=
  ((zs_Ref_placeOf x4 x5 h).bind (fun r1 => (if r1 < 0 then ((zs_Ref_latest x1 (6 : Int32) h).bind (fun r3 => (if 0 ≤ r3 then (if zx_in r3 384 = true then (if (h.2 35 0 r3.toNatClampNeg) = (-1 : Int64) then (some (-1 : Int32)) else (if zx_in r3 384 = true then (if (h.2 35 0 r3.toNatClampNeg) = (-2 : Int64) then (some (-2 : Int32)) else (if zx_in r3 384 = true then ((zs_Ref_placeOf x4 ((h.2 35 0 r3.toNatClampNeg).toInt32) h).bind (fun r4 => (some r4))) else none)) else none)) else none) else (some (-3 : Int32))))) else ((zs_Ref_placeOf x4 x5 h).bind (fun r2 => (some r2))))))
def zs_Ref_constantOf_L102_body (h : zx_H)  (k102 : (Int32 → Int32 → Int32 → Int32 → Bool → Int32 → Option Int32)) (x1 : Int32) (x4 : Int32) (x5 : Int32) (x7 : Int32) (x8 : Bool) (x9 : Int32) : Option Int32 :=
  (if x7 < 0 then (zs_Ref_constantOf_J203 h x1 x4 x5) else (if zx_in x7 16 = true then (if (((24 : Int32) * x7) + (h.1 32 0 x7.toNatClampNeg)) ≤ x9 then (zs_Ref_constantOf_J203 h x1 x4 x5) else (if x8 = true then (zs_Ref_constantOf_J203 h x1 x4 x5) else (if zx_in x9 384 = true then (if (h.1 33 0 x9.toNatClampNeg) = (5 : Int32) then (if zx_in x9 384 = true then (if (h.2 35 0 x9.toNatClampNeg) = (x5.toInt64) then (zs_Ref_constantOf_J160 h k102 x1 x4 x5 x7 x9 true) else (zs_Ref_constantOf_J159 h k102 x1 x4 x5 x7 x9)) else none) else (zs_Ref_constantOf_J159 h k102 x1 x4 x5 x7 x9)) else none))) else none))
def zs_Ref_constantOf_L102 (h : zx_H)  : (Int32 → Int32 → Int32 → Int32 → Bool → Int32 → Option Int32) := zx_loop (fun _ _ _ _ _ _ => none) (zs_Ref_constantOf_L102_body h ) zx_fuel
def zs_Ref_constantOf_J99 (h : zx_H)  (x1 : Int32) (x4 : Int32) (x5 : Int32) (x7 : Int32) (x8 : Bool) (s0 : Int32) (s1 : Int32) : Option Int32 :=
  (zx_bnd (s0 * s1) (fun y1 => (zs_Ref_constantOf_L102 h x1 x4 x5 x7 x8 y1)))
def zs_Ref_constantOf (a1 : Int32) (a2 : Int32) (h : zx_H) : Option Int32 :=
  (if zx_in a1 16 = true then (zx_bnd (h.1 30 0 a1.toNatClampNeg) (fun y1 => (if zx_in a1 16 = true then (zx_bnd (h.1 31 0 a1.toNatClampNeg) (fun y2 => (if zx_in (((8 : Int32) * y1) + a2) 320 = true then (zx_bnd (h.1 27 0 (((8 : Int32) * y1) + a2).toNatClampNeg) (fun y3 => ((zs_Ref_firstRule a1 (5 : Int32) y3 h).bind (fun r4 => (if r4 < 0 then ((zs_Ref_inverseOf a1 h).bind (fun r6 => (if 0 ≤ r6 then (zs_Ref_constantOf_J99 h a1 y2 y3 r6 false (24 : Int32) r6) else (zs_Ref_constantOf_J99 h a1 y2 y3 r6 false (24 : Int32) (0 : Int32))))) else (if zx_in r4 384 = true then (if (h.2 35 0 r4.toNatClampNeg) = (-1 : Int64) then (some (-1 : Int32)) else (if zx_in r4 384 = true then ((zs_Ref_placeOf y2 ((h.2 35 0 r4.toNatClampNeg).toInt32) h).bind (fun r5 => (some r5))) else none)) else none)))))) else none))) else none))) else none)
def zs_Ref_converts_J41 (h : zx_H)   : Option Bool :=
  (some true)
def zs_Ref_converts_J45 (h : zx_H)   : Option Bool :=
  (some false)
def zs_Ref_converts_J84 (h : zx_H)  (s0 : Int32) : Option Bool :=
  ((zs_Ref_kindOf s0 h).bind (fun r1 => (if r1 = (6 : Int32) then (some false) else (some true))))
def zs_Ref_converts_J73 (h : zx_H)  (x1 : Int32) (x2 : Int32) : Option Bool :=
  (if x1 = (14 : Int32) then (zs_Ref_converts_J84 h x2) else (zs_Ref_converts_J84 h x1))
def zs_Ref_converts_J128 (h : zx_H)   : Option Bool :=
  (some true)
def zs_Ref_converts_J132 (h : zx_H)   : Option Bool :=
  (some false)
def zs_Ref_converts_J113 (h : zx_H)  (x1 : Int32) (x2 : Int32) : Option Bool :=
  (if x2 = (14 : Int32) then ((zs_Ref_isSort x1 (3 : Int32) h).bind (fun r1 => (if r1 = true then (zs_Ref_converts_J128 h) else (zs_Ref_converts_J132 h)))) else (zs_Ref_converts_J132 h))
def zs_Ref_converts_J98 (h : zx_H)  (x1 : Int32) (x2 : Int32) : Option Bool :=
  (if x1 = (14 : Int32) then ((zs_Ref_isSort x2 (3 : Int32) h).bind (fun r1 => (if r1 = true then (zs_Ref_converts_J128 h) else (zs_Ref_converts_J113 h x1 x2)))) else (zs_Ref_converts_J113 h x1 x2))
def zs_Ref_converts_J60 (h : zx_H)  (x1 : Int32) (x2 : Int32) : Option Bool :=
  (if x1 = (14 : Int32) then ((zs_Ref_isAmount x2 h).bind (fun r1 => (if r1 = true then (zs_Ref_converts_J73 h x1 x2) else (zs_Ref_converts_J98 h x1 x2)))) else (zs_Ref_converts_J98 h x1 x2))
def zs_Ref_converts_J47 (h : zx_H)  (x1 : Int32) (x2 : Int32) : Option Bool :=
  ((zs_Ref_isAmount x1 h).bind (fun r1 => (if r1 = true then (if x2 = (14 : Int32) then (zs_Ref_converts_J73 h x1 x2) else (zs_Ref_converts_J60 h x1 x2)) else (zs_Ref_converts_J60 h x1 x2))))
def zs_Ref_converts (a1 : Int32) (a2 : Int32) (h : zx_H) : Option Bool :=
  ((zs_Ref_isAmount a1 h).bind (fun r1 => (if r1 = true then ((zs_Ref_isAmount a2 h).bind (fun r2 => (if r2 = true then ((zs_Ref_kindOf a1 h).bind (fun r3 => ((zs_Ref_kindOf a2 h).bind (fun r4 => (if r3 = r4 then (zs_Ref_converts_J41 h) else ((zs_Ref_kindOf a1 h).bind (fun r5 => (if r5 = (5 : Int32) then (zs_Ref_converts_J45 h) else ((zs_Ref_kindOf a2 h).bind (fun r6 => (if r6 = (5 : Int32) then (zs_Ref_converts_J45 h) else (zs_Ref_converts_J41 h)))))))))))) else (zs_Ref_converts_J47 h a1 a2)))) else (zs_Ref_converts_J47 h a1 a2))))
def zs_Ref_functionOf_J111 (h : zx_H) (k6 : (Int32 → Int32 → Bool → Int32 → Int32 → Option Int32)) (x1 : Int32) (x2 : Int32) (x3 : Bool) (x5 : Int32) (s0 : Int32) : Option Int32 :=
  (k6 x1 x2 x3 s0 (x5 + (1 : Int32)))
def zs_Ref_functionOf_J103 (h : zx_H) (k6 : (Int32 → Int32 → Bool → Int32 → Int32 → Option Int32)) (x1 : Int32) (x2 : Int32) (x3 : Bool) (x5 : Int32) (s0 : Int32) : Option Int32 :=
  (zs_Ref_functionOf_J111 h k6 x1 x2 x3 x5 (s0 + x5))
def zs_Ref_functionOf_J73 (h : zx_H) (k6 : (Int32 → Int32 → Bool → Int32 → Int32 → Option Int32)) (x1 : Int32) (x2 : Int32) (x3 : Bool) (x4 : Int32) (x5 : Int32) (s0 : Bool) : Option Int32 :=
  (if s0 = true then (if x4 = (-1 : Int32) then (if x3 = true then (zs_Ref_functionOf_J103 h k6 x1 x2 x3 x5 (300 : Int32)) else (zs_Ref_functionOf_J103 h k6 x1 x2 x3 x5 (100 : Int32))) else (zs_Ref_functionOf_J111 h k6 x1 x2 x3 x5 (-2 : Int32))) else (zs_Ref_functionOf_J111 h k6 x1 x2 x3 x5 x4))
def zs_Ref_functionOf_J68 (h : zx_H) (k6 : (Int32 → Int32 → Bool → Int32 → Int32 → Option Int32)) (x1 : Int32) (x2 : Int32) (x3 : Bool) (x4 : Int32) (x5 : Int32) : Option Int32 :=
  (zs_Ref_functionOf_J73 h k6 x1 x2 x3 x4 x5 true)
def zs_Ref_functionOf_J72 (h : zx_H) (k6 : (Int32 → Int32 → Bool → Int32 → Int32 → Option Int32)) (x1 : Int32) (x2 : Int32) (x3 : Bool) (x4 : Int32) (x5 : Int32) : Option Int32 :=
  (zs_Ref_functionOf_J73 h k6 x1 x2 x3 x4 x5 false)
def zs_Ref_functionOf_L6_body (h : zx_H)  (k6 : (Int32 → Int32 → Bool → Int32 → Int32 → Option Int32)) (x1 : Int32) (x2 : Int32) (x3 : Bool) (x4 : Int32) (x5 : Int32) : Option Int32 :=
  (if (h.1 24 0 15) ≤ x5 then (some x4) else (if zx_in x5 8 = true then (if (h.1 37 0 x5.toNatClampNeg) = x2 then ((zs_Ref_isNamed x5 h).bind (fun r1 => (if r1 = true then (zs_Ref_functionOf_J72 h k6 x1 x2 x3 x4 x5) else (if x3 = true then (if zx_in x5 8 = true then ((zs_Ref_converts x1 (h.1 36 0 x5.toNatClampNeg) h).bind (fun r2 => (if r2 = true then (zs_Ref_functionOf_J68 h k6 x1 x2 x3 x4 x5) else (zs_Ref_functionOf_J72 h k6 x1 x2 x3 x4 x5)))) else none) else (if zx_in x5 8 = true then (if (h.1 36 0 x5.toNatClampNeg) = x1 then (zs_Ref_functionOf_J68 h k6 x1 x2 x3 x4 x5) else (zs_Ref_functionOf_J72 h k6 x1 x2 x3 x4 x5)) else none))))) else (zs_Ref_functionOf_J72 h k6 x1 x2 x3 x4 x5)) else none))
def zs_Ref_functionOf_L6 (h : zx_H)  : (Int32 → Int32 → Bool → Int32 → Int32 → Option Int32) := zx_loop (fun _ _ _ _ _ => none) (zs_Ref_functionOf_L6_body h ) zx_fuel
def zs_Ref_functionOf (a1 : Int32) (a2 : Int32) (a3 : Bool) (h : zx_H) : Option Int32 :=
  (zs_Ref_functionOf_L6 h a1 a2 a3 (-1 : Int32) (0 : Int32))
def zs_Ref_one_J93 (h : zx_H) (k28 : (Int32 → Int32 → Int32 → Int32 → Option Int32)) (x1 : Int32) (x2 : Int32) (x5 : Int32) (s0 : Int32) : Option Int32 :=
  (k28 x1 x2 s0 (x5 + (1 : Int32)))
def zs_Ref_one_J64 (h : zx_H) (k28 : (Int32 → Int32 → Int32 → Int32 → Option Int32)) (x1 : Int32) (x2 : Int32) (x4 : Int32) (x5 : Int32) (s0 : Bool) : Option Int32 :=
  (if s0 = true then (if x4 = (-1 : Int32) then (zs_Ref_one_J93 h k28 x1 x2 x5 ((200 : Int32) + x5)) else (zs_Ref_one_J93 h k28 x1 x2 x5 (-2 : Int32))) else (zs_Ref_one_J93 h k28 x1 x2 x5 x4))
def zs_Ref_one_J63 (h : zx_H) (k28 : (Int32 → Int32 → Int32 → Int32 → Option Int32)) (x1 : Int32) (x2 : Int32) (x4 : Int32) (x5 : Int32) : Option Int32 :=
  (zs_Ref_one_J64 h k28 x1 x2 x4 x5 false)
def zs_Ref_one_J162 (h : zx_H)   : Option Int32 :=
  (some (-1 : Int32))
def zs_Ref_one_L28_body (h : zx_H)  (k28 : (Int32 → Int32 → Int32 → Int32 → Option Int32)) (x1 : Int32) (x2 : Int32) (x4 : Int32) (x5 : Int32) : Option Int32 :=
  (if (h.1 24 0 8) ≤ x5 then (if x4 = (-1 : Int32) then ((zs_Ref_converts x1 x2 h).bind (fun r1 => (if r1 = true then (some (1 : Int32)) else ((zs_Ref_functionOf x1 x2 true h).bind (fun r2 => (if r2 = (-1 : Int32) then (if zx_in x1 40 = true then (if (h.1 25 0 x1.toNatClampNeg) = (5 : Int32) then (if zx_in x2 40 = true then (if (h.1 25 0 x2.toNatClampNeg) = (5 : Int32) then (some (2 : Int32)) else (zs_Ref_one_J162 h)) else none) else (zs_Ref_one_J162 h)) else none) else (some r2))))))) else (some x4)) else (if zx_in x5 16 = true then (if (h.1 30 0 x5.toNatClampNeg) = x1 then (if zx_in x5 16 = true then (if (h.1 31 0 x5.toNatClampNeg) = x2 then (zs_Ref_one_J64 h k28 x1 x2 x4 x5 true) else (zs_Ref_one_J63 h k28 x1 x2 x4 x5)) else none) else (zs_Ref_one_J63 h k28 x1 x2 x4 x5)) else none))
def zs_Ref_one_L28 (h : zx_H)  : (Int32 → Int32 → Int32 → Int32 → Option Int32) := zx_loop (fun _ _ _ _ => none) (zs_Ref_one_L28_body h ) zx_fuel
def zs_Ref_one (a1 : Int32) (a2 : Int32) (h : zx_H) : Option Int32 :=
  (if a1 = a2 then (some (0 : Int32)) else ((zs_Ref_functionOf a1 a2 false h).bind (fun r1 => (if r1 = (-1 : Int32) then (zs_Ref_one_L28 h a1 a2 (-1 : Int32) (0 : Int32)) else (some r1)))))
def zs_Ref_how_L18_body (h : zx_H)  (k18 : (Int32 → Int32 → Int32 → Int32 → Option Int32)) (x3 : Int32) (x4 : Int32) (x5 : Int32) (x6 : Int32) : Option Int32 :=
  (if x5 = (2 : Int32) then (if zx_in x3 40 = true then (zx_bnd (h.1 29 0 x3.toNatClampNeg) (fun y1 => (if zx_in x4 40 = true then (zx_bnd (h.1 29 0 x4.toNatClampNeg) (fun y2 => ((zs_Ref_one y1 y2 h).bind (fun r3 => (k18 y1 y2 r3 x6))))) else none))) else none) else (if 0 ≤ x5 then (some x6) else (some x5)))
def zs_Ref_how_L18 (h : zx_H)  : (Int32 → Int32 → Int32 → Int32 → Option Int32) := zx_loop (fun _ _ _ _ => none) (zs_Ref_how_L18_body h ) zx_fuel
def zs_Ref_how (a1 : Int32) (a2 : Int32) (h : zx_H) : Option Int32 :=
  ((zs_Ref_one a1 a2 h).bind (fun r1 => (zs_Ref_how_L18 h a1 a2 r1 r1)))
def zs_Ref_faulty (a1 : Int32) (a2 : Int32) (a3 : Int32) (h : zx_H) : Option (Bool × zx_H) :=
  (zx_bnd (zx_sI h 24 0 20 a1) (fun h1 => (zx_bnd (zx_sI h1 24 0 21 a2) (fun h2 => (zx_bnd (zx_sI h2 24 0 22 a3) (fun h3 => (some (true, h3))))))))
def zs_Ref_isWrongInverse_J86 (h : zx_H)   : Option Bool :=
  (some true)
def zs_Ref_isWrongInverse (a1 : Int32) (h : zx_H) : Option Bool :=
  ((zs_Ref_latest a1 (7 : Int32) h).bind (fun r1 => (if 0 ≤ r1 then (if zx_in r1 384 = true then (zx_bnd (h.2 35 0 r1.toNatClampNeg) (fun y2 => (if y2 < (0 : Int64) then (some true) else (if y2 < ((h.1 24 0 8).toInt64) then (zx_bnd (y2.toInt32) (fun y3 => (if zx_in y3 16 = true then (if zx_in a1 16 = true then (if (h.1 30 0 y3.toNatClampNeg) = (h.1 31 0 a1.toNatClampNeg) then (if zx_in y3 16 = true then (if zx_in a1 16 = true then (if (h.1 31 0 y3.toNatClampNeg) = (h.1 30 0 a1.toNatClampNeg) then ((zs_Ref_latest y3 (7 : Int32) h).bind (fun r4 => (if r4 < 0 then (some false) else (zs_Ref_isWrongInverse_J86 h)))) else (zs_Ref_isWrongInverse_J86 h)) else none) else none) else (zs_Ref_isWrongInverse_J86 h)) else none) else none))) else (some true))))) else none) else (some false))))
def zs_Ref_wrong_J104 (h : zx_H) (k35 : (Int32 → Int32 → Int32 → Bool → Int32 → Option Int32)) (x1 : Int32) (x2 : Int32) (x3 : Int32) (x4 : Bool) (x5 : Int32) : Option Int32 :=
  (k35 x1 x2 x3 x4 (x5 + (1 : Int32)))
def zs_Ref_wrong_J79 (h : zx_H) (k35 : (Int32 → Int32 → Int32 → Bool → Int32 → Option Int32)) (x1 : Int32) (x2 : Int32) (x3 : Int32) (x4 : Bool) (x5 : Int32) (s0 : Bool) : Option Int32 :=
  (if s0 = true then (if zx_in x5 384 = true then (if zx_in x2 384 = true then (if (h.1 34 0 x5.toNatClampNeg) = (h.1 34 0 x2.toNatClampNeg) then (some (2 : Int32)) else (zs_Ref_wrong_J104 h k35 x1 x2 x3 x4 x5)) else none) else none) else (zs_Ref_wrong_J104 h k35 x1 x2 x3 x4 x5))
def zs_Ref_wrong_J74 (h : zx_H) (k35 : (Int32 → Int32 → Int32 → Bool → Int32 → Option Int32)) (x1 : Int32) (x2 : Int32) (x3 : Int32) (x4 : Bool) (x5 : Int32) : Option Int32 :=
  (zs_Ref_wrong_J79 h k35 x1 x2 x3 x4 x5 true)
def zs_Ref_wrong_J78 (h : zx_H) (k35 : (Int32 → Int32 → Int32 → Bool → Int32 → Option Int32)) (x1 : Int32) (x2 : Int32) (x3 : Int32) (x4 : Bool) (x5 : Int32) : Option Int32 :=
  (zs_Ref_wrong_J79 h k35 x1 x2 x3 x4 x5 false)
def zs_Ref_wrong_J225 (h : zx_H)   : Option Int32 :=
  (some (4 : Int32))
def zs_Ref_wrong_J353 (h : zx_H)   : Option Int32 :=
  (some (4 : Int32))
def zs_Ref_wrong_J357 (h : zx_H)   : Option Int32 :=
  (some (0 : Int32))
def zs_Ref_wrong_J343 (h : zx_H)  (x5 : Bool) (x6 : Bool) : Option Int32 :=
  (if x5 = true then (zs_Ref_wrong_J357 h) else (if x6 = true then (zs_Ref_wrong_J357 h) else (zs_Ref_wrong_J353 h)))
def zs_Ref_wrong_J330 (h : zx_H)  (x3 : Int32) (x4 : Bool) (x5 : Bool) (s0 : Bool) : Option Int32 :=
  (if x3 = (6 : Int32) then (if x4 = true then (zs_Ref_wrong_J353 h) else (zs_Ref_wrong_J343 h x5 s0)) else (zs_Ref_wrong_J343 h x5 s0))
def zs_Ref_wrong_J325 (h : zx_H)  (x3 : Int32) (x4 : Bool) (x5 : Bool) : Option Int32 :=
  (zs_Ref_wrong_J330 h x3 x4 x5 true)
def zs_Ref_wrong_J329 (h : zx_H)  (x3 : Int32) (x4 : Bool) (x5 : Bool) : Option Int32 :=
  (zs_Ref_wrong_J330 h x3 x4 x5 false)
def zs_Ref_wrong_J291 (h : zx_H)  (x2 : Int32) (x3 : Int32) (x4 : Bool) (s0 : Bool) : Option Int32 :=
  (if zx_in x2 384 = true then (if (h.2 35 0 x2.toNatClampNeg) = (-1 : Int64) then (zs_Ref_wrong_J325 h x3 x4 s0) else (if x3 = (6 : Int32) then (if zx_in x2 384 = true then (if (h.2 35 0 x2.toNatClampNeg) = (-2 : Int64) then (zs_Ref_wrong_J325 h x3 x4 s0) else (zs_Ref_wrong_J329 h x3 x4 s0)) else none) else (zs_Ref_wrong_J329 h x3 x4 s0))) else none)
def zs_Ref_wrong_J290 (h : zx_H)  (x2 : Int32) (x3 : Int32) (x4 : Bool) : Option Int32 :=
  (zs_Ref_wrong_J291 h x2 x3 x4 false)
def zs_Ref_wrong_J242 (h : zx_H)  (x1 : Int32) (x2 : Int32) (x3 : Int32) (x4 : Bool) : Option Int32 :=
  (if zx_in x2 384 = true then (if (h.2 35 0 x2.toNatClampNeg) < (0 : Int64) then (zs_Ref_wrong_J290 h x2 x3 x4) else (if zx_in x2 384 = true then (if (64 : Int64) ≤ (h.2 35 0 x2.toNatClampNeg) then (zs_Ref_wrong_J290 h x2 x3 x4) else (if zx_in x1 16 = true then (if zx_in x2 384 = true then ((zs_Ref_placeOf (h.1 31 0 x1.toNatClampNeg) ((h.2 35 0 x2.toNatClampNeg).toInt32) h).bind (fun r1 => (if r1 < 0 then (zs_Ref_wrong_J290 h x2 x3 x4) else (zs_Ref_wrong_J291 h x2 x3 x4 true)))) else none) else none)) else none)) else none)
def zs_Ref_wrong_J374 (h : zx_H)   : Option Int32 :=
  (some (0 : Int32))
def zs_Ref_wrong_J170 (h : zx_H)  (x1 : Int32) (x2 : Int32) (x3 : Int32) (x4 : Bool) : Option Int32 :=
  (if x3 = 0 then (if zx_in x2 384 = true then ((zs_Ref_endOf x1 (h.2 35 0 x2.toNatClampNeg) h).bind (fun r1 => (if 0 ≤ r1 then (some (0 : Int32)) else (some (4 : Int32))))) else none) else (if x3 = (4 : Int32) then (if zx_in x2 384 = true then (if (h.2 35 0 x2.toNatClampNeg) < (0 : Int64) then (zs_Ref_wrong_J225 h) else (if zx_in x2 384 = true then (if (h.2 35 0 x2.toNatClampNeg) < ((h.1 24 0 15).toInt64) then (some (0 : Int32)) else (zs_Ref_wrong_J225 h)) else none)) else none) else (if x3 = (5 : Int32) then (zs_Ref_wrong_J242 h x1 x2 x3 x4) else (if x3 = (6 : Int32) then (zs_Ref_wrong_J242 h x1 x2 x3 x4) else (if x3 = (8 : Int32) then (if x4 = true then (zs_Ref_wrong_J374 h) else (some (4 : Int32))) else (zs_Ref_wrong_J374 h))))))
def zs_Ref_wrong_J139 (h : zx_H)  (x1 : Int32) (x2 : Int32) (x3 : Int32) (x4 : Bool) : Option Int32 :=
  (if x3 = (5 : Int32) then (if x4 = true then (some (3 : Int32)) else (if zx_in x1 16 = true then (if zx_in x2 384 = true then ((zs_Ref_placeOf (h.1 30 0 x1.toNatClampNeg) (h.1 34 0 x2.toNatClampNeg) h).bind (fun r1 => (if 0 ≤ r1 then (zs_Ref_wrong_J170 h x1 x2 x3 x4) else (some (3 : Int32))))) else none) else none)) else (zs_Ref_wrong_J170 h x1 x2 x3 x4))
def zs_Ref_wrong_J110 (h : zx_H)  (x1 : Int32) (x2 : Int32) (x3 : Int32) (x4 : Bool) : Option Int32 :=
  (if (5 : Int32) ≤ x3 then (zs_Ref_wrong_J139 h x1 x2 x3 x4) else (if x4 = true then (if zx_in x1 16 = true then (if zx_in x2 384 = true then ((zs_Ref_placeOf (h.1 31 0 x1.toNatClampNeg) (h.1 34 0 x2.toNatClampNeg) h).bind (fun r1 => (if r1 < 0 then (some (3 : Int32)) else (zs_Ref_wrong_J139 h x1 x2 x3 x4)))) else none) else none) else (some (3 : Int32))))
def zs_Ref_wrong_L35_body (h : zx_H)  (k35 : (Int32 → Int32 → Int32 → Bool → Int32 → Option Int32)) (x1 : Int32) (x2 : Int32) (x3 : Int32) (x4 : Bool) (x5 : Int32) : Option Int32 :=
  (if x2 ≤ x5 then (zs_Ref_wrong_J110 h x1 x2 x3 x4) else (if (6 : Int32) ≤ x3 then (zs_Ref_wrong_J110 h x1 x2 x3 x4) else (if zx_in x5 384 = true then (if (h.1 33 0 x5.toNatClampNeg) = x3 then (zs_Ref_wrong_J74 h k35 x1 x2 x3 x4 x5) else (if zx_in x5 384 = true then (if (3 : Int32) ≤ (h.1 33 0 x5.toNatClampNeg) then (zs_Ref_wrong_J78 h k35 x1 x2 x3 x4 x5) else (if (3 : Int32) ≤ x3 then (zs_Ref_wrong_J78 h k35 x1 x2 x3 x4 x5) else (zs_Ref_wrong_J74 h k35 x1 x2 x3 x4 x5))) else none)) else none)))
def zs_Ref_wrong_L35 (h : zx_H)  : (Int32 → Int32 → Int32 → Bool → Int32 → Option Int32) := zx_loop (fun _ _ _ _ _ => none) (zs_Ref_wrong_L35_body h ) zx_fuel
def zs_Ref_wrong_J27 (h : zx_H)  (x1 : Int32) (x2 : Int32) (x3 : Int32) (s0 : Bool) : Option Int32 :=
  (zx_bnd ((24 : Int32) * x1) (fun y1 => (zs_Ref_wrong_L35 h x1 x2 x3 s0 y1)))
def zs_Ref_wrong (a1 : Int32) (a2 : Int32) (h : zx_H) : Option Int32 :=
  (if zx_in a2 384 = true then (zx_bnd (h.1 33 0 a2.toNatClampNeg) (fun y1 => (if zx_in a1 16 = true then (if zx_in (h.1 31 0 a1.toNatClampNeg) 40 = true then (if (h.1 25 0 (h.1 31 0 a1.toNatClampNeg).toNatClampNeg) = (4 : Int32) then (zs_Ref_wrong_J27 h a1 a2 y1 true) else (zs_Ref_wrong_J27 h a1 a2 y1 false)) else none) else none))) else none)
def zs_Ref_wrongWay (a0 : Int32) (h : zx_H) : Option Int32 :=
  (if a0 = (-1 : Int32) then (some (6 : Int32)) else (if a0 = (-2 : Int32) then (some (7 : Int32)) else (some (0 : Int32))))
def zs_Ref_wrongProperty_J188 (h : zx_H)  (x10 : Int32) : Option Int32 :=
  (some x10)
def zs_Ref_wrongProperty_J171 (h : zx_H)  (x1 : Int32) (x3 : Int32) (x4 : Int32) (s0 : Int32) : Option Int32 :=
  (if 0 < s0 then (zs_Ref_wrongProperty_J188 h s0) else ((zs_Ref_firstRule x1 (3 : Int32) x3 h).bind (fun r1 => (if 0 ≤ r1 then ((zs_Ref_how (4 : Int32) x4 h).bind (fun r2 => ((zs_Ref_wrongWay r2 h).bind (fun r3 => (some r3))))) else (zs_Ref_wrongProperty_J188 h s0)))))
def zs_Ref_wrongProperty_J169 (h : zx_H)  (x1 : Int32) (x3 : Int32) (x4 : Int32) : Option Int32 :=
  (zs_Ref_wrongProperty_J171 h x1 x3 x4 (6 : Int32))
def zs_Ref_wrongProperty_J120 (h : zx_H)  (x1 : Int32) (x3 : Int32) (x4 : Int32) (x7 : Int32) (x8 : Int32) (s0 : Int32) : Option Int32 :=
  (if 0 ≤ x8 then (if zx_in s0 8 = true then (if (h.1 36 0 s0.toNatClampNeg) = x7 then (if zx_in s0 8 = true then (if (h.1 37 0 s0.toNatClampNeg) = x4 then (zs_Ref_wrongProperty_J171 h x1 x3 x4 (0 : Int32)) else (zs_Ref_wrongProperty_J169 h x1 x3 x4)) else none) else (zs_Ref_wrongProperty_J169 h x1 x3 x4)) else none) else ((zs_Ref_how x7 x4 h).bind (fun r1 => ((zs_Ref_wrongWay r1 h).bind (fun r2 => (zs_Ref_wrongProperty_J171 h x1 x3 x4 r2))))))
def zs_Ref_wrongProperty (a1 : Int32) (a2 : Int32) (h : zx_H) : Option Int32 :=
  (if zx_in a1 16 = true then (if zx_in (((8 : Int32) * (h.1 31 0 a1.toNatClampNeg)) + a2) 320 = true then (zx_bnd (h.1 27 0 (((8 : Int32) * (h.1 31 0 a1.toNatClampNeg)) + a2).toNatClampNeg) (fun y1 => (if zx_in a1 16 = true then (if zx_in (((8 : Int32) * (h.1 31 0 a1.toNatClampNeg)) + a2) 320 = true then (zx_bnd (h.1 28 0 (((8 : Int32) * (h.1 31 0 a1.toNatClampNeg)) + a2).toNatClampNeg) (fun y2 => ((zs_Ref_firstRule a1 (2 : Int32) y1 h).bind (fun r3 => (if r3 < 0 then ((zs_Ref_firstRule a1 (1 : Int32) y1 h).bind (fun r4 => (if r4 < 0 then ((zs_Ref_pathOf a1 y1 h).bind (fun r7 => (if r7 = (0 : Int64) then (some (5 : Int32)) else ((zs_Ref_endOf a1 r7 h).bind (fun r8 => ((zs_Ref_firstRule a1 (4 : Int32) y1 h).bind (fun r9 => (if 0 ≤ r9 then (if zx_in r9 384 = true then (zs_Ref_wrongProperty_J120 h a1 y1 y2 r8 r9 ((h.2 35 0 r9.toNatClampNeg).toInt32)) else none) else (zs_Ref_wrongProperty_J120 h a1 y1 y2 r8 r9 (0 : Int32)))))))))) else ((zs_Ref_how (4 : Int32) y2 h).bind (fun r5 => ((zs_Ref_wrongWay r5 h).bind (fun r6 => (some r6)))))))) else (some (0 : Int32))))))) else none) else none))) else none) else none)
def zs_Ref_isFaulty_J152 (k115 : (Int32 → Bool → Int32 → Int32 → zx_H → Option (Bool × zx_H))) (x1 : Int32) (x2 : Bool) (x3 : Int32) (x4 : Int32) (s0 : Int32) (h : zx_H) : Option (Bool × zx_H) :=
  (if s0 ≤ 0 then (k115 x1 x2 x3 (x4 + (1 : Int32)) h) else ((zs_Ref_faulty s0 x1 x4 h).bind (fun r1 => (some (r1.1, r1.2)))))
def zs_Ref_isFaulty_L115_body  (k115 : (Int32 → Bool → Int32 → Int32 → zx_H → Option (Bool × zx_H))) (x1 : Int32) (x2 : Bool) (x3 : Int32) (x4 : Int32) (h : zx_H) : Option (Bool × zx_H) :=
  (if x3 ≤ x4 then (some (false, h)) else (if x2 = true then ((zs_Ref_wrongProperty x1 x4 h).bind (fun r1 => (zs_Ref_isFaulty_J152 k115 x1 x2 x3 x4 r1 h))) else ((zs_Ref_constantOf x1 x4 h).bind (fun r2 => (if r2 = (-3 : Int32) then (zs_Ref_isFaulty_J152 k115 x1 x2 x3 x4 (5 : Int32) h) else (zs_Ref_isFaulty_J152 k115 x1 x2 x3 x4 (0 : Int32) h))))))
def zs_Ref_isFaulty_L115  : (Int32 → Bool → Int32 → Int32 → zx_H → Option (Bool × zx_H)) := zx_loop (fun _ _ _ _ _ => none) (zs_Ref_isFaulty_L115_body ) zx_fuel
def zs_Ref_isFaulty_J110  (x1 : Int32) (x2 : Bool) (s1 : Int32) (h : zx_H) : Option (Bool × zx_H) :=
  (if zx_in s1 40 = true then (zx_bnd (h.1 26 0 s1.toNatClampNeg) (fun y1 => (zs_Ref_isFaulty_L115 x1 x2 y1 (0 : Int32) h))) else none)
def zs_Ref_isFaulty_J86  (x1 : Int32) (s0 : Bool) (h : zx_H) : Option (Bool × zx_H) :=
  (if s0 = true then (if zx_in x1 16 = true then (zs_Ref_isFaulty_J110 x1 s0 (h.1 31 0 x1.toNatClampNeg) h) else none) else (if zx_in x1 16 = true then (zs_Ref_isFaulty_J110 x1 s0 (h.1 30 0 x1.toNatClampNeg) h) else none))
def zs_Ref_isFaulty_L21_body  (k21 : (Int32 → Int32 → zx_H → Option (Bool × zx_H))) (x1 : Int32) (x2 : Int32) (h : zx_H) : Option (Bool × zx_H) :=
  (if zx_in x1 16 = true then (if (((24 : Int32) * x1) + (h.1 32 0 x1.toNatClampNeg)) ≤ x2 then (if zx_in x1 16 = true then (if zx_in (h.1 31 0 x1.toNatClampNeg) 40 = true then (if (h.1 25 0 (h.1 31 0 x1.toNatClampNeg).toNatClampNeg) = (4 : Int32) then (zs_Ref_isFaulty_J86 x1 true h) else (zs_Ref_isFaulty_J86 x1 false h)) else none) else none) else ((zs_Ref_wrong x1 x2 h).bind (fun r1 => (if r1 ≤ 0 then (k21 x1 (x2 + (1 : Int32)) h) else ((zs_Ref_faulty r1 x1 (x2 - ((24 : Int32) * x1)) h).bind (fun r2 => (some (r2.1, r2.2)))))))) else none)
def zs_Ref_isFaulty_L21  : (Int32 → Int32 → zx_H → Option (Bool × zx_H)) := zx_loop (fun _ _ _ => none) (zs_Ref_isFaulty_L21_body ) zx_fuel
def zs_Ref_isFaulty (a1 : Int32) (h : zx_H) : Option (Bool × zx_H) :=
  ((zs_Ref_isWrongInverse a1 h).bind (fun r1 => (if r1 = true then ((zs_Ref_faulty (1 : Int32) a1 (-1 : Int32) h).bind (fun r2 => (some (r2.1, r2.2)))) else (zx_bnd ((24 : Int32) * a1) (fun y3 => (zs_Ref_isFaulty_L21 a1 y3 h))))))
def zs_Ref_build_J49  (x1 : Bool) (h : zx_H) : Option (Int32 × zx_H) :=
  (if x1 = true then ((zs_Ref_fails (1 : Int32) h).bind (fun r1 => (some (r1.1, r1.2)))) else (zx_bnd (zx_sI h 24 0 0 (0 : Int32)) (fun h2 => (zx_bnd (zx_sI h2 24 0 1 (1 : Int32)) (fun h3 => (some ((h3.1 24 0 8), h3)))))))
def zs_Ref_build_L25_body  (k25 : (Bool → Int32 → zx_H → Option (Int32 × zx_H))) (x1 : Bool) (x2 : Int32) (h : zx_H) : Option (Int32 × zx_H) :=
  (if (h.1 24 0 8) ≤ x2 then (zs_Ref_build_J49 x1 h) else (if x1 = true then (zs_Ref_build_J49 x1 h) else ((zs_Ref_isFaulty x2 h).bind (fun r1 => (k25 r1.1 (x2 + (1 : Int32)) r1.2)))))
def zs_Ref_build_L25  : (Bool → Int32 → zx_H → Option (Int32 × zx_H)) := zx_loop (fun _ _ _ => none) (zs_Ref_build_L25_body ) zx_fuel
def zs_Ref_build  (h : zx_H) : Option (Int32 × zx_H) :=
  (if (h.1 24 0 1) = 0 then ((zs_Ref_faulty (0 : Int32) (-1 : Int32) (-1 : Int32) h).bind (fun r2 => (zs_Ref_build_L25 false (0 : Int32) r2.2))) else ((zs_Ref_fails (2 : Int32) h).bind (fun r1 => (some (r1.1, r1.2)))))
def zs_Ref_diagnosis (a1 : Int32) (h : zx_H) : Option (Int32 × zx_H) :=
  (zx_bnd (zx_sI h 24 0 0 (0 : Int32)) (fun h1 => (if a1 = 0 then (some ((h1.1 24 0 20), h1)) else (if a1 = (1 : Int32) then (some ((h1.1 24 0 21), h1)) else (if a1 = (2 : Int32) then (some ((h1.1 24 0 22), h1)) else (some ((-1 : Int32), h1)))))))
def zs_Ref_cast (a0 : Int64) (a2 : Int32) (h : zx_H) : Option Int64 :=
  (if a2 = 0 then (some (((a0.toInt32).toInt8.toInt32).toInt64)) else (if a2 = (1 : Int32) then (some (((a0.toInt32).toInt16.toInt32).toInt64)) else (if a2 = (2 : Int32) then (some ((zx_ci2c (a0.toInt32)).toInt64)) else (if a2 = (3 : Int32) then (some ((a0.toInt32).toInt64)) else (if a2 = (5 : Int32) then (some (a0 &&& (1 : Int64))) else (some a0))))))
def zs_Ref_isValue_J93 (h : zx_H)   : Option Bool :=
  (some false)
def zs_Ref_isValue_J148 (h : zx_H)   : Option Bool :=
  (some false)
def zs_Ref_isValue_J138 (h : zx_H)  (x1 : Int32) (s1 : Int64) : Option Bool :=
  (if zx_in (s1.toInt32) 400 = true then (if (h.1 40 0 (s1.toInt32).toNatClampNeg) = x1 then (some true) else (zs_Ref_isValue_J148 h)) else none)
def zs_Ref_isValue_J137 (h : zx_H)  (x1 : Int32) : Option Bool :=
  (zs_Ref_isValue_J138 h x1 (0 : Int64))
def zs_Ref_isValue (a1 : Int32) (a2 : Int64) (h : zx_H) : Option Bool :=
  (if zx_in a1 40 = true then (if (h.1 25 0 a1.toNatClampNeg) = 0 then (if a1 = (6 : Int32) then (if (9218868437227405312 : Int64) < (a2 &&& (9223372036854775807 : Int64)) then (some false) else (some true)) else ((zs_Ref_cast a2 a1 h).bind (fun r1 => (if a2 = r1 then (some true) else (some false))))) else (if a2 = (-1 : Int64) then (some true) else (if zx_in a1 40 = true then (if (h.1 25 0 a1.toNatClampNeg) = (3 : Int32) then (if a2 < (0 : Int64) then (zs_Ref_isValue_J93 h) else (if zx_in a1 40 = true then (if ((h.1 26 0 a1.toNatClampNeg).toInt64) ≤ a2 then (zs_Ref_isValue_J93 h) else (some true)) else none)) else (if a2 < (0 : Int64) then (zs_Ref_isValue_J148 h) else (if ((h.1 24 0 23).toInt64) ≤ a2 then (zs_Ref_isValue_J148 h) else (if a2 < (0 : Int64) then (zs_Ref_isValue_J137 h a1) else (if ((h.1 24 0 23).toInt64) ≤ a2 then (zs_Ref_isValue_J137 h a1) else (zs_Ref_isValue_J138 h a1 a2)))))) else none))) else none)
def zs_Ref_empty (a1 : Int32) (h : zx_H) : Option Int64 :=
  (if zx_in a1 40 = true then (if (h.1 25 0 a1.toNatClampNeg) = 0 then (some (0 : Int64)) else (some (-1 : Int64))) else none)
def zs_Ref_object_J130 (k72 : (Int32 → Int32 → zx_H → Option (Int32 × zx_H))) (x1 : Int32) (x2 : Int32) (s1 : Int32) (s2 : Int64) (h : zx_H) : Option (Int32 × zx_H) :=
  (if zx_in s1 6400 = true then (zx_bnd (zx_sJ h 42 0 s1.toNatClampNeg s2) (fun h1 => (k72 x1 (x2 + (1 : Int32)) h1))) else none)
def zs_Ref_object_J129 (k72 : (Int32 → Int32 → zx_H → Option (Int32 × zx_H))) (x1 : Int32) (x2 : Int32) (s1 : Int32) (h : zx_H) : Option (Int32 × zx_H) :=
  (zs_Ref_object_J130 k72 x1 x2 s1 (0 : Int64) h)
def zs_Ref_object_L72_body  (k72 : (Int32 → Int32 → zx_H → Option (Int32 × zx_H))) (x1 : Int32) (x2 : Int32) (h : zx_H) : Option (Int32 × zx_H) :=
  (if (16 : Int32) ≤ x2 then (zx_bnd (zx_sI h 24 0 23 ((h.1 24 0 23) + (1 : Int32))) (fun h2 => (some (((h2.1 24 0 23) - (1 : Int32)), h2)))) else (if zx_in x1 40 = true then (if (h.1 25 0 x1.toNatClampNeg) = (4 : Int32) then (if zx_in x1 40 = true then (if (h.1 26 0 x1.toNatClampNeg) ≤ x2 then (zs_Ref_object_J129 k72 x1 x2 (((16 : Int32) * (h.1 24 0 23)) + x2) h) else (if zx_in (((8 : Int32) * x1) + x2) 320 = true then ((zs_Ref_empty (h.1 28 0 (((8 : Int32) * x1) + x2).toNatClampNeg) h).bind (fun r1 => (zs_Ref_object_J130 k72 x1 x2 (((16 : Int32) * (h.1 24 0 23)) + x2) r1 h))) else none)) else none) else (zs_Ref_object_J129 k72 x1 x2 (((16 : Int32) * (h.1 24 0 23)) + x2) h)) else none))
def zs_Ref_object_L72  : (Int32 → Int32 → zx_H → Option (Int32 × zx_H)) := zx_loop (fun _ _ _ => none) (zs_Ref_object_L72_body ) zx_fuel
def zs_Ref_object_J69  (x1 : Int32) (s1 : Int32) (s2 : Int32) (h : zx_H) : Option (Int32 × zx_H) :=
  (if zx_in s1 400 = true then (zx_bnd (zx_sI h 41 0 s1.toNatClampNeg s2) (fun h1 => (zs_Ref_object_L72 x1 (0 : Int32) h1))) else none)
def zs_Ref_object (a1 : Int32) (h : zx_H) : Option (Int32 × zx_H) :=
  (if (h.1 24 0 23) = (400 : Int32) then (zx_bnd (zx_sI h 24 0 37 (1 : Int32)) (fun h1 => (some ((-1 : Int32), h1)))) else (if zx_in (h.1 24 0 23) 400 = true then (zx_bnd (zx_sI h 40 0 (h.1 24 0 23).toNatClampNeg a1) (fun h2 => (if zx_in a1 40 = true then (if (h2.1 25 0 a1.toNatClampNeg) = (4 : Int32) then (if zx_in a1 40 = true then (zs_Ref_object_J69 a1 (h2.1 24 0 23) (h2.1 26 0 a1.toNatClampNeg) h2) else none) else (if zx_in a1 40 = true then (if (h2.1 25 0 a1.toNatClampNeg) = (1 : Int32) then (zs_Ref_object_J69 a1 (h2.1 24 0 23) (1 : Int32) h2) else (zs_Ref_object_J69 a1 (h2.1 24 0 23) (0 : Int32) h2)) else none)) else none))) else none))
def zs_Ref_make_J85   (h : zx_H) : Option (Int32 × zx_H) :=
  ((zs_Ref_fails (1 : Int32) h).bind (fun r1 => (some (r1.1, r1.2))))
def zs_Ref_make_L156_body  (k156 : (Int32 → Int64 → Int32 → Int32 → zx_H → Option (Int32 × zx_H))) (x1 : Int32) (x2 : Int64) (x5 : Int32) (x6 : Int32) (h : zx_H) : Option (Int32 × zx_H) :=
  (if (8 : Int32) ≤ x6 then (some (x5, h)) else (if x1 = (14 : Int32) then (if ((zx_clshr x2 ((8 : Int32) * x6)) &&& (255 : Int64)) = (0 : Int64) then (some (x5, h)) else (if zx_in (((24 : Int32) * x5) + x6) 9600 = true then (zx_bnd (zx_sI h 43 0 (((24 : Int32) * x5) + x6).toNatClampNeg (((zx_clshr x2 ((8 : Int32) * x6)) &&& (255 : Int64)).toInt32)) (fun h1 => (if zx_in x5 400 = true then (if zx_in x5 400 = true then (zx_bnd (zx_sI h1 41 0 x5.toNatClampNeg ((h1.1 41 0 x5.toNatClampNeg) + (1 : Int32))) (fun h2 => (k156 x1 x2 x5 (x6 + (1 : Int32)) h2))) else none) else none))) else none)) else (some (x5, h))))
def zs_Ref_make_L156  : (Int32 → Int64 → Int32 → Int32 → zx_H → Option (Int32 × zx_H)) := zx_loop (fun _ _ _ _ _ => none) (zs_Ref_make_L156_body ) zx_fuel
def zs_Ref_make_J152  (x1 : Int32) (x2 : Int64) (x5 : Int32) (s1 : Int32) (s2 : Int64) (h : zx_H) : Option (Int32 × zx_H) :=
  (if zx_in s1 6400 = true then (zx_bnd (zx_sJ h 42 0 s1.toNatClampNeg s2) (fun h1 => (zs_Ref_make_L156 x1 x2 x5 (0 : Int32) h1))) else none)
def zs_Ref_make_J91  (x1 : Int32) (x2 : Int64) (h : zx_H) : Option (Int32 × zx_H) :=
  (if (h.1 24 0 23) = (400 : Int32) then ((zs_Ref_fails (2 : Int32) h).bind (fun r1 => (some (r1.1, r1.2)))) else (zx_bnd (zx_sI h 24 0 0 (0 : Int32)) (fun h2 => ((zs_Ref_object x1 h2).bind (fun r3 => (if zx_in x1 40 = true then (if (r3.2.1 25 0 x1.toNatClampNeg) = (1 : Int32) then (zs_Ref_make_J152 x1 x2 r3.1 ((16 : Int32) * r3.1) x2 r3.2) else (if zx_in ((16 : Int32) * r3.1) 6400 = true then (zs_Ref_make_J152 x1 x2 r3.1 ((16 : Int32) * r3.1) (r3.2.2 42 0 ((16 : Int32) * r3.1).toNatClampNeg) r3.2) else none)) else none))))))
def zs_Ref_make_J56  (x1 : Int32) (x2 : Int64) (s0 : Bool) (h : zx_H) : Option (Int32 × zx_H) :=
  (if s0 = true then (if zx_in x1 40 = true then (if (h.1 25 0 x1.toNatClampNeg) = (1 : Int32) then ((zs_Ref_isValue (x1 - (7 : Int32)) x2 h).bind (fun r1 => (if r1 = true then (zs_Ref_make_J91 x1 x2 h) else (zs_Ref_make_J85 h)))) else (zs_Ref_make_J91 x1 x2 h)) else none) else (zs_Ref_make_J85 h))
def zs_Ref_make_J55  (x1 : Int32) (x2 : Int64) (h : zx_H) : Option (Int32 × zx_H) :=
  (zs_Ref_make_J56 x1 x2 false h)
def zs_Ref_make_J46  (x1 : Int32) (x2 : Int64) (s1 : Int32) (h : zx_H) : Option (Int32 × zx_H) :=
  (if zx_in s1 40 = true then (if (h.1 25 0 s1.toNatClampNeg) = (3 : Int32) then (zs_Ref_make_J55 x1 x2 h) else (zs_Ref_make_J56 x1 x2 true h)) else none)
def zs_Ref_make_J25  (x1 : Int32) (x2 : Int64) (s1 : Int32) (h : zx_H) : Option (Int32 × zx_H) :=
  (if zx_in s1 40 = true then (if (h.1 25 0 s1.toNatClampNeg) = 0 then (zs_Ref_make_J55 x1 x2 h) else ((zs_Ref_isType x1 h).bind (fun r1 => (if r1 = true then (zs_Ref_make_J46 x1 x2 x1 h) else (zs_Ref_make_J46 x1 x2 (0 : Int32) h))))) else none)
def zs_Ref_make (a1 : Int32) (a2 : Int64) (h : zx_H) : Option (Int32 × zx_H) :=
  ((zs_Ref_isType a1 h).bind (fun r1 => (if r1 = true then ((zs_Ref_isType a1 h).bind (fun r2 => (if r2 = true then (zs_Ref_make_J25 a1 a2 a1 h) else (zs_Ref_make_J25 a1 a2 (0 : Int32) h)))) else (zs_Ref_make_J55 a1 a2 h))))
def zs_Ref_isObject_J16 (h : zx_H)   : Option Bool :=
  (some false)
def zs_Ref_isObject (a1 : Int32) (h : zx_H) : Option Bool :=
  (if a1 < 0 then (zs_Ref_isObject_J16 h) else (if (h.1 24 0 23) ≤ a1 then (zs_Ref_isObject_J16 h) else (some true)))
def zs_Ref_put_J163  (x1 : Int32) (x3 : Int64) (x5 : Bool) (x6 : Int32) (s1 : Int32) (h : zx_H) : Option (Bool × zx_H) :=
  ((zs_Ref_isValue s1 x3 h).bind (fun r1 => (if r1 = true then (if zx_in (((16 : Int32) * x1) + x6) 6400 = true then (zx_bnd (zx_sJ h 42 0 (((16 : Int32) * x1) + x6).toNatClampNeg x3) (fun h2 => (if x5 = true then (if zx_in x1 400 = true then (zx_bnd (zx_sI h2 41 0 x1.toNatClampNeg (x6 + (1 : Int32))) (fun h3 => (some (true, h3)))) else none) else (if zx_in x1 400 = true then (if zx_in x1 400 = true then (zx_bnd (zx_sI h2 41 0 x1.toNatClampNeg (h2.1 41 0 x1.toNatClampNeg)) (fun h4 => (some (true, h4)))) else none) else none)))) else none) else (some (false, h)))))
def zs_Ref_put_J124  (x1 : Int32) (x3 : Int64) (x5 : Bool) (s0 : Int32) (h : zx_H) : Option (Bool × zx_H) :=
  (if x5 = true then (if zx_in x1 400 = true then (if zx_in (h.1 40 0 x1.toNatClampNeg) 40 = true then (zs_Ref_put_J163 x1 x3 x5 s0 (h.1 29 0 (h.1 40 0 x1.toNatClampNeg).toNatClampNeg) h) else none) else none) else (if zx_in x1 400 = true then (if zx_in (((8 : Int32) * (h.1 40 0 x1.toNatClampNeg)) + s0) 320 = true then (zs_Ref_put_J163 x1 x3 x5 s0 (h.1 28 0 (((8 : Int32) * (h.1 40 0 x1.toNatClampNeg)) + s0).toNatClampNeg) h) else none) else none))
def zs_Ref_put_J109  (x1 : Int32) (x2 : Int32) (x3 : Int64) (x5 : Bool) (h : zx_H) : Option (Bool × zx_H) :=
  (if x5 = true then (if zx_in x1 400 = true then (zs_Ref_put_J124 x1 x3 x5 (h.1 41 0 x1.toNatClampNeg) h) else none) else (zs_Ref_put_J124 x1 x3 x5 x2 h))
def zs_Ref_put_J91  (x1 : Int32) (x2 : Int32) (x3 : Int64) (x5 : Bool) (h : zx_H) : Option (Bool × zx_H) :=
  (if x5 = true then (if zx_in x1 400 = true then (if (h.1 41 0 x1.toNatClampNeg) = (16 : Int32) then (some (false, h)) else (zs_Ref_put_J109 x1 x2 x3 x5 h)) else none) else (zs_Ref_put_J109 x1 x2 x3 x5 h))
def zs_Ref_put_J65  (x1 : Int32) (x2 : Int32) (x3 : Int64) (s0 : Bool) (h : zx_H) : Option (Bool × zx_H) :=
  (if s0 = true then (zs_Ref_put_J91 x1 x2 x3 s0 h) else (if x2 < 0 then (some (false, h)) else (if zx_in x1 400 = true then (if zx_in (h.1 40 0 x1.toNatClampNeg) 40 = true then (if (h.1 26 0 (h.1 40 0 x1.toNatClampNeg).toNatClampNeg) ≤ x2 then (some (false, h)) else (zs_Ref_put_J91 x1 x2 x3 s0 h)) else none) else none)))
def zs_Ref_put_J45  (x1 : Int32) (x2 : Int32) (x3 : Int64) (h : zx_H) : Option (Bool × zx_H) :=
  (if zx_in x1 400 = true then (if zx_in (h.1 40 0 x1.toNatClampNeg) 40 = true then (if (h.1 25 0 (h.1 40 0 x1.toNatClampNeg).toNatClampNeg) = (5 : Int32) then (zs_Ref_put_J65 x1 x2 x3 true h) else (zs_Ref_put_J65 x1 x2 x3 false h)) else none) else none)
def zs_Ref_put (a1 : Int32) (a2 : Int32) (a3 : Int64) (h : zx_H) : Option (Bool × zx_H) :=
  (zx_bnd (zx_sI h 24 0 0 (0 : Int32)) (fun h1 => ((zs_Ref_isObject a1 h1).bind (fun r2 => (if r2 = true then (if zx_in a1 400 = true then (if zx_in (h1.1 40 0 a1.toNatClampNeg) 40 = true then (if (h1.1 25 0 (h1.1 40 0 a1.toNatClampNeg).toNatClampNeg) = (4 : Int32) then (zs_Ref_put_J45 a1 a2 a3 h1) else (if zx_in a1 400 = true then (if zx_in (h1.1 40 0 a1.toNatClampNeg) 40 = true then (if (h1.1 25 0 (h1.1 40 0 a1.toNatClampNeg).toNatClampNeg) = (5 : Int32) then (zs_Ref_put_J45 a1 a2 a3 h1) else (some (false, h1))) else none) else none)) else none) else none) else (some (false, h1)))))))
def zs_Ref_doubled_J98 (h : zx_H)  (x2 : Bool) (x5 : Int32) (s0 : Int64) (s1 : Int64) : Option Int64 :=
  (zx_bnd (s0 + s1) (fun y1 => (zx_bnd ((zx_clshl ((x5 + (1023 : Int32)).toInt64) (52 : Int32)) + (y1 - (4503599627370496 : Int64))) (fun y2 => (if x2 = true then (some (y2 ||| (-9223372036854775808 : Int64))) else (some y2))))))
def zs_Ref_doubled_J93 (h : zx_H)  (x2 : Bool) (x5 : Int32) (s0 : Int64) : Option Int64 :=
  (zs_Ref_doubled_J98 h x2 x5 s0 (1 : Int64))
def zs_Ref_doubled_J97 (h : zx_H)  (x2 : Bool) (x5 : Int32) (s0 : Int64) : Option Int64 :=
  (zs_Ref_doubled_J98 h x2 x5 s0 (0 : Int64))
def zs_Ref_doubled_L35_body (h : zx_H)  (k35 : (Bool → Int64 → Int32 → Option Int64)) (x2 : Bool) (x3 : Int64) (x5 : Int32) : Option Int64 :=
  (if x3 < (0 : Int64) then (zx_bnd (zx_clushr x3 (11 : Int32)) (fun y3 => (zx_bnd (x3 &&& (2047 : Int64)) (fun y4 => (if (1024 : Int64) < y4 then (zs_Ref_doubled_J93 h x2 x5 y3) else (if y4 = (1024 : Int64) then (if (y3 &&& (1 : Int64)) = (1 : Int64) then (zs_Ref_doubled_J93 h x2 x5 y3) else (zs_Ref_doubled_J97 h x2 x5 y3)) else (zs_Ref_doubled_J97 h x2 x5 y3))))))) else (zx_bnd (zx_clshl x3 (1 : Int32)) (fun y1 => (k35 x2 y1 (x5 + (-1 : Int32))))))
def zs_Ref_doubled_L35 (h : zx_H)  : (Bool → Int64 → Int32 → Option Int64) := zx_loop (fun _ _ _ => none) (zs_Ref_doubled_L35_body h ) zx_fuel
def zs_Ref_doubled_J30 (h : zx_H)  (x2 : Bool) (s0 : Int64) : Option Int64 :=
  (zs_Ref_doubled_L35 h x2 s0 (63 : Int32))
def zs_Ref_doubled_J19 (h : zx_H)  (x0 : Int64) (s0 : Bool) : Option Int64 :=
  (if s0 = true then (zs_Ref_doubled_J30 h s0 (-x0)) else (zs_Ref_doubled_J30 h s0 x0))
def zs_Ref_doubled (a0 : Int64) (h : zx_H) : Option Int64 :=
  (if a0 = (0 : Int64) then (some (0 : Int64)) else (if (0 : Int64) ≤ a0 then (zs_Ref_doubled_J19 h a0 false) else (zs_Ref_doubled_J19 h a0 true)))
def zs_Ref_whole_J106 (h : zx_H)  (x2 : Int64) (x4 : Int64) (s0 : Int64) : Option Int64 :=
  (if x2 ≤ s0 then (if s0 ≤ x4 then (some s0) else (some x4)) else (some x2))
def zs_Ref_whole_J91 (h : zx_H)  (x2 : Int64) (x4 : Int64) (x6 : Bool) (s0 : Int64) : Option Int64 :=
  (if x6 = true then (zs_Ref_whole_J106 h x2 x4 (-s0)) else (zs_Ref_whole_J106 h x2 x4 s0))
def zs_Ref_whole_J11 (h : zx_H)  (x0 : Int64) (x2 : Int64) (x4 : Int64) (s0 : Bool) : Option Int64 :=
  (zx_bnd ((((zx_clshr x0 (52 : Int32)) &&& (2047 : Int64)).toInt32) - (1023 : Int32)) (fun y1 => (zx_bnd ((x0 &&& (4503599627370495 : Int64)) ||| (4503599627370496 : Int64)) (fun y2 => (if 0 ≤ y1 then (if y1 ≤ (62 : Int32) then (if y1 ≤ (52 : Int32) then (zs_Ref_whole_J91 h x2 x4 s0 (zx_clshr y2 ((52 : Int32) - y1))) else (zs_Ref_whole_J91 h x2 x4 s0 (zx_clshl y2 (y1 - (52 : Int32))))) else (if s0 = true then (some x2) else (some x4))) else (some (0 : Int64)))))))
def zs_Ref_whole (a0 : Int64) (a2 : Int64) (a4 : Int64) (h : zx_H) : Option Int64 :=
  (if (0 : Int64) ≤ a0 then (zs_Ref_whole_J11 h a0 a2 a4 false) else (zs_Ref_whole_J11 h a0 a2 a4 true))
def zs_Ref_castFrom_J56 (h : zx_H)  (x3 : Int32) (s0 : Int64) : Option Int64 :=
  ((zs_Ref_cast s0 x3 h).bind (fun r1 => (some r1)))
def zs_Ref_castFrom (a0 : Int64) (a2 : Int32) (a3 : Int32) (h : zx_H) : Option Int64 :=
  (if a2 = a3 then (some a0) else (if a3 = (6 : Int32) then ((zs_Ref_doubled a0 h).bind (fun r1 => (some r1))) else (if a2 = (6 : Int32) then (if a3 = (4 : Int32) then ((zs_Ref_whole a0 (-9223372036854775808 : Int64) (9223372036854775807 : Int64) h).bind (fun r2 => (zs_Ref_castFrom_J56 h a3 r2))) else ((zs_Ref_whole a0 (-2147483648 : Int64) (2147483647 : Int64) h).bind (fun r3 => (zs_Ref_castFrom_J56 h a3 r3)))) else (zs_Ref_castFrom_J56 h a3 a0))))
def zs_Ref_write (a1 : Int32) (h : zx_H) : Option zx_H :=
  (if zx_in (h.1 24 0 38) 24 = true then (zx_bnd (zx_sI h 51 0 (h.1 24 0 38).toNatClampNeg a1) (fun h1 => (zx_bnd (zx_sI h1 24 0 38 ((h1.1 24 0 38) + (1 : Int32))) (fun h2 => (some h2))))) else none)
def zs_Ref_writeNumber_J34 (k14 : (Int64 → Int64 → zx_H → Option zx_H)) (x1 : Int64) (x3 : Int64) (h : zx_H) : Option zx_H :=
  (zx_bnd (x3 * (10 : Int64)) (fun y1 => (k14 x1 y1 h)))
def zs_Ref_writeNumber_J77 (k43 : (Int64 → Int64 → zx_H → Option zx_H)) (x1 : Int64) (x3 : Int64) (s1 : Int64) (s2 : Int64) (h : zx_H) : Option zx_H :=
  ((zs_Ref_write ((s1 + s2).toInt32) h).bind (fun r1 => (zx_bnd (x3 / (10 : Int64)) (fun y2 => (k43 x1 y2 r1)))))
def zs_Ref_writeNumber_L43_body  (k43 : (Int64 → Int64 → zx_H → Option zx_H)) (x1 : Int64) (x3 : Int64) (h : zx_H) : Option zx_H :=
  (if x3 ≤ (0 : Int64) then (some h) else (if x3 = 0 then none else (zx_bnd ((x1 / x3) - (x1 / x3) / (10 : Int64) * (10 : Int64)) (fun y1 => (if (0 : Int64) ≤ y1 then (zs_Ref_writeNumber_J77 k43 x1 x3 (48 : Int64) y1 h) else (zs_Ref_writeNumber_J77 k43 x1 x3 (48 : Int64) (-y1) h))))))
def zs_Ref_writeNumber_L43  : (Int64 → Int64 → zx_H → Option zx_H) := zx_loop (fun _ _ _ => none) (zs_Ref_writeNumber_L43_body ) zx_fuel
def zs_Ref_writeNumber_L14_body  (k14 : (Int64 → Int64 → zx_H → Option zx_H)) (x1 : Int64) (x3 : Int64) (h : zx_H) : Option zx_H :=
  (if x3 = 0 then none else (if (9 : Int64) < (x1 / x3) then (zs_Ref_writeNumber_J34 k14 x1 x3 h) else (if x3 = 0 then none else (if (-9 : Int64) ≤ (x1 / x3) then (zs_Ref_writeNumber_L43 x1 x3 h) else (zs_Ref_writeNumber_J34 k14 x1 x3 h)))))
def zs_Ref_writeNumber_L14  : (Int64 → Int64 → zx_H → Option zx_H) := zx_loop (fun _ _ _ => none) (zs_Ref_writeNumber_L14_body ) zx_fuel
def zs_Ref_writeNumber_J12  (x1 : Int64) (h : zx_H) : Option zx_H :=
  (zs_Ref_writeNumber_L14 x1 (1 : Int64) h)
def zs_Ref_writeNumber (a1 : Int64) (h : zx_H) : Option zx_H :=
  (if (0 : Int64) ≤ a1 then (zs_Ref_writeNumber_J12 a1 h) else ((zs_Ref_write (45 : Int32) h).bind (fun r1 => (zs_Ref_writeNumber_J12 a1 r1))))
def zs_Ref_writeFour (a1 : Int32) (a2 : Int32) (a3 : Int32) (a4 : Int32) (h : zx_H) : Option zx_H :=
  ((zs_Ref_write a1 h).bind (fun r1 => ((zs_Ref_write a2 r1).bind (fun r2 => ((zs_Ref_write a3 r2).bind (fun r3 => ((zs_Ref_write a4 r3).bind (fun r4 => (some r4)))))))))
def zs_Ref_newText_J44  (x1 : Int32) (h : zx_H) : Option (Int64 × zx_H) :=
  (if x1 < 0 then (some ((x1.toInt64), h)) else (if zx_in x1 400 = true then (zx_bnd (zx_sI h 41 0 x1.toNatClampNeg (h.1 24 0 38)) (fun h1 => (some ((x1.toInt64), h1)))) else none))
def zs_Ref_newText_L9_body  (k9 : (Int32 → Int32 → zx_H → Option (Int64 × zx_H))) (x1 : Int32) (x2 : Int32) (h : zx_H) : Option (Int64 × zx_H) :=
  (if (h.1 24 0 38) ≤ x2 then (zs_Ref_newText_J44 x1 h) else (if x1 < 0 then (zs_Ref_newText_J44 x1 h) else (if zx_in x2 24 = true then (if zx_in (((24 : Int32) * x1) + x2) 9600 = true then (zx_bnd (zx_sI h 43 0 (((24 : Int32) * x1) + x2).toNatClampNeg (h.1 51 0 x2.toNatClampNeg)) (fun h1 => (k9 x1 (x2 + (1 : Int32)) h1))) else none) else none)))
def zs_Ref_newText_L9  : (Int32 → Int32 → zx_H → Option (Int64 × zx_H)) := zx_loop (fun _ _ _ => none) (zs_Ref_newText_L9_body ) zx_fuel
def zs_Ref_newText  (h : zx_H) : Option (Int64 × zx_H) :=
  ((zs_Ref_object (14 : Int32) h).bind (fun r1 => (zs_Ref_newText_L9 r1.1 (0 : Int32) r1.2)))
def zs_Ref_toText_J100  (x2 : Int64) (x4 : Int32) (h : zx_H) : Option (Int64 × zx_H) :=
  (if x4 = (5 : Int32) then ((zs_Ref_writeFour (102 : Int32) (97 : Int32) (108 : Int32) (115 : Int32) h).bind (fun r1 => ((zs_Ref_write (101 : Int32) r1).bind (fun r2 => ((zs_Ref_newText r2).bind (fun r3 => (some (r3.1, r3.2)))))))) else ((zs_Ref_writeNumber x2 h).bind (fun r4 => ((zs_Ref_newText r4).bind (fun r5 => (some (r5.1, r5.2)))))))
def zs_Ref_toText_J20  (x1 : Int32) (x2 : Int64) (s0 : Int32) (h : zx_H) : Option (Int64 × zx_H) :=
  (if zx_in x1 40 = true then (if (h.1 25 0 x1.toNatClampNeg) = (3 : Int32) then ((zs_Ref_write (110 : Int32) h).bind (fun r1 => (if zx_in (((8 : Int32) * x1) + (x2.toInt32)) 320 = true then ((zs_Ref_writeNumber ((r1.1 27 0 (((8 : Int32) * x1) + (x2.toInt32)).toNatClampNeg).toInt64) r1).bind (fun r2 => ((zs_Ref_newText r2).bind (fun r3 => (some (r3.1, r3.2)))))) else none))) else (if s0 = (2 : Int32) then ((zs_Ref_write (x2.toInt32) h).bind (fun r4 => ((zs_Ref_newText r4).bind (fun r5 => (some (r5.1, r5.2)))))) else (if s0 = (5 : Int32) then (if x2 = (1 : Int64) then ((zs_Ref_writeFour (116 : Int32) (114 : Int32) (117 : Int32) (101 : Int32) h).bind (fun r6 => ((zs_Ref_newText r6).bind (fun r7 => (some (r7.1, r7.2)))))) else (zs_Ref_toText_J100 x2 s0 h)) else (zs_Ref_toText_J100 x2 s0 h)))) else none)
def zs_Ref_toText (a1 : Int32) (a2 : Int64) (h : zx_H) : Option (Int64 × zx_H) :=
  (zx_bnd (zx_sI h 24 0 38 (0 : Int32)) (fun h1 => ((zs_Ref_isAmount a1 h1).bind (fun r2 => (if r2 = true then ((zs_Ref_kindOf a1 h1).bind (fun r3 => (zs_Ref_toText_J20 a1 a2 r3 h1))) else (zs_Ref_toText_J20 a1 a2 (-1 : Int32) h1))))))
def zs_Ref_isTrue_J76 (h : zx_H)   : Option Bool :=
  (some false)
def zs_Ref_isTrue (a1 : Int32) (h : zx_H) : Option Bool :=
  (if zx_in a1 400 = true then (if (h.1 41 0 a1.toNatClampNeg) = (4 : Int32) then (if zx_in ((24 : Int32) * a1) 9600 = true then (if (h.1 43 0 ((24 : Int32) * a1).toNatClampNeg) = (116 : Int32) then (if zx_in (((24 : Int32) * a1) + (1 : Int32)) 9600 = true then (if (h.1 43 0 (((24 : Int32) * a1) + (1 : Int32)).toNatClampNeg) = (114 : Int32) then (if zx_in (((24 : Int32) * a1) + (2 : Int32)) 9600 = true then (if (h.1 43 0 (((24 : Int32) * a1) + (2 : Int32)).toNatClampNeg) = (117 : Int32) then (if zx_in (((24 : Int32) * a1) + (3 : Int32)) 9600 = true then (if (h.1 43 0 (((24 : Int32) * a1) + (3 : Int32)).toNatClampNeg) = (101 : Int32) then (some true) else (zs_Ref_isTrue_J76 h)) else none) else (zs_Ref_isTrue_J76 h)) else none) else (zs_Ref_isTrue_J76 h)) else none) else (zs_Ref_isTrue_J76 h)) else none) else (zs_Ref_isTrue_J76 h)) else none)
def zs_Ref_numberOf_J184 (k69 : (Int32 → Int32 → Int32 → Bool → Int32 → Int64 → zx_H → Option (Int64 × zx_H))) (x1 : Int32) (x2 : Int32) (x3 : Int32) (x4 : Bool) (x5 : Int32) (s0 : Int64) (h : zx_H) : Option (Int64 × zx_H) :=
  (k69 x1 x2 x3 x4 (x5 + (1 : Int32)) s0 h)
def zs_Ref_numberOf_J162 (k69 : (Int32 → Int32 → Int32 → Bool → Int32 → Int64 → zx_H → Option (Int64 × zx_H))) (x1 : Int32) (x2 : Int32) (x3 : Int32) (x4 : Bool) (x5 : Int32) (x6 : Int64) (x8 : Int32) (x9 : Bool) (s1 : Bool) (h : zx_H) : Option (Int64 × zx_H) :=
  (zx_bnd (zx_sI h 24 0 37 (zx_b s1)) (fun h1 => (if x9 = true then (zs_Ref_numberOf_J184 k69 x1 x2 x3 x4 x5 (((10 : Int64) * x6) - (x8.toInt64)) h1) else (zs_Ref_numberOf_J184 k69 x1 x2 x3 x4 x5 (0 : Int64) h1))))
def zs_Ref_numberOf_J157 (k69 : (Int32 → Int32 → Int32 → Bool → Int32 → Int64 → zx_H → Option (Int64 × zx_H))) (x1 : Int32) (x2 : Int32) (x3 : Int32) (x4 : Bool) (x5 : Int32) (x6 : Int64) (x8 : Int32) (x9 : Bool) (h : zx_H) : Option (Int64 × zx_H) :=
  (zs_Ref_numberOf_J162 k69 x1 x2 x3 x4 x5 x6 x8 x9 true h)
def zs_Ref_numberOf_J142 (k69 : (Int32 → Int32 → Int32 → Bool → Int32 → Int64 → zx_H → Option (Int64 × zx_H))) (x1 : Int32) (x2 : Int32) (x3 : Int32) (x4 : Bool) (x5 : Int32) (x6 : Int64) (x8 : Int32) (s0 : Bool) (h : zx_H) : Option (Int64 × zx_H) :=
  (if (h.1 24 0 37) = 0 then (if s0 = true then (zs_Ref_numberOf_J162 k69 x1 x2 x3 x4 x5 x6 x8 s0 false h) else (zs_Ref_numberOf_J157 k69 x1 x2 x3 x4 x5 x6 x8 s0 h)) else (zs_Ref_numberOf_J157 k69 x1 x2 x3 x4 x5 x6 x8 s0 h))
def zs_Ref_numberOf_J141 (k69 : (Int32 → Int32 → Int32 → Bool → Int32 → Int64 → zx_H → Option (Int64 × zx_H))) (x1 : Int32) (x2 : Int32) (x3 : Int32) (x4 : Bool) (x5 : Int32) (x6 : Int64) (x8 : Int32) (h : zx_H) : Option (Int64 × zx_H) :=
  (zs_Ref_numberOf_J142 k69 x1 x2 x3 x4 x5 x6 x8 false h)
def zs_Ref_numberOf_J127 (k69 : (Int32 → Int32 → Int32 → Bool → Int32 → Int64 → zx_H → Option (Int64 × zx_H))) (x1 : Int32) (x2 : Int32) (x3 : Int32) (x4 : Bool) (x5 : Int32) (x6 : Int64) (x8 : Int32) (s0 : Int64) (s1 : Int64) (s2 : Int32) (h : zx_H) : Option (Int64 × zx_H) :=
  (if s0 < ((s1 + (s2.toInt64)) / (10 : Int64)) then (zs_Ref_numberOf_J141 k69 x1 x2 x3 x4 x5 x6 x8 h) else (zs_Ref_numberOf_J142 k69 x1 x2 x3 x4 x5 x6 x8 true h))
def zs_Ref_numberOf_J121 (k69 : (Int32 → Int32 → Int32 → Bool → Int32 → Int64 → zx_H → Option (Int64 × zx_H))) (x1 : Int32) (x2 : Int32) (x3 : Int32) (x4 : Bool) (x5 : Int32) (x6 : Int64) (x8 : Int32) (s0 : Int64) (s1 : Int64) (h : zx_H) : Option (Int64 × zx_H) :=
  (zs_Ref_numberOf_J127 k69 x1 x2 x3 x4 x5 x6 x8 s0 s1 (0 : Int32) h)
def zs_Ref_numberOf_J257  (x6 : Int64) (h : zx_H) : Option (Int64 × zx_H) :=
  (zx_bnd (zx_sI h 24 0 37 (1 : Int32)) (fun h1 => (some (x6, h1))))
def zs_Ref_numberOf_J235  (x2 : Int32) (s0 : Int64) (h : zx_H) : Option (Int64 × zx_H) :=
  (if (h.1 24 0 37) = 0 then ((zs_Ref_cast s0 x2 h).bind (fun r1 => (if s0 = r1 then (zx_bnd (zx_sI h 24 0 37 (0 : Int32)) (fun h2 => (some (s0, h2)))) else (zs_Ref_numberOf_J257 s0 h)))) else (zs_Ref_numberOf_J257 s0 h))
def zs_Ref_numberOf_J219  (x2 : Int32) (x4 : Bool) (x6 : Int64) (s1 : Bool) (h : zx_H) : Option (Int64 × zx_H) :=
  (zx_bnd (zx_sI h 24 0 37 (zx_b s1)) (fun h1 => (if x4 = true then (zs_Ref_numberOf_J235 x2 x6 h1) else (zs_Ref_numberOf_J235 x2 (-x6) h1))))
def zs_Ref_numberOf_J214  (x2 : Int32) (x4 : Bool) (x6 : Int64) (h : zx_H) : Option (Int64 × zx_H) :=
  (zs_Ref_numberOf_J219 x2 x4 x6 true h)
def zs_Ref_numberOf_J218  (x2 : Int32) (x4 : Bool) (x6 : Int64) (h : zx_H) : Option (Int64 × zx_H) :=
  (zs_Ref_numberOf_J219 x2 x4 x6 false h)
def zs_Ref_numberOf_L69_body  (k69 : (Int32 → Int32 → Int32 → Bool → Int32 → Int64 → zx_H → Option (Int64 × zx_H))) (x1 : Int32) (x2 : Int32) (x3 : Int32) (x4 : Bool) (x5 : Int32) (x6 : Int64) (h : zx_H) : Option (Int64 × zx_H) :=
  (if x3 ≤ x5 then (if (h.1 24 0 37) = 0 then (if x4 = true then (zs_Ref_numberOf_J218 x2 x4 x6 h) else (if x6 = (-9223372036854775808 : Int64) then (zs_Ref_numberOf_J214 x2 x4 x6 h) else (zs_Ref_numberOf_J218 x2 x4 x6 h))) else (zs_Ref_numberOf_J214 x2 x4 x6 h)) else (if zx_in (((24 : Int32) * x1) + x5) 9600 = true then (zx_bnd ((h.1 43 0 (((24 : Int32) * x1) + x5).toNatClampNeg) - (48 : Int32)) (fun y1 => (if y1 < 0 then (zs_Ref_numberOf_J141 k69 x1 x2 x3 x4 x5 x6 y1 h) else (if (10 : Int32) ≤ y1 then (zs_Ref_numberOf_J141 k69 x1 x2 x3 x4 x5 x6 y1 h) else (if (9 : Int32) < y1 then (zs_Ref_numberOf_J121 k69 x1 x2 x3 x4 x5 x6 y1 x6 (-9223372036854775808 : Int64) h) else (if 0 ≤ y1 then (zs_Ref_numberOf_J127 k69 x1 x2 x3 x4 x5 x6 y1 x6 (-9223372036854775808 : Int64) y1 h) else (zs_Ref_numberOf_J121 k69 x1 x2 x3 x4 x5 x6 y1 x6 (-9223372036854775808 : Int64) h))))))) else none))
def zs_Ref_numberOf_L69  : (Int32 → Int32 → Int32 → Bool → Int32 → Int64 → zx_H → Option (Int64 × zx_H)) := zx_loop (fun _ _ _ _ _ _ _ => none) (zs_Ref_numberOf_L69_body ) zx_fuel
def zs_Ref_numberOf_J63  (x1 : Int32) (x2 : Int32) (x3 : Int32) (x4 : Bool) (x5 : Bool) (s1 : Bool) (h : zx_H) : Option (Int64 × zx_H) :=
  (zx_bnd (zx_sI h 24 0 37 (zx_b s1)) (fun h1 => (zs_Ref_numberOf_L69 x1 x2 x3 x4 (zx_b x5) (0 : Int64) h1)))
def zs_Ref_numberOf_J58  (x1 : Int32) (x2 : Int32) (x3 : Int32) (x4 : Bool) (x5 : Bool) (h : zx_H) : Option (Int64 × zx_H) :=
  (zs_Ref_numberOf_J63 x1 x2 x3 x4 x5 true h)
def zs_Ref_numberOf_J42  (x1 : Int32) (x2 : Int32) (x3 : Int32) (x4 : Bool) (s0 : Bool) (h : zx_H) : Option (Int64 × zx_H) :=
  (if (h.1 24 0 37) = 0 then (if (zx_b s0) = x3 then (zs_Ref_numberOf_J58 x1 x2 x3 x4 s0 h) else (zs_Ref_numberOf_J63 x1 x2 x3 x4 s0 false h)) else (zs_Ref_numberOf_J58 x1 x2 x3 x4 s0 h))
def zs_Ref_numberOf_J30  (x1 : Int32) (x2 : Int32) (x3 : Int32) (s0 : Bool) (h : zx_H) : Option (Int64 × zx_H) :=
  (if s0 = true then (zs_Ref_numberOf_J42 x1 x2 x3 s0 true h) else (zs_Ref_numberOf_J42 x1 x2 x3 s0 false h))
def zs_Ref_numberOf_J29  (x1 : Int32) (x2 : Int32) (x3 : Int32) (h : zx_H) : Option (Int64 × zx_H) :=
  (zs_Ref_numberOf_J30 x1 x2 x3 false h)
def zs_Ref_numberOf (a1 : Int32) (a2 : Int32) (h : zx_H) : Option (Int64 × zx_H) :=
  (if zx_in a1 400 = true then (zx_bnd (h.1 41 0 a1.toNatClampNeg) (fun y1 => (if y1 ≤ 0 then (zs_Ref_numberOf_J29 a1 a2 y1 h) else (if zx_in ((24 : Int32) * a1) 9600 = true then (if (h.1 43 0 ((24 : Int32) * a1).toNatClampNeg) = (45 : Int32) then (zs_Ref_numberOf_J30 a1 a2 y1 true h) else (zs_Ref_numberOf_J29 a1 a2 y1 h)) else none)))) else none)
def zs_Ref_fromText_J47  (x1 : Int32) (s1 : Bool) (h : zx_H) : Option (Int64 × zx_H) :=
  (zx_bnd (zx_sI h 24 0 37 (zx_b s1)) (fun h1 => (if zx_in ((24 : Int32) * x1) 9600 = true then (some (((h1.1 43 0 ((24 : Int32) * x1).toNatClampNeg).toInt64), h1)) else none)))
def zs_Ref_fromText_J42  (x1 : Int32) (h : zx_H) : Option (Int64 × zx_H) :=
  (zs_Ref_fromText_J47 x1 true h)
def zs_Ref_fromText (a1 : Int32) (a2 : Int32) (h : zx_H) : Option (Int64 × zx_H) :=
  (if a2 = (5 : Int32) then ((zs_Ref_isTrue a1 h).bind (fun r1 => (if r1 = true then (some ((1 : Int64), h)) else (some ((0 : Int64), h))))) else (if a2 = (2 : Int32) then (if (h.1 24 0 37) = 0 then (if zx_in a1 400 = true then (if (h.1 41 0 a1.toNatClampNeg) = (1 : Int32) then (zs_Ref_fromText_J47 a1 false h) else (zs_Ref_fromText_J42 a1 h)) else none) else (zs_Ref_fromText_J42 a1 h)) else ((zs_Ref_numberOf a1 a2 h).bind (fun r2 => (some (r2.1, r2.2))))))
def zs_Ref_constant_J110 (k7 : (Int32 → Int32 → Int64 → Int32 → zx_H → Option (Int64 × zx_H))) (k69 : (Int32 → Int32 → Int64 → Int32 → Bool → Int32 → zx_H → Option (Int64 × zx_H))) (x1 : Int32) (x2 : Int32) (x3 : Int64) (x5 : Int32) (x7 : Int32) (s0 : Bool) (h : zx_H) : Option (Int64 × zx_H) :=
  (k69 x1 x2 x3 x5 s0 (x7 + (1 : Int32)) h)
def zs_Ref_constant_J130 (k7 : (Int32 → Int32 → Int64 → Int32 → zx_H → Option (Int64 × zx_H))) (x1 : Int32) (x2 : Int32) (x5 : Int32) (s0 : Int64) (h : zx_H) : Option (Int64 × zx_H) :=
  (k7 x1 x2 s0 (x5 + (1 : Int32)) h)
def zs_Ref_constant_J118 (k7 : (Int32 → Int32 → Int64 → Int32 → zx_H → Option (Int64 × zx_H))) (x1 : Int32) (x2 : Int32) (x3 : Int64) (x5 : Int32) (x6 : Bool) (h : zx_H) : Option (Int64 × zx_H) :=
  (if x6 = true then (zs_Ref_constant_J130 k7 x1 x2 x5 (x5.toInt64) h) else (zs_Ref_constant_J130 k7 x1 x2 x5 x3 h))
def zs_Ref_constant_L69_body (k7 : (Int32 → Int32 → Int64 → Int32 → zx_H → Option (Int64 × zx_H))) (k69 : (Int32 → Int32 → Int64 → Int32 → Bool → Int32 → zx_H → Option (Int64 × zx_H))) (x1 : Int32) (x2 : Int32) (x3 : Int64) (x5 : Int32) (x6 : Bool) (x7 : Int32) (h : zx_H) : Option (Int64 × zx_H) :=
  (if (h.1 24 0 38) ≤ x7 then (zs_Ref_constant_J118 k7 x1 x2 x3 x5 x6 h) else (if x6 = true then (if zx_in x7 24 = true then (if zx_in (((24 : Int32) * x1) + x7) 9600 = true then (if (h.1 51 0 x7.toNatClampNeg) = (h.1 43 0 (((24 : Int32) * x1) + x7).toNatClampNeg) then (zs_Ref_constant_J110 k7 k69 x1 x2 x3 x5 x7 true h) else (zs_Ref_constant_J110 k7 k69 x1 x2 x3 x5 x7 false h)) else none) else none) else (zs_Ref_constant_J118 k7 x1 x2 x3 x5 x6 h)))
def zs_Ref_constant_L69 (k7 : (Int32 → Int32 → Int64 → Int32 → zx_H → Option (Int64 × zx_H))) : (Int32 → Int32 → Int64 → Int32 → Bool → Int32 → zx_H → Option (Int64 × zx_H)) := zx_loop (fun _ _ _ _ _ _ _ => none) (zs_Ref_constant_L69_body k7) zx_fuel
def zs_Ref_constant_J64 (k7 : (Int32 → Int32 → Int64 → Int32 → zx_H → Option (Int64 × zx_H))) (x1 : Int32) (x2 : Int32) (x3 : Int64) (x5 : Int32) (s0 : Bool) (h : zx_H) : Option (Int64 × zx_H) :=
  (zs_Ref_constant_L69 k7 x1 x2 x3 x5 s0 (0 : Int32) h)
def zs_Ref_constant_J151  (x3 : Int64) (h : zx_H) : Option (Int64 × zx_H) :=
  (zx_bnd (zx_sI h 24 0 37 (1 : Int32)) (fun h1 => (some (x3, h1))))
def zs_Ref_constant_L7_body  (k7 : (Int32 → Int32 → Int64 → Int32 → zx_H → Option (Int64 × zx_H))) (x1 : Int32) (x2 : Int32) (x3 : Int64) (x5 : Int32) (h : zx_H) : Option (Int64 × zx_H) :=
  (if zx_in x2 40 = true then (if (h.1 26 0 x2.toNatClampNeg) ≤ x5 then (if (h.1 24 0 37) = 0 then (if (0 : Int64) ≤ x3 then (zx_bnd (zx_sI h 24 0 37 (0 : Int32)) (fun h4 => (some (x3, h4)))) else (zs_Ref_constant_J151 x3 h)) else (zs_Ref_constant_J151 x3 h)) else (zx_bnd (zx_sI h 24 0 38 (0 : Int32)) (fun h1 => ((zs_Ref_write (110 : Int32) h1).bind (fun r2 => (if zx_in (((8 : Int32) * x2) + x5) 320 = true then ((zs_Ref_writeNumber ((r2.1 27 0 (((8 : Int32) * x2) + x5).toNatClampNeg).toInt64) r2).bind (fun r3 => (if zx_in x1 400 = true then (if (r3.1 24 0 38) = (r3.1 41 0 x1.toNatClampNeg) then (zs_Ref_constant_J64 k7 x1 x2 x3 x5 true r3) else (zs_Ref_constant_J64 k7 x1 x2 x3 x5 false r3)) else none))) else none)))))) else none)
def zs_Ref_constant_L7  : (Int32 → Int32 → Int64 → Int32 → zx_H → Option (Int64 × zx_H)) := zx_loop (fun _ _ _ _ _ => none) (zs_Ref_constant_L7_body ) zx_fuel
def zs_Ref_constant (a1 : Int32) (a2 : Int32) (h : zx_H) : Option (Int64 × zx_H) :=
  (zs_Ref_constant_L7 a1 a2 (-1 : Int64) (0 : Int32) h)
def zs_Ref_plain (a1 : Int32) (a2 : Int64) (h : zx_H) : Option Int64 :=
  (if zx_in a1 40 = true then (if (h.1 25 0 a1.toNatClampNeg) = (1 : Int32) then (if zx_in ((16 : Int32) * (a2.toInt32)) 6400 = true then (some (h.2 42 0 ((16 : Int32) * (a2.toInt32)).toNatClampNeg)) else none) else (some a2)) else none)
def zs_Ref_boxed (a1 : Int32) (a2 : Int64) (h : zx_H) : Option (Int64 × zx_H) :=
  (if zx_in a1 40 = true then (if (h.1 25 0 a1.toNatClampNeg) = (1 : Int32) then (if (h.1 24 0 37) = 0 then ((zs_Ref_object a1 h).bind (fun r1 => (if r1.1 < 0 then (some ((r1.1.toInt64), r1.2)) else (if zx_in ((16 : Int32) * r1.1) 6400 = true then (zx_bnd (zx_sJ r1.2 42 0 ((16 : Int32) * r1.1).toNatClampNeg a2) (fun h2 => (some ((r1.1.toInt64), h2)))) else none)))) else (some (a2, h))) else (some (a2, h))) else none)
def zs_Ref_converted_J32  (x1 : Int32) (x2 : Int32) (x3 : Int64) (h : zx_H) : Option (Int64 × zx_H) :=
  (if x2 = (14 : Int32) then ((zs_Ref_isAmount x1 h).bind (fun r1 => (if r1 = true then ((zs_Ref_plain x1 x3 h).bind (fun r2 => ((zs_Ref_toText x1 r2 h).bind (fun r3 => (some (r3.1, r3.2)))))) else ((zs_Ref_toText x1 x3 h).bind (fun r4 => (some (r4.1, r4.2))))))) else ((zs_Ref_isAmount x2 h).bind (fun r5 => (if r5 = true then ((zs_Ref_kindOf x2 h).bind (fun r6 => ((zs_Ref_fromText (x3.toInt32) r6 h).bind (fun r7 => (some (r7.1, r7.2)))))) else ((zs_Ref_constant (x3.toInt32) x2 h).bind (fun r8 => (some (r8.1, r8.2))))))))
def zs_Ref_converted (a1 : Int32) (a2 : Int32) (a3 : Int64) (h : zx_H) : Option (Int64 × zx_H) :=
  ((zs_Ref_isAmount a1 h).bind (fun r1 => (if r1 = true then ((zs_Ref_isAmount a2 h).bind (fun r2 => (if r2 = true then ((zs_Ref_plain a1 a3 h).bind (fun r3 => ((zs_Ref_kindOf a1 h).bind (fun r4 => ((zs_Ref_kindOf a2 h).bind (fun r5 => ((zs_Ref_castFrom r3 r4 r5 h).bind (fun r6 => (some (r6, h)))))))))) else (zs_Ref_converted_J32 a1 a2 a3 h)))) else (zs_Ref_converted_J32 a1 a2 a3 h))))
def zs_Ref_applied (a1 : Int32) (a2 : Int64) (h : zx_H) : Option (Int64 × zx_H) :=
  (if zx_in a1 8 = true then (if zx_in a1 8 = true then (if zx_in a1 8 = true then (if zx_in a1 8 = true then ((zs_Ref_kindOf (h.1 37 0 a1.toNatClampNeg) h).bind (fun r1 => ((zs_Ref_cast ((a2 * ((h.1 38 0 a1.toNatClampNeg).toInt64)) + ((h.1 39 0 a1.toNatClampNeg).toInt64)) r1 h).bind (fun r2 => ((zs_Ref_boxed (h.1 37 0 a1.toNatClampNeg) r2 h).bind (fun r3 => (some (r3.1, r3.2)))))))) else none) else none) else none) else none)
def zs_Ref_isNull_J21 (h : zx_H)   : Option Bool :=
  (some false)
def zs_Ref_isNull (a1 : Int32) (a2 : Int64) (h : zx_H) : Option Bool :=
  (if zx_in a1 40 = true then (if (h.1 25 0 a1.toNatClampNeg) = 0 then (zs_Ref_isNull_J21 h) else (if a2 = (-1 : Int64) then (some true) else (zs_Ref_isNull_J21 h))) else none)
def zs_Ref_wait (a1 : Int32) (a2 : Int32) (a3 : Int32) (h : zx_H) : Option zx_H :=
  (if (h.1 24 0 37) = 0 then (if zx_in (h.1 24 0 32) 802 = true then (zx_bnd (zx_sI h 47 0 (h.1 24 0 32).toNatClampNeg a1) (fun h1 => (if zx_in (h1.1 24 0 32) 802 = true then (zx_bnd (zx_sI h1 48 0 (h1.1 24 0 32).toNatClampNeg a2) (fun h2 => (if zx_in (h2.1 24 0 32) 802 = true then (zx_bnd (zx_sI h2 49 0 (h2.1 24 0 32).toNatClampNeg a3) (fun h3 => (if zx_in (h3.1 24 0 32) 802 = true then (zx_bnd (zx_sI h3 50 0 (h3.1 24 0 32).toNatClampNeg (0 : Int32)) (fun h4 => (zx_bnd (zx_sI h4 24 0 32 ((h4.1 24 0 32) + (1 : Int32))) (fun h5 => (some h5))))) else none))) else none))) else none))) else none) else (some h))
def zs_Ref_mapped_J56  (x4 : Int32) (s1 : Bool) (h : zx_H) : Option (Int64 × zx_H) :=
  (zx_bnd (zx_sI h 24 0 37 (zx_b s1)) (fun h1 => (some ((x4.toInt64), h1))))
def zs_Ref_mapped_J51  (x4 : Int32) (h : zx_H) : Option (Int64 × zx_H) :=
  (zs_Ref_mapped_J56 x4 true h)
def zs_Ref_mapped_J34  (s0 : Int32) (h : zx_H) : Option (Int64 × zx_H) :=
  (if (h.1 24 0 37) = 0 then (if s0 = (-2 : Int32) then (zs_Ref_mapped_J51 s0 h) else (zs_Ref_mapped_J56 s0 false h)) else (zs_Ref_mapped_J51 s0 h))
def zs_Ref_mapped_J111   (h : zx_H) : Option (Int64 × zx_H) :=
  (some ((-1 : Int64), h))
def zs_Ref_mapped_J160 (k118 : (Int32 → Int64 → Int32 → zx_H → Option (Int64 × zx_H))) (x1 : Int32) (x2 : Int64) (x4 : Int32) (h : zx_H) : Option (Int64 × zx_H) :=
  (k118 x1 x2 (x4 + (1 : Int32)) h)
def zs_Ref_mapped_L118_body  (k118 : (Int32 → Int64 → Int32 → zx_H → Option (Int64 × zx_H))) (x1 : Int32) (x2 : Int64) (x4 : Int32) (h : zx_H) : Option (Int64 × zx_H) :=
  (if (h.1 24 0 28) ≤ x4 then (if zx_in x1 16 = true then ((zs_Ref_object (h.1 31 0 x1.toNatClampNeg) h).bind (fun r1 => (if r1.1 < 0 then (some ((r1.1.toInt64), r1.2)) else (if zx_in (r1.2.1 24 0 28) 400 = true then (zx_bnd (zx_sI r1.2 44 0 (r1.2.1 24 0 28).toNatClampNeg x1) (fun h2 => (if zx_in (h2.1 24 0 28) 400 = true then (zx_bnd (zx_sI h2 45 0 (h2.1 24 0 28).toNatClampNeg (x2.toInt32)) (fun h3 => (if zx_in (h3.1 24 0 28) 400 = true then (zx_bnd (zx_sI h3 46 0 (h3.1 24 0 28).toNatClampNeg r1.1) (fun h4 => (zx_bnd (zx_sI h4 24 0 28 ((h4.1 24 0 28) + (1 : Int32))) (fun h5 => ((zs_Ref_wait x1 (x2.toInt32) r1.1 h5).bind (fun r6 => (some ((r1.1.toInt64), r6)))))))) else none))) else none))) else none)))) else none) else (if zx_in x4 400 = true then (if (h.1 44 0 x4.toNatClampNeg) = x1 then (if zx_in x4 400 = true then (if ((h.1 45 0 x4.toNatClampNeg).toInt64) = x2 then (if zx_in x4 400 = true then (some (((h.1 46 0 x4.toNatClampNeg).toInt64), h)) else none) else (zs_Ref_mapped_J160 k118 x1 x2 x4 h)) else none) else (zs_Ref_mapped_J160 k118 x1 x2 x4 h)) else none))
def zs_Ref_mapped_L118  : (Int32 → Int64 → Int32 → zx_H → Option (Int64 × zx_H)) := zx_loop (fun _ _ _ _ => none) (zs_Ref_mapped_L118_body ) zx_fuel
def zs_Ref_mapped (a1 : Int32) (a2 : Int64) (h : zx_H) : Option (Int64 × zx_H) :=
  (if zx_in a1 16 = true then (if zx_in (h.1 30 0 a1.toNatClampNeg) 40 = true then (if (h.1 25 0 (h.1 30 0 a1.toNatClampNeg).toNatClampNeg) = (3 : Int32) then (if a2 = (-1 : Int64) then (zs_Ref_mapped_J34 (-1 : Int32) h) else ((zs_Ref_constantOf a1 (a2.toInt32) h).bind (fun r1 => (zs_Ref_mapped_J34 r1 h)))) else (if a2 = (-1 : Int64) then ((zs_Ref_latest a1 (8 : Int32) h).bind (fun r2 => (if r2 < 0 then (zs_Ref_mapped_J111 h) else (if zx_in r2 384 = true then (if (h.2 35 0 r2.toNatClampNeg) = (1 : Int64) then (if zx_in a1 16 = true then ((zs_Ref_object (h.1 31 0 a1.toNatClampNeg) h).bind (fun r3 => (some ((r3.1.toInt64), r3.2)))) else none) else (zs_Ref_mapped_J111 h)) else none)))) else (zs_Ref_mapped_L118 a1 a2 (0 : Int32) h))) else none) else none)
def zs_Ref_become_J43  (x1 : Int32) (x2 : Int32) (x3 : Int64) (x5 : Int32) (h : zx_H) : Option (Int64 × zx_H) :=
  ((zs_Ref_isNull x1 x3 h).bind (fun r1 => (if r1 = true then ((zs_Ref_empty x2 h).bind (fun r2 => (some (r2, h)))) else (if x5 = (2 : Int32) then ((zs_Ref_object x2 h).bind (fun r3 => ((zs_Ref_wait (-1 : Int32) (x3.toInt32) r3.1 r3.2).bind (fun r4 => (some ((r3.1.toInt64), r4)))))) else (if x5 < (300 : Int32) then (if x5 < (100 : Int32) then ((zs_Ref_converted x1 x2 x3 h).bind (fun r10 => ((zs_Ref_isAmount x2 r10.2).bind (fun r11 => (if r11 = true then ((zs_Ref_boxed x2 r10.1 r10.2).bind (fun r12 => (some (r12.1, r12.2)))) else (some (r10.1, r10.2))))))) else ((zs_Ref_plain x1 x3 h).bind (fun r8 => ((zs_Ref_applied (x5 - (100 : Int32)) r8 h).bind (fun r9 => (some (r9.1, r9.2))))))) else (zx_bnd (x5 - (300 : Int32)) (fun y5 => (if zx_in y5 8 = true then ((zs_Ref_converted x1 (h.1 36 0 y5.toNatClampNeg) x3 h).bind (fun r6 => (if (r6.2.1 24 0 37) = 0 then ((zs_Ref_applied y5 r6.1 r6.2).bind (fun r7 => (some (r7.1, r7.2)))) else (some ((0 : Int64), r6.2))))) else none))))))))
def zs_Ref_become (a1 : Int32) (a2 : Int32) (a3 : Int64) (h : zx_H) : Option (Int64 × zx_H) :=
  ((zs_Ref_how a1 a2 h).bind (fun r1 => (if r1 = 0 then (some (a3, h)) else (if r1 < (200 : Int32) then (zs_Ref_become_J43 a1 a2 a3 r1 h) else (if (300 : Int32) ≤ r1 then (zs_Ref_become_J43 a1 a2 a3 r1 h) else ((zs_Ref_mapped (r1 - (200 : Int32)) a3 h).bind (fun r2 => (some (r2.1, r2.2)))))))))
def zs_Ref_fillList  (h : zx_H) : Option zx_H :=
  (zx_bnd ((h.1 24 0 32) - (1 : Int32)) (fun y1 => (if zx_in y1 802 = true then (zx_bnd (h.1 48 0 y1.toNatClampNeg) (fun y2 => (if zx_in y1 802 = true then (zx_bnd (h.1 49 0 y1.toNatClampNeg) (fun y3 => (if zx_in y1 802 = true then (zx_bnd (h.1 50 0 y1.toNatClampNeg) (fun y4 => (if zx_in y2 400 = true then (if y4 = (h.1 41 0 y2.toNatClampNeg) then (zx_bnd (zx_sI h 24 0 32 ((h.1 24 0 32) - (1 : Int32))) (fun h5 => (some h5))) else (if zx_in y1 802 = true then (if zx_in y1 802 = true then (zx_bnd (zx_sI h 50 0 y1.toNatClampNeg ((h.1 50 0 y1.toNatClampNeg) + (1 : Int32))) (fun h6 => (if zx_in y3 400 = true then (if zx_in y3 400 = true then (zx_bnd (zx_sI h6 41 0 y3.toNatClampNeg ((h6.1 41 0 y3.toNatClampNeg) + (1 : Int32))) (fun h7 => (if zx_in y2 400 = true then (if zx_in (h7.1 40 0 y2.toNatClampNeg) 40 = true then (if zx_in y3 400 = true then (if zx_in (h7.1 40 0 y3.toNatClampNeg) 40 = true then (if zx_in (((16 : Int32) * y2) + y4) 6400 = true then ((zs_Ref_become (h7.1 29 0 (h7.1 40 0 y2.toNatClampNeg).toNatClampNeg) (h7.1 29 0 (h7.1 40 0 y3.toNatClampNeg).toNatClampNeg) (h7.2 42 0 (((16 : Int32) * y2) + y4).toNatClampNeg) h7).bind (fun r8 => (if zx_in (((16 : Int32) * y3) + y4) 6400 = true then (zx_bnd (zx_sJ r8.2 42 0 (((16 : Int32) * y3) + y4).toNatClampNeg r8.1) (fun h9 => (some h9))) else none))) else none) else none) else none) else none) else none))) else none) else none))) else none) else none)) else none))) else none))) else none))) else none)))
def zs_Ref_ends_J39  (x1 : Int32) (x2 : Int32) (x3 : Int32) (x4 : Int32) (x5 : Int64) (h : zx_H) : Option (Int64 × zx_H) :=
  ((zs_Ref_firstRule x1 (4 : Int32) x2 h).bind (fun r1 => (if 0 ≤ r1 then ((zs_Ref_isNull x3 x5 h).bind (fun r3 => (if r3 = true then ((zs_Ref_empty x4 h).bind (fun r4 => (some (r4, h)))) else (if zx_in r1 384 = true then ((zs_Ref_plain x3 x5 h).bind (fun r5 => ((zs_Ref_applied ((h.2 35 0 r1.toNatClampNeg).toInt32) r5 h).bind (fun r6 => (some (r6.1, r6.2)))))) else none)))) else ((zs_Ref_become x3 x4 x5 h).bind (fun r2 => (some (r2.1, r2.2)))))))
def zs_Ref_ends (a1 : Int32) (a2 : Int32) (a3 : Int32) (a4 : Int32) (a5 : Int64) (h : zx_H) : Option (Int64 × zx_H) :=
  ((zs_Ref_firstRule a1 (3 : Int32) a2 h).bind (fun r1 => ((zs_Ref_isNull a3 a5 h).bind (fun r2 => (if r2 = true then (if r1 < 0 then (zs_Ref_ends_J39 a1 a2 a3 a4 a5 h) else (if zx_in r1 384 = true then ((zs_Ref_become (4 : Int32) a4 (h.2 35 0 r1.toNatClampNeg) h).bind (fun r3 => (some (r3.1, r3.2)))) else none)) else (zs_Ref_ends_J39 a1 a2 a3 a4 a5 h))))))
def zs_Ref_valueOf_J145  (x1 : Int32) (x2 : Int32) (x3 : Int32) (h : zx_H) : Option (Int64 × zx_H) :=
  ((zs_Ref_firstRule x1 (3 : Int32) x2 h).bind (fun r1 => (if r1 < 0 then ((zs_Ref_empty x3 h).bind (fun r3 => (some (r3, h)))) else (if zx_in r1 384 = true then ((zs_Ref_become (4 : Int32) x3 (h.2 35 0 r1.toNatClampNeg) h).bind (fun r2 => (some (r2.1, r2.2)))) else none))))
def zs_Ref_valueOf_L52_body  (k52 : (Int32 → Int32 → Int32 → Int64 → Int32 → Int64 → Int32 → zx_H → Option (Int64 × zx_H))) (x1 : Int32) (x2 : Int32) (x3 : Int32) (x6 : Int64) (x8 : Int32) (x9 : Int64) (x11 : Int32) (h : zx_H) : Option (Int64 × zx_H) :=
  ((zs_Ref_nameOf x6 x11 h).bind (fun r1 => (if r1 < 0 then (zs_Ref_valueOf_J145 x1 x2 x3 h) else (if x9 = (-1 : Int64) then (zs_Ref_valueOf_J145 x1 x2 x3 h) else ((zs_Ref_nameOf x6 x11 h).bind (fun r2 => ((zs_Ref_placeOf x8 r2 h).bind (fun r3 => (if zx_in (((16 : Int32) * (x9.toInt32)) + r3) 6400 = true then (zx_bnd (h.2 42 0 (((16 : Int32) * (x9.toInt32)) + r3).toNatClampNeg) (fun y4 => (if zx_in (((8 : Int32) * x8) + r3) 320 = true then (zx_bnd (h.1 28 0 (((8 : Int32) * x8) + r3).toNatClampNeg) (fun y5 => ((zs_Ref_nameOf x6 (x11 + (1 : Int32)) h).bind (fun r7 => (if 0 ≤ r7 then (k52 x1 x2 x3 x6 y5 y4 (x11 + (1 : Int32)) h) else ((zs_Ref_ends x1 x2 y5 x3 y4 h).bind (fun r8 => (some (r8.1, r8.2))))))))) else none))) else none)))))))))
def zs_Ref_valueOf_L52  : (Int32 → Int32 → Int32 → Int64 → Int32 → Int64 → Int32 → zx_H → Option (Int64 × zx_H)) := zx_loop (fun _ _ _ _ _ _ _ _ => none) (zs_Ref_valueOf_L52_body ) zx_fuel
def zs_Ref_valueOf (a1 : Int32) (a2 : Int32) (a3 : Int32) (a4 : Int32) (h : zx_H) : Option (Int64 × zx_H) :=
  ((zs_Ref_firstRule a1 (1 : Int32) a2 h).bind (fun r1 => (if r1 < 0 then ((zs_Ref_pathOf a1 a2 h).bind (fun r3 => (if zx_in a1 16 = true then (zx_bnd (h.1 30 0 a1.toNatClampNeg) (fun y4 => (zx_bnd (a4.toInt64) (fun y5 => (zs_Ref_valueOf_L52 a1 a2 a3 r3 y4 y5 (0 : Int32) h))))) else none))) else (if zx_in r1 384 = true then ((zs_Ref_become (4 : Int32) a3 (h.2 35 0 r1.toNatClampNeg) h).bind (fun r2 => (some (r2.1, r2.2)))) else none))))
def zs_Ref_fillBean  (h : zx_H) : Option zx_H :=
  (zx_bnd ((h.1 24 0 32) - (1 : Int32)) (fun y1 => (if zx_in y1 802 = true then (zx_bnd (h.1 47 0 y1.toNatClampNeg) (fun y2 => (if zx_in y2 16 = true then (zx_bnd (h.1 31 0 y2.toNatClampNeg) (fun y3 => (if zx_in y1 802 = true then (zx_bnd (h.1 50 0 y1.toNatClampNeg) (fun y4 => (if zx_in y1 802 = true then (zx_bnd (h.1 49 0 y1.toNatClampNeg) (fun y5 => (if zx_in y3 40 = true then (if y4 = (h.1 26 0 y3.toNatClampNeg) then (zx_bnd (zx_sI h 24 0 32 ((h.1 24 0 32) - (1 : Int32))) (fun h6 => (some h6))) else (if zx_in y1 802 = true then (if zx_in y1 802 = true then (zx_bnd (zx_sI h 50 0 y1.toNatClampNeg ((h.1 50 0 y1.toNatClampNeg) + (1 : Int32))) (fun h7 => (if zx_in (((8 : Int32) * y3) + y4) 320 = true then (zx_bnd (h7.1 27 0 (((8 : Int32) * y3) + y4).toNatClampNeg) (fun y8 => ((zs_Ref_firstRule y2 (2 : Int32) y8 h7).bind (fun r9 => (if 0 ≤ r9 then (some h7) else (if zx_in (((8 : Int32) * y3) + y4) 320 = true then (if zx_in y1 802 = true then ((zs_Ref_valueOf y2 y8 (h7.1 28 0 (((8 : Int32) * y3) + y4).toNatClampNeg) (h7.1 48 0 y1.toNatClampNeg) h7).bind (fun r10 => (if zx_in (((16 : Int32) * y5) + y4) 6400 = true then (zx_bnd (zx_sJ r10.2 42 0 (((16 : Int32) * y5) + y4).toNatClampNeg r10.1) (fun h11 => (some h11))) else none))) else none) else none)))))) else none))) else none) else none)) else none))) else none))) else none))) else none))) else none)))
def zs_Ref_map_J43   (h : zx_H) : Option (Int32 × zx_H) :=
  ((zs_Ref_fails (1 : Int32) h).bind (fun r1 => (some (r1.1, r1.2))))
def zs_Ref_map_J138  (x3 : Int32) (x4 : Int64) (h : zx_H) : Option (Int32 × zx_H) :=
  (if (h.1 24 0 37) = 0 then (some ((x4.toInt32), h)) else (zx_bnd (zx_sI h 24 0 23 x3) (fun h1 => ((zs_Ref_fails (3 : Int32) h1).bind (fun r2 => (some (r2.1, r2.2)))))))
def zs_Ref_map_L96_body  (k96 : (Int32 → Int64 → zx_H → Option (Int32 × zx_H))) (x3 : Int32) (x4 : Int64) (h : zx_H) : Option (Int32 × zx_H) :=
  (if (h.1 24 0 32) ≤ 0 then (zs_Ref_map_J138 x3 x4 h) else (if (h.1 24 0 37) = 0 then (if zx_in ((h.1 24 0 32) - (1 : Int32)) 802 = true then (if 0 ≤ (h.1 47 0 ((h.1 24 0 32) - (1 : Int32)).toNatClampNeg) then ((zs_Ref_fillBean h).bind (fun r2 => (k96 x3 x4 r2))) else ((zs_Ref_fillList h).bind (fun r1 => (k96 x3 x4 r1)))) else none) else (zs_Ref_map_J138 x3 x4 h)))
def zs_Ref_map_L96  : (Int32 → Int64 → zx_H → Option (Int32 × zx_H)) := zx_loop (fun _ _ _ => none) (zs_Ref_map_L96_body ) zx_fuel
def zs_Ref_map_J34  (x1 : Int32) (x2 : Int32) (s2 : Int32) (h : zx_H) : Option (Int32 × zx_H) :=
  (if zx_in s2 16 = true then ((zs_Ref_isValue (h.1 30 0 s2.toNatClampNeg) (x2.toInt64) h).bind (fun r1 => (if r1 = true then (if (h.1 24 0 1) = 0 then ((zs_Ref_fails (2 : Int32) h).bind (fun r2 => (some (r2.1, r2.2)))) else (zx_bnd (zx_sI h 24 0 0 (0 : Int32)) (fun h3 => (zx_bnd (h3.1 24 0 23) (fun y4 => (zx_bnd (zx_sI h3 24 0 28 (0 : Int32)) (fun h5 => (zx_bnd (zx_sI h5 24 0 32 (0 : Int32)) (fun h6 => (zx_bnd (zx_sI h6 24 0 37 (0 : Int32)) (fun h7 => ((zs_Ref_mapped x1 (x2.toInt64) h7).bind (fun r8 => (zs_Ref_map_L96 y4 r8.1 r8.2)))))))))))))) else (zs_Ref_map_J43 h)))) else none)
def zs_Ref_map_J29  (x1 : Int32) (x2 : Int32) (h : zx_H) : Option (Int32 × zx_H) :=
  (zs_Ref_map_J34 x1 x2 (0 : Int32) h)
def zs_Ref_map (a1 : Int32) (a2 : Int32) (h : zx_H) : Option (Int32 × zx_H) :=
  (if a1 < 0 then (zs_Ref_map_J43 h) else (if (h.1 24 0 8) ≤ a1 then (zs_Ref_map_J43 h) else (if a1 < 0 then (zs_Ref_map_J29 a1 a2 h) else (if a1 < (h.1 24 0 8) then (zs_Ref_map_J34 a1 a2 a1 h) else (zs_Ref_map_J29 a1 a2 h)))))
def zs_Ref_get_J34   (h : zx_H) : Option (Int64 × zx_H) :=
  ((zs_Ref_fails (1 : Int32) h).bind (fun r1 => (some ((r1.1.toInt64), r1.2))))
def zs_Ref_get_J30  (x1 : Int32) (x2 : Int32) (s0 : Int32) (s2 : Int32) (h : zx_H) : Option (Int64 × zx_H) :=
  (if zx_in s2 400 = true then (if s0 < (h.1 41 0 s2.toNatClampNeg) then (zx_bnd (zx_sI h 24 0 0 (0 : Int32)) (fun h1 => (if zx_in x1 400 = true then (if (h1.1 40 0 x1.toNatClampNeg) = (14 : Int32) then (if zx_in (((24 : Int32) * x1) + x2) 9600 = true then (some (((h1.1 43 0 (((24 : Int32) * x1) + x2).toNatClampNeg).toInt64), h1)) else none) else (if zx_in (((16 : Int32) * x1) + x2) 6400 = true then (some ((h1.2 42 0 (((16 : Int32) * x1) + x2).toNatClampNeg), h1)) else none)) else none))) else (zs_Ref_get_J34 h)) else none)
def zs_Ref_get (a1 : Int32) (a2 : Int32) (h : zx_H) : Option (Int64 × zx_H) :=
  ((zs_Ref_isObject a1 h).bind (fun r1 => (if r1 = true then (if a2 < 0 then (zs_Ref_get_J34 h) else ((zs_Ref_isObject a1 h).bind (fun r2 => (if r2 = true then (zs_Ref_get_J30 a1 a2 a2 a1 h) else (zs_Ref_get_J30 a1 a2 a2 (0 : Int32) h))))) else (zs_Ref_get_J34 h))))
def zs_Ref_about_J17   (h : zx_H) : Option (Int32 × zx_H) :=
  ((zs_Ref_fails (1 : Int32) h).bind (fun r1 => (some (r1.1, r1.2))))
def zs_Ref_about (a1 : Int32) (a2 : Int32) (h : zx_H) : Option (Int32 × zx_H) :=
  ((zs_Ref_isObject a1 h).bind (fun r1 => (if r1 = true then (if a2 < 0 then (zs_Ref_about_J17 h) else (if a2 ≤ (1 : Int32) then (zx_bnd (zx_sI h 24 0 0 (0 : Int32)) (fun h2 => (if a2 = 0 then (if zx_in a1 400 = true then (some ((h2.1 40 0 a1.toNatClampNeg), h2)) else none) else (if zx_in a1 400 = true then (some ((h2.1 41 0 a1.toNatClampNeg), h2)) else none)))) else (zs_Ref_about_J17 h))) else (zs_Ref_about_J17 h))))
def zs_Ref_count (a1 : Int32) (h : zx_H) : Option (Int32 × zx_H) :=
  (zx_bnd (zx_sI h 24 0 0 (0 : Int32)) (fun h1 => (if a1 = 0 then (some ((h1.1 24 0 2), h1)) else (if a1 = (1 : Int32) then (some ((h1.1 24 0 8), h1)) else (if a1 = (2 : Int32) then (some ((h1.1 24 0 15), h1)) else (if a1 = (3 : Int32) then (some ((h1.1 24 0 23), h1)) else (if a1 = (4 : Int32) then (if (h1.1 24 0 1) = 0 then (some ((0 : Int32), h1)) else (some ((1 : Int32), h1))) else (some ((-1 : Int32), h1)))))))))
def zs_Basics_isBox_J16 (h : zx_H)   : Option Bool :=
  (some false)
def zs_Basics_isBox (a0 : Int32) (h : zx_H) : Option Bool :=
  (if a0 < (7 : Int32) then (zs_Basics_isBox_J16 h) else (if (14 : Int32) ≤ a0 then (zs_Basics_isBox_J16 h) else (some true)))
def zs_Basics_isBasic_J14 (h : zx_H)   : Option Bool :=
  (some false)
def zs_Basics_isBasic (a0 : Int32) (h : zx_H) : Option Bool :=
  (if a0 < 0 then (zs_Basics_isBasic_J14 h) else (if (14 : Int32) ≤ a0 then (zs_Basics_isBasic_J14 h) else (some true)))
def zs_Basics_kindOf (a0 : Int32) (h : zx_H) : Option Int32 :=
  (if (7 : Int32) ≤ a0 then (some (a0 - (7 : Int32))) else (some a0))
def zs_Basics_isWhole_J26 (h : zx_H)   : Option Bool :=
  (some false)
def zs_Basics_isWhole (a0 : Int32) (h : zx_H) : Option Bool :=
  (if a0 < 0 then (zs_Basics_isWhole_J26 h) else (if (14 : Int32) ≤ a0 then (zs_Basics_isWhole_J26 h) else (if a0 = (6 : Int32) then (zs_Basics_isWhole_J26 h) else (if a0 = (13 : Int32) then (zs_Basics_isWhole_J26 h) else (some true)))))
def zs_Basics_isNull_J18 (h : zx_H)   : Option Bool :=
  (some false)
def zs_Basics_isNull (a0 : Int32) (a1 : Int64) (h : zx_H) : Option Bool :=
  (if a0 < (7 : Int32) then (zs_Basics_isNull_J18 h) else (if a1 = (-1 : Int64) then (some true) else (zs_Basics_isNull_J18 h)))
def zs_Basics_emptyOf (a0 : Int32) (h : zx_H) : Option Int64 :=
  (if (7 : Int32) ≤ a0 then (some (-1 : Int64)) else (some (0 : Int64)))
def zs_Basics_wholeOf_J78 (h : zx_H)  (x0 : Int64) (s0 : Int64) : Option Int64 :=
  (if (0 : Int64) ≤ x0 then (some s0) else (some (-s0)))
def zs_Basics_wholeOf (a0 : Int64) (h : zx_H) : Option Int64 :=
  (zx_bnd ((((zx_clshr a0 (52 : Int32)) &&& (2047 : Int64)).toInt32) - (1023 : Int32)) (fun y1 => (if 0 ≤ y1 then (if y1 ≤ (62 : Int32) then (zx_bnd ((a0 &&& ((4503599627370496 : Int64) - (1 : Int64))) ||| (4503599627370496 : Int64)) (fun y2 => (if (52 : Int32) ≤ y1 then (zs_Basics_wholeOf_J78 h a0 (zx_clshl y2 (y1 - (52 : Int32)))) else (zs_Basics_wholeOf_J78 h a0 (zx_clshr y2 ((52 : Int32) - y1)))))) else (if (0 : Int64) ≤ a0 then (some (9223372036854775807 : Int64)) else (some (-9223372036854775808 : Int64)))) else (some (0 : Int64)))))
def zs_Basics_nearestDouble_J150 (h : zx_H)  (x0 : Int64) (x4 : Int32) (x5 : Int64) : Option Int64 :=
  (zx_bnd ((zx_clshl (((x4 + (1023 : Int32)) - (1 : Int32)).toInt64) (52 : Int32)) + x5) (fun y1 => (if (0 : Int64) ≤ x0 then (some y1) else (some (y1 ||| (-9223372036854775808 : Int64))))))
def zs_Basics_nearestDouble_J147 (h : zx_H)  (x0 : Int64) (x4 : Int32) (s0 : Int64) (s1 : Int64) : Option Int64 :=
  (zx_bnd (s0 + s1) (fun y1 => (zs_Basics_nearestDouble_J150 h x0 x4 y1)))
def zs_Basics_nearestDouble_J133 (h : zx_H)  (x0 : Int64) (x4 : Int32) (x5 : Int64) (s0 : Bool) : Option Int64 :=
  (if s0 = true then (zs_Basics_nearestDouble_J147 h x0 x4 x5 (1 : Int64)) else (zs_Basics_nearestDouble_J147 h x0 x4 x5 (0 : Int64)))
def zs_Basics_nearestDouble_J128 (h : zx_H)  (x0 : Int64) (x4 : Int32) (x5 : Int64) : Option Int64 :=
  (zs_Basics_nearestDouble_J133 h x0 x4 x5 true)
def zs_Basics_nearestDouble_J132 (h : zx_H)  (x0 : Int64) (x4 : Int32) (x5 : Int64) : Option Int64 :=
  (zs_Basics_nearestDouble_J133 h x0 x4 x5 false)
def zs_Basics_nearestDouble_J63 (h : zx_H)  (x0 : Int64) (x2 : Int64) (x4 : Int32) (s0 : Int64) : Option Int64 :=
  (if x4 ≤ (52 : Int32) then (zs_Basics_nearestDouble_J150 h x0 x4 s0) else (zx_bnd (x4 - (52 : Int32)) (fun y1 => (zx_bnd (x2 &&& ((zx_clshl (1 : Int64) y1) - (1 : Int64))) (fun y2 => (zx_bnd (zx_clshl (1 : Int64) (y1 - (1 : Int32))) (fun y3 => (zx_bnd (zx_clushr x2 y1) (fun y4 => (if y3 < y2 then (zs_Basics_nearestDouble_J128 h x0 x4 y4) else (if y2 = y3 then (if (y4 &&& (1 : Int64)) = (1 : Int64) then (zs_Basics_nearestDouble_J128 h x0 x4 y4) else (zs_Basics_nearestDouble_J132 h x0 x4 y4)) else (zs_Basics_nearestDouble_J132 h x0 x4 y4))))))))))))
def zs_Basics_nearestDouble_J45 (h : zx_H)  (x0 : Int64) (x2 : Int64) (x4 : Int32) : Option Int64 :=
  (if x4 ≤ (52 : Int32) then (zs_Basics_nearestDouble_J63 h x0 x2 x4 (zx_clshl x2 ((52 : Int32) - x4))) else (zs_Basics_nearestDouble_J63 h x0 x2 x4 x2))
def zs_Basics_nearestDouble_L25_body (h : zx_H)  (k25 : (Int64 → Int64 → Int32 → Option Int64)) (x0 : Int64) (x2 : Int64) (x4 : Int32) : Option Int64 :=
  (if x4 ≤ 0 then (zs_Basics_nearestDouble_J45 h x0 x2 x4) else (if (zx_clushr x2 x4) = (0 : Int64) then (k25 x0 x2 (x4 + (-1 : Int32))) else (zs_Basics_nearestDouble_J45 h x0 x2 x4)))
def zs_Basics_nearestDouble_L25 (h : zx_H)  : (Int64 → Int64 → Int32 → Option Int64) := zx_loop (fun _ _ _ => none) (zs_Basics_nearestDouble_L25_body h ) zx_fuel
def zs_Basics_nearestDouble_J20 (h : zx_H)  (x0 : Int64) (s0 : Int64) : Option Int64 :=
  (zs_Basics_nearestDouble_L25 h x0 s0 (63 : Int32))
def zs_Basics_nearestDouble (a0 : Int64) (h : zx_H) : Option Int64 :=
  (if a0 = (0 : Int64) then (some (0 : Int64)) else (if (0 : Int64) ≤ a0 then (zs_Basics_nearestDouble_J20 h a0 a0) else (zs_Basics_nearestDouble_J20 h a0 (-a0))))
def zs_Basics_cast_J61 (h : zx_H)  (x1 : Int32) (x4 : Int64) : Option Int64 :=
  (zx_chain x1 [((0 : Int32), (some (((x4.toInt32).toInt8.toInt32).toInt64))), ((1 : Int32), (some (((x4.toInt32).toInt16.toInt32).toInt64))), ((2 : Int32), (some (x4 &&& (65535 : Int64)))), ((3 : Int32), (some ((x4.toInt32).toInt64))), ((4 : Int32), (some x4)), ((5 : Int32), (some (x4 &&& (1 : Int64)))), ((6 : Int32), ((zs_Basics_nearestDouble x4 h).bind (fun r1 => (some r1))))] (some x4))
def zs_Basics_cast_J28 (h : zx_H)  (x0 : Int32) (x1 : Int32) (s0 : Int64) : Option Int64 :=
  (if x0 = (6 : Int32) then (if x1 = (4 : Int32) then (zs_Basics_cast_J61 h x1 s0) else (if zx_in (3 : Int32) 6 = true then (if zx_in (3 : Int32) 6 = true then (zx_bnd (zx_max (zx_least (3 : Int32).toNatClampNeg) (zx_min (zx_most (3 : Int32).toNatClampNeg) s0)) (fun y1 => (zs_Basics_cast_J61 h x1 y1))) else none) else none)) else (zs_Basics_cast_J61 h x1 s0))
def zs_Basics_cast_J14 (h : zx_H)  (x0 : Int32) (x1 : Int32) (x2 : Int64) : Option Int64 :=
  (if x0 = (6 : Int32) then ((zs_Basics_wholeOf x2 h).bind (fun r1 => (zs_Basics_cast_J28 h x0 x1 r1))) else (zs_Basics_cast_J28 h x0 x1 x2))
def zs_Basics_cast (a0 : Int32) (a1 : Int32) (a2 : Int64) (h : zx_H) : Option Int64 :=
  (if a0 = (6 : Int32) then (if a1 = (6 : Int32) then (some a2) else (zs_Basics_cast_J14 h a0 a1 a2)) else (zs_Basics_cast_J14 h a0 a1 a2))
def zs_Store_create (a1 : Int32) (h : zx_H) : Option (Int32 × zx_H) :=
  (if (h.1 7 0 4) < (400 : Int32) then (zx_bnd (h.1 7 0 4) (fun y1 => (zx_bnd (zx_sI h 7 0 4 ((h.1 7 0 4) + (1 : Int32))) (fun h2 => (if zx_in y1 400 = true then (zx_bnd (zx_sI h2 8 0 y1.toNatClampNeg a1) (fun h3 => (if zx_in y1 400 = true then (zx_bnd (zx_sI h3 9 0 y1.toNatClampNeg (0 : Int32)) (fun h4 => (some (y1, h4)))) else none))) else none))))) else (some ((-1 : Int32), h)))
def zs_Converter_created_J22  (x2 : Int32) (h : zx_H) : Option (Int32 × zx_H) :=
  (zx_bnd (zx_sI h 23 0 2 (1 : Int32)) (fun h1 => (some (x2, h1))))
def zs_Converter_created (a1 : Int32) (h : zx_H) : Option (Int32 × zx_H) :=
  ((zs_Store_create a1 h).bind (fun r1 => (if (r1.2.1 23 0 2) = 0 then (if r1.1 = (-1 : Int32) then (zs_Converter_created_J22 r1.1 r1.2) else (zx_bnd (zx_sI r1.2 23 0 2 (0 : Int32)) (fun h2 => (some (r1.1, h2))))) else (zs_Converter_created_J22 r1.1 r1.2))))
def zs_Types_nameAt_J31 (h : zx_H)  (x1 : Int32) (x2 : Int32) (s0 : Bool) : Option Int32 :=
  (if s0 = true then (if zx_in ((x1 * (8 : Int32)) + x2) 320 = true then (some (h.1 5 0 ((x1 * (8 : Int32)) + x2).toNatClampNeg)) else none) else (some (-1 : Int32)))
def zs_Types_nameAt_J30 (h : zx_H)  (x1 : Int32) (x2 : Int32) : Option Int32 :=
  (zs_Types_nameAt_J31 h x1 x2 false)
def zs_Types_nameAt (a1 : Int32) (a2 : Int32) (h : zx_H) : Option Int32 :=
  (if a1 < 0 then (zs_Types_nameAt_J30 h a1 a2) else (if (h.1 1 0 5) ≤ a1 then (zs_Types_nameAt_J30 h a1 a2) else (if a2 < 0 then (zs_Types_nameAt_J30 h a1 a2) else (if zx_in a1 40 = true then (if (h.1 4 0 a1.toNatClampNeg) ≤ a2 then (zs_Types_nameAt_J30 h a1 a2) else (zs_Types_nameAt_J31 h a1 a2 true)) else none))))
def zs_Converter_writeNumber_J55 (k36 : (Int32 → Int64 → Int32 → Int64 → zx_H → Option zx_H)) (x1 : Int32) (x5 : Int64) (x7 : Int32) (x8 : Int64) (h : zx_H) : Option zx_H :=
  ((zs_Store_append x1 (48 : Int64) h).bind (fun r1 => (zx_bnd (x8 / (10 : Int64)) (fun y3 => (k36 x1 x5 (x7 + (1 : Int32)) y3 r1.2)))))
def zs_Converter_writeNumber_L96_body  (k96 : (Int32 → Int64 → Int32 → Int32 → Int32 → zx_H → Option zx_H)) (x1 : Int32) (x5 : Int64) (x7 : Int32) (x8 : Int32) (x9 : Int32) (h : zx_H) : Option zx_H :=
  (if x7 ≤ x9 then (some h) else ((zs_Store_set x1 (x8 - x9) ((48 : Int64) - (x5 - x5 / (10 : Int64) * (10 : Int64))) h).bind (fun r1 => (zx_bnd (x5 / (10 : Int64)) (fun y2 => (k96 x1 y2 x7 x8 (x9 + (1 : Int32)) r1.2))))))
def zs_Converter_writeNumber_L96  : (Int32 → Int64 → Int32 → Int32 → Int32 → zx_H → Option zx_H) := zx_loop (fun _ _ _ _ _ _ => none) (zs_Converter_writeNumber_L96_body ) zx_fuel
def zs_Converter_writeNumber_J81  (x1 : Int32) (x5 : Int64) (x7 : Int32) (h : zx_H) : Option zx_H :=
  ((zs_Store_length x1 h).bind (fun r1 => (zx_bnd (r1 - (1 : Int32)) (fun y2 => (zs_Converter_writeNumber_L96 x1 x5 x7 y2 (0 : Int32) h)))))
def zs_Converter_writeNumber_L36_body  (k36 : (Int32 → Int64 → Int32 → Int64 → zx_H → Option zx_H)) (x1 : Int32) (x5 : Int64) (x7 : Int32) (x8 : Int64) (h : zx_H) : Option zx_H :=
  (if x7 = 0 then (zs_Converter_writeNumber_J55 k36 x1 x5 x7 x8 h) else (if x8 = (0 : Int64) then (zs_Converter_writeNumber_J81 x1 x5 x7 h) else (if (24 : Int32) ≤ x7 then (zs_Converter_writeNumber_J81 x1 x5 x7 h) else (zs_Converter_writeNumber_J55 k36 x1 x5 x7 x8 h))))
def zs_Converter_writeNumber_L36  : (Int32 → Int64 → Int32 → Int64 → zx_H → Option zx_H) := zx_loop (fun _ _ _ _ _ => none) (zs_Converter_writeNumber_L36_body ) zx_fuel
def zs_Converter_writeNumber_J27  (x1 : Int32) (s0 : Int64) (h : zx_H) : Option zx_H :=
  (zs_Converter_writeNumber_L36 x1 s0 (0 : Int32) s0 h)
def zs_Converter_writeNumber_J15  (x1 : Int32) (x3 : Int64) (h : zx_H) : Option zx_H :=
  (if (0 : Int64) ≤ x3 then (zs_Converter_writeNumber_J27 x1 (-x3) h) else (zs_Converter_writeNumber_J27 x1 x3 h))
def zs_Converter_writeNumber (a1 : Int32) (a2 : Int32) (a3 : Int64) (h : zx_H) : Option zx_H :=
  (if a2 = 0 then (zs_Converter_writeNumber_J15 a1 a3 h) else ((zs_Store_append a1 (a2.toInt64) h).bind (fun r1 => (zs_Converter_writeNumber_J15 a1 a3 r1.2))))
def zs_Store_cell_J31 (h : zx_H)  (x1 : Int32) (x2 : Int32) (s0 : Bool) : Option Int64 :=
  (if s0 = true then (if zx_in ((x1 * (24 : Int32)) + x2) 9600 = true then (some (h.2 10 0 ((x1 * (24 : Int32)) + x2).toNatClampNeg)) else none) else (some (0 : Int64)))
def zs_Store_cell_J30 (h : zx_H)  (x1 : Int32) (x2 : Int32) : Option Int64 :=
  (zs_Store_cell_J31 h x1 x2 false)
def zs_Store_cell (a1 : Int32) (a2 : Int32) (h : zx_H) : Option Int64 :=
  (if a1 < 0 then (zs_Store_cell_J30 h a1 a2) else (if (h.1 7 0 4) ≤ a1 then (zs_Store_cell_J30 h a1 a2) else (if a2 < 0 then (zs_Store_cell_J30 h a1 a2) else (if zx_in a1 400 = true then (if (h.1 9 0 a1.toNatClampNeg) ≤ a2 then (zs_Store_cell_J30 h a1 a2) else (zs_Store_cell_J31 h a1 a2 true)) else none))))
def zs_Converter_unboxed (a1 : Int32) (a2 : Int64) (h : zx_H) : Option Int64 :=
  ((zs_Basics_isPrimitive a1 h).bind (fun r1 => (if r1 = true then (some a2) else ((zs_Store_cell (a2.toInt32) (0 : Int32) h).bind (fun r2 => (some r2))))))
def zs_Converter_writeWord_L2_body  (k2 : (Int32 → Bool → Int32 → zx_H → Option zx_H)) (x1 : Int32) (x2 : Bool) (x3 : Int32) (h : zx_H) : Option zx_H :=
  (if (zx_sl x2) ≤ x3 then (some h) else (if zx_in x3 (zx_sn x2) = true then ((zs_Store_append x1 ((zx_sc x2 x3.toNatClampNeg).toInt64) h).bind (fun r1 => (k2 x1 x2 (x3 + (1 : Int32)) r1.2))) else none))
def zs_Converter_writeWord_L2  : (Int32 → Bool → Int32 → zx_H → Option zx_H) := zx_loop (fun _ _ _ _ => none) (zs_Converter_writeWord_L2_body ) zx_fuel
def zs_Converter_writeWord (a1 : Int32) (a2 : Bool) (h : zx_H) : Option zx_H :=
  (zs_Converter_writeWord_L2 a1 a2 (0 : Int32) h)
def zs_Converter_writePlain_J20  (s1 : Int32) (s2 : Bool) (h : zx_H) : Option zx_H :=
  ((zs_Converter_writeWord s1 s2 h).bind (fun r1 => (some r1)))
def zs_Converter_writePlain_J58  (x3 : Int64) (s1 : Int32) (s2 : Int32) (h : zx_H) : Option zx_H :=
  ((zs_Converter_writeNumber s1 s2 x3 h).bind (fun r1 => (some r1)))
def zs_Converter_writePlain (a1 : Int32) (a2 : Int32) (a3 : Int64) (h : zx_H) : Option zx_H :=
  (if a2 = (5 : Int32) then (if a3 = (1 : Int64) then (zs_Converter_writePlain_J20 a1 true h) else (zs_Converter_writePlain_J20 a1 false h)) else (if a2 = (2 : Int32) then ((zs_Store_append a1 a3 h).bind (fun r1 => (some r1.2))) else (if (0 : Int64) ≤ a3 then (zs_Converter_writePlain_J58 a3 a1 (0 : Int32) h) else (zs_Converter_writePlain_J58 a3 a1 (45 : Int32) h))))
def zs_Converter_isNameText_J58 (h : zx_H)   : Option Bool :=
  (some false)
def zs_Converter_isNameText_J118 (h : zx_H)   : Option Bool :=
  (some false)
def zs_Converter_isNameText (a1 : Int32) (a2 : Int32) (h : zx_H) : Option Bool :=
  ((zs_Store_cell a1 (0 : Int32) h).bind (fun r1 => (if r1 = (110 : Int64) then (if (10 : Int32) ≤ a2 then ((zs_Store_length a1 h).bind (fun r4 => (if r4 = (3 : Int32) then ((zs_Store_cell a1 (1 : Int32) h).bind (fun r5 => (if r5 = (((48 : Int32) + (a2 / (10 : Int32))).toInt64) then ((zs_Store_cell a1 (2 : Int32) h).bind (fun r6 => (if r6 = (((48 : Int32) + (a2 - a2 / (10 : Int32) * (10 : Int32))).toInt64) then (some true) else (zs_Converter_isNameText_J118 h)))) else (zs_Converter_isNameText_J118 h)))) else (zs_Converter_isNameText_J118 h)))) else ((zs_Store_length a1 h).bind (fun r2 => (if r2 = (2 : Int32) then ((zs_Store_cell a1 (1 : Int32) h).bind (fun r3 => (if r3 = (((48 : Int32) + a2).toInt64) then (some true) else (zs_Converter_isNameText_J58 h)))) else (zs_Converter_isNameText_J58 h))))) else (some false))))
def zs_Converter_constantOf_L12_body  (k12 : (Int32 → Int32 → Int32 → Int32 → zx_H → Option (Int64 × zx_H))) (x1 : Int32) (x2 : Int32) (x3 : Int32) (x4 : Int32) (h : zx_H) : Option (Int64 × zx_H) :=
  (if x3 ≤ x4 then (zx_bnd (zx_sI h 23 0 2 (1 : Int32)) (fun h4 => (some ((-1 : Int64), h4)))) else ((zs_Types_nameAt x1 x4 h).bind (fun r1 => ((zs_Converter_isNameText x2 r1 h).bind (fun r2 => (if r2 = true then (some ((x4.toInt64), h)) else (k12 x1 x2 x3 (x4 + (1 : Int32)) h)))))))
def zs_Converter_constantOf_L12  : (Int32 → Int32 → Int32 → Int32 → zx_H → Option (Int64 × zx_H)) := zx_loop (fun _ _ _ _ _ => none) (zs_Converter_constantOf_L12_body ) zx_fuel
def zs_Converter_constantOf (a1 : Int32) (a2 : Int32) (h : zx_H) : Option (Int64 × zx_H) :=
  ((zs_Types_memberCount a1 h).bind (fun r1 => (zs_Converter_constantOf_L12 a1 a2 r1 (0 : Int32) h)))
def zs_Converter_isTrue_J80 (h : zx_H)   : Option Bool :=
  (some false)
def zs_Converter_isTrue (a1 : Int32) (h : zx_H) : Option Bool :=
  ((zs_Store_length a1 h).bind (fun r1 => (if r1 = (4 : Int32) then ((zs_Store_cell a1 (0 : Int32) h).bind (fun r2 => (if r2 = (116 : Int64) then ((zs_Store_cell a1 (1 : Int32) h).bind (fun r3 => (if r3 = (114 : Int64) then ((zs_Store_cell a1 (2 : Int32) h).bind (fun r4 => (if r4 = (117 : Int64) then ((zs_Store_cell a1 (3 : Int32) h).bind (fun r5 => (if r5 = (101 : Int64) then (some true) else (zs_Converter_isTrue_J80 h)))) else (zs_Converter_isTrue_J80 h)))) else (zs_Converter_isTrue_J80 h)))) else (zs_Converter_isTrue_J80 h)))) else (zs_Converter_isTrue_J80 h))))
def zs_Converter_number_J148 (k64 : (Int32 → Int32 → Int32 → Bool → Bool → Int64 → Int32 → zx_H → Option (Int64 × zx_H))) (x1 : Int32) (x2 : Int32) (x3 : Int32) (x4 : Bool) (x6 : Bool) (x9 : Int32) (s0 : Int64) (h : zx_H) : Option (Int64 × zx_H) :=
  (k64 x1 x2 x3 x4 x6 s0 (x9 + (1 : Int32)) h)
def zs_Converter_number_J128 (k64 : (Int32 → Int32 → Int32 → Bool → Bool → Int64 → Int32 → zx_H → Option (Int64 × zx_H))) (x1 : Int32) (x2 : Int32) (x3 : Int32) (x4 : Bool) (x7 : Int64) (x9 : Int32) (x10 : Int64) (s0 : Bool) (h : zx_H) : Option (Int64 × zx_H) :=
  (if s0 = true then (zs_Converter_number_J148 k64 x1 x2 x3 x4 s0 x9 ((x7 * (10 : Int64)) - x10) h) else (zs_Converter_number_J148 k64 x1 x2 x3 x4 s0 x9 (0 : Int64) h))
def zs_Converter_number_J127 (k64 : (Int32 → Int32 → Int32 → Bool → Bool → Int64 → Int32 → zx_H → Option (Int64 × zx_H))) (x1 : Int32) (x2 : Int32) (x3 : Int32) (x4 : Bool) (x7 : Int64) (x9 : Int32) (x10 : Int64) (h : zx_H) : Option (Int64 × zx_H) :=
  (zs_Converter_number_J128 k64 x1 x2 x3 x4 x7 x9 x10 false h)
def zs_Converter_number_J211   (h : zx_H) : Option (Int64 × zx_H) :=
  (zx_bnd (zx_sI h 23 0 2 (1 : Int32)) (fun h1 => (some ((0 : Int64), h1))))
def zs_Converter_number_J195  (x2 : Int32) (x6 : Bool) (s0 : Int64) (h : zx_H) : Option (Int64 × zx_H) :=
  (if x6 = true then ((zs_Basics_holds x2 s0 h).bind (fun r1 => (if r1 = true then (some (s0, h)) else (zs_Converter_number_J211 h)))) else (zs_Converter_number_J211 h))
def zs_Converter_number_J180  (x2 : Int32) (x4 : Bool) (x7 : Int64) (s0 : Bool) (h : zx_H) : Option (Int64 × zx_H) :=
  (if x4 = true then (zs_Converter_number_J195 x2 s0 x7 h) else (zs_Converter_number_J195 x2 s0 (-x7) h))
def zs_Converter_number_J175  (x2 : Int32) (x4 : Bool) (x7 : Int64) (h : zx_H) : Option (Int64 × zx_H) :=
  (zs_Converter_number_J180 x2 x4 x7 true h)
def zs_Converter_number_J179  (x2 : Int32) (x4 : Bool) (x7 : Int64) (h : zx_H) : Option (Int64 × zx_H) :=
  (zs_Converter_number_J180 x2 x4 x7 false h)
def zs_Converter_number_J156  (x2 : Int32) (x4 : Bool) (x6 : Bool) (x7 : Int64) (h : zx_H) : Option (Int64 × zx_H) :=
  (if x6 = true then (if x4 = true then (zs_Converter_number_J175 x2 x4 x7 h) else (if x7 = (-9223372036854775808 : Int64) then (zs_Converter_number_J179 x2 x4 x7 h) else (zs_Converter_number_J175 x2 x4 x7 h))) else (zs_Converter_number_J179 x2 x4 x7 h))
def zs_Converter_number_L64_body  (k64 : (Int32 → Int32 → Int32 → Bool → Bool → Int64 → Int32 → zx_H → Option (Int64 × zx_H))) (x1 : Int32) (x2 : Int32) (x3 : Int32) (x4 : Bool) (x6 : Bool) (x7 : Int64) (x9 : Int32) (h : zx_H) : Option (Int64 × zx_H) :=
  (if x6 = true then (if x3 ≤ x9 then (zs_Converter_number_J156 x2 x4 x6 x7 h) else ((zs_Store_cell x1 x9 h).bind (fun r1 => (zx_bnd (r1 - (48 : Int64)) (fun y2 => (if y2 < (0 : Int64) then (zs_Converter_number_J127 k64 x1 x2 x3 x4 x7 x9 y2 h) else (if (9 : Int64) < y2 then (zs_Converter_number_J127 k64 x1 x2 x3 x4 x7 x9 y2 h) else (if x7 < (((-9223372036854775808 : Int64) + y2) / (10 : Int64)) then (zs_Converter_number_J127 k64 x1 x2 x3 x4 x7 x9 y2 h) else (zs_Converter_number_J128 k64 x1 x2 x3 x4 x7 x9 y2 true h))))))))) else (zs_Converter_number_J156 x2 x4 x6 x7 h))
def zs_Converter_number_L64  : (Int32 → Int32 → Int32 → Bool → Bool → Int64 → Int32 → zx_H → Option (Int64 × zx_H)) := zx_loop (fun _ _ _ _ _ _ _ _ => none) (zs_Converter_number_L64_body ) zx_fuel
def zs_Converter_number_J55  (x1 : Int32) (x2 : Int32) (x3 : Int32) (x4 : Bool) (x5 : Bool) (s0 : Bool) (h : zx_H) : Option (Int64 × zx_H) :=
  (zs_Converter_number_L64 x1 x2 x3 x4 s0 (0 : Int64) (zx_b x5) h)
def zs_Converter_number_J42  (x1 : Int32) (x2 : Int32) (x3 : Int32) (x4 : Bool) (s0 : Bool) (h : zx_H) : Option (Int64 × zx_H) :=
  (if x3 ≤ (zx_b s0) then (zs_Converter_number_J55 x1 x2 x3 x4 s0 false h) else (zs_Converter_number_J55 x1 x2 x3 x4 s0 true h))
def zs_Converter_number_J30  (x1 : Int32) (x2 : Int32) (x3 : Int32) (s0 : Bool) (h : zx_H) : Option (Int64 × zx_H) :=
  (if s0 = true then (zs_Converter_number_J42 x1 x2 x3 s0 true h) else (zs_Converter_number_J42 x1 x2 x3 s0 false h))
def zs_Converter_number (a1 : Int32) (a2 : Int32) (h : zx_H) : Option (Int64 × zx_H) :=
  ((zs_Store_length a1 h).bind (fun r1 => ((zs_Store_cell a1 (0 : Int32) h).bind (fun r2 => (if r2 = (45 : Int64) then (zs_Converter_number_J30 a1 a2 r1 true h) else (zs_Converter_number_J30 a1 a2 r1 false h))))))
def zs_Converter_plain_J79  (x5 : Int32) (s1 : Bool) (h : zx_H) : Option (Int64 × zx_H) :=
  (zx_bnd (zx_sI h 23 0 2 (zx_b s1)) (fun h1 => ((zs_Store_cell x5 (0 : Int32) h1).bind (fun r2 => (some (r2, h1))))))
def zs_Converter_plain_J74  (x5 : Int32) (h : zx_H) : Option (Int64 × zx_H) :=
  (zs_Converter_plain_J79 x5 true h)
def zs_Converter_plain (a1 : Int32) (a2 : Int64) (a4 : Int32) (h : zx_H) : Option (Int64 × zx_H) :=
  (if a1 = (14 : Int32) then (zx_bnd (a2.toInt32) (fun y4 => (if a4 = (5 : Int32) then ((zs_Converter_isTrue y4 h).bind (fun r5 => (if r5 = true then (some ((1 : Int64), h)) else (some ((0 : Int64), h))))) else (if a4 = (2 : Int32) then (if (h.1 23 0 2) = 0 then ((zs_Store_length y4 h).bind (fun r6 => (if r6 = (1 : Int32) then (zs_Converter_plain_J79 y4 false h) else (zs_Converter_plain_J74 y4 h)))) else (zs_Converter_plain_J74 y4 h)) else ((zs_Converter_number y4 a4 h).bind (fun r7 => (some (r7.1, r7.2)))))))) else ((zs_Basics_kindOf a1 h).bind (fun r1 => ((zs_Converter_unboxed a1 a2 h).bind (fun r2 => ((zs_Basics_cast r1 a4 r2 h).bind (fun r3 => (some (r3, h)))))))))
def zs_Converter_boxed (a1 : Int32) (a2 : Int64) (h : zx_H) : Option (Int64 × zx_H) :=
  ((zs_Basics_isPrimitive a1 h).bind (fun r1 => (if r1 = true then (some (a2, h)) else ((zs_Converter_created a1 h).bind (fun r2 => ((zs_Store_append r2.1 a2 r2.2).bind (fun r3 => (some ((r2.1.toInt64), r3.2)))))))))
def zs_Converter_byTable (a1 : Int32) (a2 : Int32) (a3 : Int64) (h : zx_H) : Option (Int64 × zx_H) :=
  ((zs_Basics_isNull a1 a3 h).bind (fun r1 => (if r1 = true then ((zs_Basics_emptyOf a2 h).bind (fun r2 => (some (r2, h)))) else (if a2 = (14 : Int32) then ((zs_Converter_created (14 : Int32) h).bind (fun r3 => ((zs_Types_isEnum a1 r3.2).bind (fun r4 => (if r4 = true then ((zs_Types_nameAt a1 (a3.toInt32) r3.2).bind (fun r5 => ((zs_Converter_writeNumber r3.1 (110 : Int32) (r5.toInt64) r3.2).bind (fun r6 => (some ((r3.1.toInt64), r6)))))) else ((zs_Basics_kindOf a1 r3.2).bind (fun r7 => ((zs_Converter_unboxed a1 a3 r3.2).bind (fun r8 => ((zs_Converter_writePlain r3.1 r7 r8 r3.2).bind (fun r9 => (some ((r3.1.toInt64), r9))))))))))))) else ((zs_Types_isEnum a2 h).bind (fun r10 => (if r10 = true then ((zs_Converter_constantOf a2 (a3.toInt32) h).bind (fun r11 => (some (r11.1, r11.2)))) else ((zs_Basics_kindOf a2 h).bind (fun r12 => ((zs_Converter_plain a1 a3 r12 h).bind (fun r13 => ((zs_Converter_boxed a2 r13.1 r13.2).bind (fun r14 => (some (r14.1, r14.2)))))))))))))))
def zs_Converter_byFunction (a1 : Fin 8) (a2 : Int32) (a3 : Int64) (h : zx_H) : Option (Int64 × zx_H) :=
  ((zs_Basics_isNull a2 a3 h).bind (fun r1 => (if r1 = true then ((zs_Basics_emptyOf (h.1 53 a1.val 1) h).bind (fun r2 => (some (r2, h)))) else ((zs_Basics_kindOf (h.1 53 a1.val 0) h).bind (fun r3 => ((zs_Converter_plain a2 a3 r3 h).bind (fun r4 => ((zs_Basics_kindOf (r4.2.1 53 a1.val 1) r4.2).bind (fun r5 => ((zs_Basics_cast (4 : Int32) r5 ((r4.1 * ((r4.2.1 53 a1.val 2).toInt64)) + ((r4.2.1 53 a1.val 3).toInt64)) r4.2).bind (fun r6 => ((zs_Converter_boxed (r4.2.1 53 a1.val 1) r6 r4.2).bind (fun r7 => (some (r7.1, r7.2)))))))))))))))
def zs_Mapper_hasFailed  (h : zx_H) : Option Bool :=
  ((zx_asB (h.1 23 0 2)).bind (fun b1 => (some b1)))
def zs_Arrays_fill_L5_body  (k5 : (Int32 → Int32 → Int32 → zx_H → Option zx_H)) (x1 : Int32) (x2 : Int32) (x3 : Int32) (h : zx_H) : Option zx_H :=
  (if x3 ≤ x2 then (some h) else (if zx_in x2 6400 = true then (zx_bnd (zx_sI h 18 0 x2.toNatClampNeg x1) (fun h1 => (k5 x1 (x2 + (1 : Int32)) x3 h1))) else none))
def zs_Arrays_fill_L5  : (Int32 → Int32 → Int32 → zx_H → Option zx_H) := zx_loop (fun _ _ _ _ => none) (zs_Arrays_fill_L5_body ) zx_fuel
def zs_Arrays_fill (a1 : Int32) (h : zx_H) : Option zx_H :=
  (zs_Arrays_fill_L5 a1 (0 : Int32) (6400 : Int32) h)
def zs_Model_hasMethod_J20 (h : zx_H)   : Option Bool :=
  (some false)
def zs_Model_hasMethod (a1 : Int64) (h : zx_H) : Option Bool :=
  (if a1 < (0 : Int64) then (zs_Model_hasMethod_J20 h) else (if ((h.1 11 0 3).toInt64) ≤ a1 then (zs_Model_hasMethod_J20 h) else (some true)))
def zs_Store_createBean_L18_body  (k18 : (Int32 → Int32 → Int32 → Int32 → zx_H → Option (Int32 × zx_H))) (x1 : Int32) (x2 : Int32) (x3 : Int32) (x4 : Int32) (h : zx_H) : Option (Int32 × zx_H) :=
  (if x3 ≤ x4 then (some (x2, h)) else ((zs_Types_typeAt x1 x4 h).bind (fun r1 => ((zs_Basics_emptyOf r1 h).bind (fun r2 => ((zs_Store_append x2 r2 h).bind (fun r3 => (k18 x1 x2 x3 (x4 + (1 : Int32)) r3.2))))))))
def zs_Store_createBean_L18  : (Int32 → Int32 → Int32 → Int32 → zx_H → Option (Int32 × zx_H)) := zx_loop (fun _ _ _ _ _ => none) (zs_Store_createBean_L18_body ) zx_fuel
def zs_Store_createBean (a1 : Int32) (h : zx_H) : Option (Int32 × zx_H) :=
  ((zs_Store_create a1 h).bind (fun r1 => ((zs_Types_memberCount a1 r1.2).bind (fun r2 => (zs_Store_createBean_L18 a1 r1.1 r2 (0 : Int32) r1.2)))))
def zs_Mapper_begin_J17   (h : zx_H) : Option zx_H :=
  (zx_bnd (zx_sI h 23 0 2 (1 : Int32)) (fun h1 => (some h1)))
def zs_Mapper_begin (a1 : Int32) (a2 : Int32) (a3 : Int32) (h : zx_H) : Option zx_H :=
  (if (h.1 17 0 10) < 0 then (zs_Mapper_begin_J17 h) else (if (h.1 17 0 10) < (400 : Int32) then (if zx_in (h.1 17 0 10) 400 = true then (zx_bnd (zx_sI h 22 0 (h.1 17 0 10).toNatClampNeg a1) (fun h1 => (if zx_in (h1.1 17 0 10) 400 = true then (zx_bnd (zx_sI h1 19 0 (h1.1 17 0 10).toNatClampNeg a2) (fun h2 => (if zx_in (h2.1 17 0 10) 400 = true then (zx_bnd (zx_sI h2 20 0 (h2.1 17 0 10).toNatClampNeg a3) (fun h3 => (if zx_in (h3.1 17 0 10) 400 = true then (zx_bnd (zx_sI h3 21 0 (h3.1 17 0 10).toNatClampNeg (0 : Int32)) (fun h4 => (zx_bnd (zx_sI h4 17 0 10 ((h4.1 17 0 10) + (1 : Int32))) (fun h5 => (some h5))))) else none))) else none))) else none))) else none) else (zs_Mapper_begin_J17 h)))
def zs_Mapper_beanOf_J63  (x1 : Int32) (x2 : Fin 16) (x3 : Int64) (x5 : Int32) (h : zx_H) : Option (Int64 × zx_H) :=
  ((zs_Store_createBean (h.1 54 x2.val 1) h).bind (fun r1 => (if r1.1 = (-1 : Int32) then (zx_bnd (zx_sI r1.2 23 0 2 (1 : Int32)) (fun h2 => (some ((-1 : Int64), h2)))) else (if x3 < (0 : Int64) then (some ((r1.1.toInt64), r1.2)) else (if (400 : Int64) ≤ x3 then (some ((r1.1.toInt64), r1.2)) else (if zx_in x5 6400 = true then (zx_bnd (zx_sI r1.2 18 0 x5.toNatClampNeg r1.1) (fun h3 => ((zs_Mapper_begin x1 (x3.toInt32) r1.1 h3).bind (fun r4 => (some ((r1.1.toInt64), r4)))))) else none))))))
def zs_Mapper_beanOf_J19  (x1 : Int32) (x2 : Fin 16) (x3 : Int64) (h : zx_H) : Option (Int64 × zx_H) :=
  (zx_bnd ((x1 * (400 : Int32)) + (x3.toInt32)) (fun y1 => (if x3 < (0 : Int64) then (zs_Mapper_beanOf_J63 x1 x2 x3 y1 h) else (if (400 : Int64) ≤ x3 then (zs_Mapper_beanOf_J63 x1 x2 x3 y1 h) else (if zx_in y1 6400 = true then (if (h.1 18 0 y1.toNatClampNeg) = (-1 : Int32) then (zs_Mapper_beanOf_J63 x1 x2 x3 y1 h) else (if zx_in y1 6400 = true then (some (((h.1 18 0 y1.toNatClampNeg).toInt64), h)) else none)) else none)))))
def zs_Mapper_beanOf (a1 : Int32) (a2 : Fin 16) (a3 : Int64) (h : zx_H) : Option (Int64 × zx_H) :=
  (if a3 = (-1 : Int64) then (if (h.1 54 a2.val 7) = 0 then (some ((-1 : Int64), h)) else (zs_Mapper_beanOf_J19 a1 a2 a3 h)) else (zs_Mapper_beanOf_J19 a1 a2 a3 h))
def zs_Mapper_constantOf (a1 : Fin 16) (a2 : Int64) (h : zx_H) : Option (Int64 × zx_H) :=
  (if a2 < (0 : Int64) then (some ((-1 : Int64), h)) else (if a2 < (8 : Int64) then (if zx_in (a2.toInt32) 8 = true then (zx_bnd (h.1 59 a1.val (a2.toInt32).toNatClampNeg) (fun y1 => (if y1 = (-2 : Int32) then (zx_bnd (zx_sI h 23 0 2 (1 : Int32)) (fun h2 => (some ((y1.toInt64), h2)))) else (some ((y1.toInt64), h))))) else none) else (some ((-1 : Int64), h))))
def zs_Mapper_byMethod (a1 : Int32) (a2 : Int64) (h : zx_H) : Option (Int64 × zx_H) :=
  ((zs_Model_hasMethod (a1.toInt64) h).bind (fun r1 => (if r1 = true then ((zx_fin 16 a1).bind (fun j2 => ((zs_Types_isBean (h.1 54 j2.val 1) h).bind (fun r3 => (if r3 = true then ((zs_Mapper_beanOf a1 j2 a2 h).bind (fun r4 => (some (r4.1, r4.2)))) else ((zs_Mapper_constantOf j2 a2 h).bind (fun r5 => (some (r5.1, r5.2))))))))) else (some ((-1 : Int64), h)))))
def zs_Types_exists_J16 (h : zx_H)   : Option Bool :=
  (some false)
def zs_Types_exists (a1 : Int32) (h : zx_H) : Option Bool :=
  (if a1 < 0 then (zs_Types_exists_J16 h) else (if (h.1 1 0 5) ≤ a1 then (zs_Types_exists_J16 h) else (some true)))
def zs_Ways_known_J36 (h : zx_H)   : Option Int32 :=
  (some (-1 : Int32))
def zs_Ways_known (a1 : Int32) (a2 : Int32) (h : zx_H) : Option Int32 :=
  ((zs_Types_exists a1 h).bind (fun r1 => (if r1 = true then ((zs_Types_exists a2 h).bind (fun r2 => (if r2 = true then (if zx_in ((a1 * (40 : Int32)) + a2) 1600 = true then (some (h.1 15 0 ((a1 * (40 : Int32)) + a2).toNatClampNeg)) else none) else (zs_Ways_known_J36 h)))) else (zs_Ways_known_J36 h))))
def zs_Mapper_beginList (a1 : Int32) (a2 : Int64) (h : zx_H) : Option (Int64 × zx_H) :=
  (if a2 = (-1 : Int64) then (some ((-1 : Int64), h)) else ((zs_Converter_created a1 h).bind (fun r1 => (if r1.1 = (-1 : Int32) then (some ((r1.1.toInt64), r1.2)) else ((zs_Mapper_begin (-1 : Int32) (a2.toInt32) r1.1 r1.2).bind (fun r2 => (some ((r1.1.toInt64), r2))))))))
def zs_Mapper_become (a1 : Int32) (a2 : Int32) (a3 : Int32) (a4 : Int64) (h : zx_H) : Option (Int64 × zx_H) :=
  (if 0 ≤ a1 then (zx_bnd (a1 - a1 / (16 : Int32) * (16 : Int32)) (fun y2 => (zx_chain (a1 / (16 : Int32)) [((1 : Int32), (if (8 : Int32) ≤ y2 then (some ((-1 : Int64), h)) else ((zx_fin 8 y2).bind (fun j3 => ((zs_Converter_byFunction j3 a2 a4 h).bind (fun r4 => (some (r4.1, r4.2)))))))), ((2 : Int32), ((zs_Mapper_byMethod y2 a4 h).bind (fun r5 => (some (r5.1, r5.2))))), ((3 : Int32), ((zs_Converter_byTable a2 a3 a4 h).bind (fun r6 => (some (r6.1, r6.2))))), ((4 : Int32), ((zs_Mapper_beginList a3 a4 h).bind (fun r7 => (some (r7.1, r7.2)))))] (some (a4, h))))) else (zx_bnd (zx_sI h 23 0 2 (1 : Int32)) (fun h1 => (some ((-1 : Int64), h1)))))
def zs_Mapper_fillList (a1 : Int32) (a2 : Int32) (a3 : Int32) (h : zx_H) : Option zx_H :=
  ((zs_Store_typeOf a1 h).bind (fun r1 => ((zs_Types_element r1 h).bind (fun r2 => ((zs_Store_typeOf a2 h).bind (fun r3 => ((zs_Types_element r3 h).bind (fun r4 => ((zs_Ways_known r2 r4 h).bind (fun r5 => ((zs_Store_cell a1 a3 h).bind (fun r6 => ((zs_Mapper_become r5 r2 r4 r6 h).bind (fun r7 => ((zs_Store_append a2 r7.1 r7.2).bind (fun r8 => (some r8.2)))))))))))))))))
def zs_Mapper_fillProperty_J231  (x3 : Int32) (x4 : Int32) (x5 : Fin 129) (x6 : Int32) (h : zx_H) : Option zx_H :=
  ((zs_Mapper_become (h.1 60 x5.val 8) (4 : Int32) x6 (h.2 60 x5.val 7) h).bind (fun r1 => ((zs_Store_set x3 x4 r1.1 r1.2).bind (fun r2 => (some r2.2)))))
def zs_Mapper_fillProperty_J262  (x3 : Int32) (x4 : Int32) (x5 : Fin 129) (x6 : Int32) (x10 : Bool) (x11 : Int64) (h : zx_H) : Option zx_H :=
  (if x10 = true then (some h) else ((zs_Mapper_become (h.1 60 x5.val 5) (h.1 60 x5.val 4) x6 x11 h).bind (fun r1 => ((zs_Store_set x3 x4 r1.1 r1.2).bind (fun r2 => (some r2.2))))))
def zs_Mapper_fillProperty_J203  (x3 : Int32) (x4 : Int32) (x5 : Fin 129) (x6 : Int32) (x10 : Bool) (s0 : Int64) (h : zx_H) : Option zx_H :=
  (if (h.1 60 x5.val 6) = 0 then (zs_Mapper_fillProperty_J262 x3 x4 x5 x6 x10 s0 h) else (if x10 = true then (zs_Mapper_fillProperty_J231 x3 x4 x5 x6 h) else ((zs_Basics_isNull (h.1 60 x5.val 4) s0 h).bind (fun r1 => (if r1 = true then (zs_Mapper_fillProperty_J231 x3 x4 x5 x6 h) else (zs_Mapper_fillProperty_J262 x3 x4 x5 x6 x10 s0 h))))))
def zs_Mapper_fillProperty_J172  (x3 : Int32) (x4 : Int32) (x5 : Fin 129) (x6 : Int32) (x7 : Int64) (x9 : Int32) (s0 : Bool) (h : zx_H) : Option zx_H :=
  (if s0 = true then (zs_Mapper_fillProperty_J203 x3 x4 x5 x6 s0 (-1 : Int64) h) else (if zx_in x9 3 = true then ((zs_Store_cell (x7.toInt32) (h.1 61 x5.val x9.toNatClampNeg) h).bind (fun r1 => (zs_Mapper_fillProperty_J203 x3 x4 x5 x6 s0 r1 h))) else none))
def zs_Mapper_fillProperty_J167  (x3 : Int32) (x4 : Int32) (x5 : Fin 129) (x6 : Int32) (x7 : Int64) (x9 : Int32) (h : zx_H) : Option zx_H :=
  (zs_Mapper_fillProperty_J172 x3 x4 x5 x6 x7 x9 true h)
def zs_Mapper_fillProperty_J147  (x3 : Int32) (x4 : Int32) (x5 : Fin 129) (x6 : Int32) (x7 : Int64) (x9 : Int32) (h : zx_H) : Option zx_H :=
  (if x7 = (-1 : Int64) then (zs_Mapper_fillProperty_J167 x3 x4 x5 x6 x7 x9 h) else (if x9 < 0 then (zs_Mapper_fillProperty_J167 x3 x4 x5 x6 x7 x9 h) else (if x9 < (3 : Int32) then (zs_Mapper_fillProperty_J172 x3 x4 x5 x6 x7 x9 false h) else (zs_Mapper_fillProperty_J167 x3 x4 x5 x6 x7 x9 h))))
def zs_Mapper_fillProperty_L99_body  (k99 : (Int32 → Int32 → Fin 129 → Int32 → Int64 → Int32 → Int32 → zx_H → Option zx_H)) (x3 : Int32) (x4 : Int32) (x5 : Fin 129) (x6 : Int32) (x7 : Int64) (x9 : Int32) (x10 : Int32) (h : zx_H) : Option zx_H :=
  (if x9 ≤ x10 then (zs_Mapper_fillProperty_J147 x3 x4 x5 x6 x7 x9 h) else (if (3 : Int32) ≤ x10 then (zs_Mapper_fillProperty_J147 x3 x4 x5 x6 x7 x9 h) else (if x7 = (-1 : Int64) then (zs_Mapper_fillProperty_J147 x3 x4 x5 x6 x7 x9 h) else (if zx_in x10 3 = true then ((zs_Store_cell (x7.toInt32) (h.1 61 x5.val x10.toNatClampNeg) h).bind (fun r1 => (k99 x3 x4 x5 x6 r1 x9 (x10 + (1 : Int32)) h))) else none))))
def zs_Mapper_fillProperty_L99  : (Int32 → Int32 → Fin 129 → Int32 → Int64 → Int32 → Int32 → zx_H → Option zx_H) := zx_loop (fun _ _ _ _ _ _ _ _ => none) (zs_Mapper_fillProperty_L99_body ) zx_fuel
def zs_Mapper_fillProperty_J74  (x2 : Int32) (x3 : Int32) (x4 : Int32) (x5 : Fin 129) (x6 : Int32) (h : zx_H) : Option zx_H :=
  (if (h.1 60 x5.val 0) = 0 then (zx_bnd (x2.toInt64) (fun y1 => (zx_bnd ((h.1 60 x5.val 2) - (1 : Int32)) (fun y2 => (zs_Mapper_fillProperty_L99 x3 x4 x5 x6 y1 y2 (0 : Int32) h))))) else (some h))
def zs_Mapper_fillProperty (a1 : Fin 16) (a2 : Int32) (a3 : Int32) (a4 : Int32) (h : zx_H) : Option zx_H :=
  (if a4 < 0 then (some h) else (if a4 < (8 : Int32) then ((zx_fin 8 a4).bind (fun j1 => ((zs_Types_typeAt (h.1 54 a1.val 1) a4 h).bind (fun r2 => (if (h.1 60 (zx_pp a1 j1).val 0) = (1 : Int32) then ((zs_Mapper_become (h.1 60 (zx_pp a1 j1).val 5) (4 : Int32) r2 (h.2 60 (zx_pp a1 j1).val 1) h).bind (fun r3 => ((zs_Store_set a3 a4 r3.1 r3.2).bind (fun r4 => (zs_Mapper_fillProperty_J74 a2 a3 a4 (zx_pp a1 j1) r2 r4.2))))) else (zs_Mapper_fillProperty_J74 a2 a3 a4 (zx_pp a1 j1) r2 h)))))) else (some h)))
def zs_Mapper_run_J227 (k32 : (Int64 → Int32 → zx_H → Option (Int64 × zx_H))) (x4 : Int64) (x6 : Int32) (h : zx_H) : Option (Int64 × zx_H) :=
  (k32 x4 (x6 + (1 : Int32)) h)
def zs_Mapper_run_J145 (k32 : (Int64 → Int32 → zx_H → Option (Int64 × zx_H))) (x4 : Int64) (x6 : Int32) (h : zx_H) : Option (Int64 × zx_H) :=
  (zx_bnd (zx_sI h 17 0 10 ((h.1 17 0 10) - (1 : Int32))) (fun h1 => (zs_Mapper_run_J227 k32 x4 x6 h1)))
def zs_Mapper_run_J158 (k32 : (Int64 → Int32 → zx_H → Option (Int64 × zx_H))) (x4 : Int64) (x6 : Int32) (x7 : Int32) (x8 : Int32) (h : zx_H) : Option (Int64 × zx_H) :=
  (if zx_in x7 400 = true then (if (h.1 22 0 x7.toNatClampNeg) = (-1 : Int32) then (if zx_in x7 400 = true then (if zx_in x7 400 = true then ((zs_Mapper_fillList (h.1 19 0 x7.toNatClampNeg) (h.1 20 0 x7.toNatClampNeg) x8 h).bind (fun r1 => (zs_Mapper_run_J227 k32 x4 x6 r1))) else none) else none) else (if zx_in x7 400 = true then ((zx_fin 16 (h.1 22 0 x7.toNatClampNeg)).bind (fun j2 => (if zx_in x7 400 = true then (if zx_in x7 400 = true then ((zs_Mapper_fillProperty j2 (h.1 19 0 x7.toNatClampNeg) (h.1 20 0 x7.toNatClampNeg) x8 h).bind (fun r3 => (zs_Mapper_run_J227 k32 x4 x6 r3))) else none) else none))) else none)) else none)
def zs_Mapper_run_J115 (k32 : (Int64 → Int32 → zx_H → Option (Int64 × zx_H))) (x4 : Int64) (x6 : Int32) (x7 : Int32) (x8 : Int32) (h : zx_H) : Option (Int64 × zx_H) :=
  (if zx_in x7 400 = true then ((zs_Store_length (h.1 19 0 x7.toNatClampNeg) h).bind (fun r1 => (if x8 < r1 then (zs_Mapper_run_J158 k32 x4 x6 x7 x8 h) else (if zx_in x7 400 = true then (if (h.1 22 0 x7.toNatClampNeg) = (-1 : Int32) then (zs_Mapper_run_J145 k32 x4 x6 h) else (zs_Mapper_run_J158 k32 x4 x6 x7 x8 h)) else none)))) else none)
def zs_Mapper_run_L32_body  (k32 : (Int64 → Int32 → zx_H → Option (Int64 × zx_H))) (x4 : Int64) (x6 : Int32) (h : zx_H) : Option (Int64 × zx_H) :=
  (if (6800 : Int32) ≤ x6 then (some (x4, h)) else (if (h.1 17 0 10) ≤ 0 then (some (x4, h)) else (if (h.1 23 0 2) = 0 then (zx_bnd ((h.1 17 0 10) - (1 : Int32)) (fun y1 => (if zx_in y1 400 = true then (zx_bnd (h.1 21 0 y1.toNatClampNeg) (fun y2 => (if zx_in y1 400 = true then (if zx_in y1 400 = true then (zx_bnd (zx_sI h 21 0 y1.toNatClampNeg ((h.1 21 0 y1.toNatClampNeg) + (1 : Int32))) (fun h3 => (if zx_in y1 400 = true then ((zs_Store_length (h3.1 20 0 y1.toNatClampNeg) h3).bind (fun r4 => (if y2 < r4 then (zs_Mapper_run_J115 k32 x4 x6 y1 y2 h3) else (if zx_in y1 400 = true then (if (h3.1 22 0 y1.toNatClampNeg) = (-1 : Int32) then (zs_Mapper_run_J115 k32 x4 x6 y1 y2 h3) else (zs_Mapper_run_J145 k32 x4 x6 h3)) else none)))) else none))) else none) else none))) else none))) else (some (x4, h)))))
def zs_Mapper_run_L32  : (Int64 → Int32 → zx_H → Option (Int64 × zx_H)) := zx_loop (fun _ _ _ => none) (zs_Mapper_run_L32_body ) zx_fuel
def zs_Mapper_run (a1 : Int32) (a2 : Int64) (h : zx_H) : Option (Int64 × zx_H) :=
  (zx_bnd (zx_sI h 23 0 2 (0 : Int32)) (fun h1 => (zx_bnd (zx_sI h1 17 0 10 (0 : Int32)) (fun h2 => ((zs_Arrays_fill (-1 : Int32) h2).bind (fun r3 => ((zs_Mapper_byMethod a1 a2 r3).bind (fun r4 => (zs_Mapper_run_L32 r4.1 (0 : Int32) r4.2)))))))))
def zs_Method_tell (th : Fin 16) (a1 : Int32) (a2 : Int32) (a3 : Int64) (h : zx_H) : Option zx_H :=
  (if (h.1 54 th.val 2) < (24 : Int32) then (if zx_in (h.1 54 th.val 2) 24 = true then (zx_bnd (zx_sI h 55 th.val (h.1 54 th.val 2).toNatClampNeg a1) (fun h1 => (if zx_in (h1.1 54 th.val 2) 24 = true then (zx_bnd (zx_sI h1 56 th.val (h1.1 54 th.val 2).toNatClampNeg a2) (fun h2 => (if zx_in (h2.1 54 th.val 2) 24 = true then (zx_bnd (zx_sJ h2 57 th.val (h2.1 54 th.val 2).toNatClampNeg a3) (fun h3 => (zx_bnd (zx_sI h3 54 th.val 2 ((h3.1 54 th.val 2) + (1 : Int32))) (fun h4 => (some h4))))) else none))) else none))) else none) else (some h))
def zs_Method_latest_L7_body (h : zx_H)  (k7 : (Fin 16 → Int32 → Int32 → Option Int32)) (x0 : Fin 16) (x1 : Int32) (x2 : Int32) : Option Int32 :=
  (if x2 < 0 then (some (-1 : Int32)) else (if zx_in x2 24 = true then (if (h.1 55 x0.val x2.toNatClampNeg) = x1 then (some x2) else (k7 x0 x1 (x2 + (-1 : Int32)))) else none))
def zs_Method_latest_L7 (h : zx_H)  : (Fin 16 → Int32 → Int32 → Option Int32) := zx_loop (fun _ _ _ => none) (zs_Method_latest_L7_body h ) zx_fuel
def zs_Method_latest (th : Fin 16) (a1 : Int32) (h : zx_H) : Option Int32 :=
  (zx_bnd ((h.1 54 th.val 2) - (1 : Int32)) (fun y1 => (zs_Method_latest_L7 h th a1 y1)))
def zs_Method_first_J32 (h : zx_H) (k2 : (Fin 16 → Int32 → Int32 → Int32 → Option Int32)) (x0 : Fin 16) (x1 : Int32) (x2 : Int32) (x3 : Int32) : Option Int32 :=
  (k2 x0 x1 x2 (x3 + (1 : Int32)))
def zs_Method_first_L2_body (h : zx_H)  (k2 : (Fin 16 → Int32 → Int32 → Int32 → Option Int32)) (x0 : Fin 16) (x1 : Int32) (x2 : Int32) (x3 : Int32) : Option Int32 :=
  (if (h.1 54 x0.val 2) ≤ x3 then (some (-1 : Int32)) else (if zx_in x3 24 = true then (if (h.1 55 x0.val x3.toNatClampNeg) = x1 then (if zx_in x3 24 = true then (if (h.1 56 x0.val x3.toNatClampNeg) = x2 then (some x3) else (zs_Method_first_J32 h k2 x0 x1 x2 x3)) else none) else (zs_Method_first_J32 h k2 x0 x1 x2 x3)) else none))
def zs_Method_first_L2 (h : zx_H)  : (Fin 16 → Int32 → Int32 → Int32 → Option Int32) := zx_loop (fun _ _ _ _ => none) (zs_Method_first_L2_body h ) zx_fuel
def zs_Method_first (th : Fin 16) (a1 : Int32) (a2 : Int32) (h : zx_H) : Option Int32 :=
  (zs_Method_first_L2 h th a1 a2 (0 : Int32))
def zs_Method_repeats_J69 (h : zx_H) (k2 : (Fin 16 → Int32 → Int32 → Option Bool)) (x0 : Fin 16) (x1 : Int32) (x2 : Int32) : Option Bool :=
  (k2 x0 x1 (x2 + (1 : Int32)))
def zs_Method_repeats_J47 (h : zx_H) (k2 : (Fin 16 → Int32 → Int32 → Option Bool)) (x0 : Fin 16) (x1 : Int32) (x2 : Int32) (s0 : Bool) : Option Bool :=
  (if s0 = true then (if zx_in x2 24 = true then (if zx_in x1 24 = true then (if (h.1 56 x0.val x2.toNatClampNeg) = (h.1 56 x0.val x1.toNatClampNeg) then (some true) else (zs_Method_repeats_J69 h k2 x0 x1 x2)) else none) else none) else (zs_Method_repeats_J69 h k2 x0 x1 x2))
def zs_Method_repeats_J42 (h : zx_H) (k2 : (Fin 16 → Int32 → Int32 → Option Bool)) (x0 : Fin 16) (x1 : Int32) (x2 : Int32) : Option Bool :=
  (zs_Method_repeats_J47 h k2 x0 x1 x2 true)
def zs_Method_repeats_J46 (h : zx_H) (k2 : (Fin 16 → Int32 → Int32 → Option Bool)) (x0 : Fin 16) (x1 : Int32) (x2 : Int32) : Option Bool :=
  (zs_Method_repeats_J47 h k2 x0 x1 x2 false)
def zs_Method_repeats_L2_body (h : zx_H)  (k2 : (Fin 16 → Int32 → Int32 → Option Bool)) (x0 : Fin 16) (x1 : Int32) (x2 : Int32) : Option Bool :=
  (if x1 ≤ x2 then (some false) else (if zx_in x2 24 = true then (if zx_in x1 24 = true then (if (h.1 55 x0.val x2.toNatClampNeg) = (h.1 55 x0.val x1.toNatClampNeg) then (zs_Method_repeats_J42 h k2 x0 x1 x2) else (if zx_in x2 24 = true then (if (2 : Int32) < (h.1 55 x0.val x2.toNatClampNeg) then (zs_Method_repeats_J46 h k2 x0 x1 x2) else (if zx_in x1 24 = true then (if (2 : Int32) < (h.1 55 x0.val x1.toNatClampNeg) then (zs_Method_repeats_J46 h k2 x0 x1 x2) else (zs_Method_repeats_J42 h k2 x0 x1 x2)) else none)) else none)) else none) else none))
def zs_Method_repeats_L2 (h : zx_H)  : (Fin 16 → Int32 → Int32 → Option Bool) := zx_loop (fun _ _ _ => none) (zs_Method_repeats_L2_body h ) zx_fuel
def zs_Method_repeats (th : Fin 16) (a1 : Int32) (h : zx_H) : Option Bool :=
  (zs_Method_repeats_L2 h th a1 (0 : Int32))
def zs_Model_hasFunction_J20 (h : zx_H)   : Option Bool :=
  (some false)
def zs_Model_hasFunction (a1 : Int64) (h : zx_H) : Option Bool :=
  (if a1 < (0 : Int64) then (zs_Model_hasFunction_J20 h) else (if ((h.1 11 0 2).toInt64) ≤ a1 then (zs_Model_hasFunction_J20 h) else (some true)))
def zs_Model_addMethod (a1 : Int32) (a2 : Int32) (h : zx_H) : Option (Int32 × zx_H) :=
  (if (h.1 11 0 3) < (16 : Int32) then (zx_bnd (h.1 11 0 3) (fun y1 => (zx_bnd (zx_sI h 11 0 3 ((h.1 11 0 3) + (1 : Int32))) (fun h2 => ((zx_fin 16 y1).bind (fun j3 => (zx_bnd (zx_sI h2 54 j3.val 0 a1) (fun h4 => ((zx_fin 16 y1).bind (fun j5 => (zx_bnd (zx_sI h4 54 j5.val 1 a2) (fun h6 => (some (y1, h6)))))))))))))) else (some ((-1 : Int32), h)))
def zs_Model_addFunction (a1 : Int32) (a2 : Int32) (a3 : Int32) (a4 : Int32) (h : zx_H) : Option (Int32 × zx_H) :=
  (if (h.1 11 0 2) < (8 : Int32) then (zx_bnd (h.1 11 0 2) (fun y1 => (zx_bnd (zx_sI h 11 0 2 ((h.1 11 0 2) + (1 : Int32))) (fun h2 => ((zx_fin 8 y1).bind (fun j3 => (zx_bnd (zx_sI h2 53 j3.val 0 a1) (fun h4 => (zx_bnd (zx_sI h4 53 j3.val 1 a2) (fun h5 => (zx_bnd (zx_sI h5 53 j3.val 2 a3) (fun h6 => (zx_bnd (zx_sI h6 53 j3.val 3 a4) (fun h7 => (some (y1, h7)))))))))))))))) else (some ((-1 : Int32), h)))
def zs_Model_nameFunctions_J92 (k28 : (Int32 → zx_H → Option zx_H)) (k45 : (Int32 → Fin 16 → Int32 → zx_H → Option zx_H)) (x1 : Int32) (x2 : Fin 16) (x3 : Int32) (h : zx_H) : Option zx_H :=
  (k45 x1 x2 (x3 + (1 : Int32)) h)
def zs_Model_nameFunctions_L45_body (k28 : (Int32 → zx_H → Option zx_H)) (k45 : (Int32 → Fin 16 → Int32 → zx_H → Option zx_H)) (x1 : Int32) (x2 : Fin 16) (x3 : Int32) (h : zx_H) : Option zx_H :=
  (if (h.1 54 x2.val 2) ≤ x3 then (k28 (x1 + (1 : Int32)) h) else (if zx_in x3 24 = true then (if (h.1 55 x2.val x3.toNatClampNeg) = (4 : Int32) then (if zx_in x3 24 = true then ((zs_Model_hasFunction (h.2 57 x2.val x3.toNatClampNeg) h).bind (fun r1 => (if r1 = true then (if zx_in x3 24 = true then ((zx_fin 8 ((h.2 57 x2.val x3.toNatClampNeg).toInt32)).bind (fun j2 => (zx_bnd (zx_sI h 53 j2.val 4 (1 : Int32)) (fun h3 => (zs_Model_nameFunctions_J92 k28 k45 x1 x2 x3 h3))))) else none) else (zs_Model_nameFunctions_J92 k28 k45 x1 x2 x3 h)))) else none) else (zs_Model_nameFunctions_J92 k28 k45 x1 x2 x3 h)) else none))
def zs_Model_nameFunctions_L45 (k28 : (Int32 → zx_H → Option zx_H)) : (Int32 → Fin 16 → Int32 → zx_H → Option zx_H) := zx_loop (fun _ _ _ _ => none) (zs_Model_nameFunctions_L45_body k28) zx_fuel
def zs_Model_nameFunctions_L28_body  (k28 : (Int32 → zx_H → Option zx_H)) (x1 : Int32) (h : zx_H) : Option zx_H :=
  (if (h.1 11 0 3) ≤ x1 then (some h) else ((zx_fin 16 x1).bind (fun j1 => (zs_Model_nameFunctions_L45 k28 x1 j1 (0 : Int32) h))))
def zs_Model_nameFunctions_L28  : (Int32 → zx_H → Option zx_H) := zx_loop (fun _ _ => none) (zs_Model_nameFunctions_L28_body ) zx_fuel
def zs_Model_nameFunctions_L2_body  (k2 : (Int32 → zx_H → Option zx_H)) (x1 : Int32) (h : zx_H) : Option zx_H :=
  (if (h.1 11 0 2) ≤ x1 then (zs_Model_nameFunctions_L28 (0 : Int32) h) else ((zx_fin 8 x1).bind (fun j1 => (zx_bnd (zx_sI h 53 j1.val 4 (0 : Int32)) (fun h2 => (k2 (x1 + (1 : Int32)) h2))))))
def zs_Model_nameFunctions_L2  : (Int32 → zx_H → Option zx_H) := zx_loop (fun _ _ => none) (zs_Model_nameFunctions_L2_body ) zx_fuel
def zs_Model_nameFunctions  (h : zx_H) : Option zx_H :=
  (zs_Model_nameFunctions_L2 (0 : Int32) h)
def zs_Types_nameIn (a0 : Int64) (a2 : Int32) (h : zx_H) : Option Int32 :=
  (some (((zx_clushr a0 ((8 : Int32) * a2)).toInt32) &&& (255 : Int32)))
def zs_Types_placeOf_L27_body (h : zx_H)  (k27 : (Int32 → Int64 → Int32 → Int32 → Option Int32)) (x1 : Int32) (x2 : Int64) (x4 : Int32) (x5 : Int32) : Option Int32 :=
  (if x4 ≤ x5 then (some (-1 : Int32)) else (if zx_in ((x1 * (8 : Int32)) + x5) 320 = true then (if ((h.1 5 0 ((x1 * (8 : Int32)) + x5).toNatClampNeg).toInt64) = x2 then (some x5) else (k27 x1 x2 x4 (x5 + (1 : Int32)))) else none))
def zs_Types_placeOf_L27 (h : zx_H)  : (Int32 → Int64 → Int32 → Int32 → Option Int32) := zx_loop (fun _ _ _ _ => none) (zs_Types_placeOf_L27_body h ) zx_fuel
def zs_Types_placeOf_J22 (h : zx_H)  (x1 : Int32) (x2 : Int64) (s0 : Int32) : Option Int32 :=
  (zs_Types_placeOf_L27 h x1 x2 s0 (0 : Int32))
def zs_Types_placeOf_J21 (h : zx_H)  (x1 : Int32) (x2 : Int64) : Option Int32 :=
  (zs_Types_placeOf_J22 h x1 x2 (0 : Int32))
def zs_Types_placeOf (a1 : Int32) (a2 : Int64) (h : zx_H) : Option Int32 :=
  (if a1 < 0 then (zs_Types_placeOf_J21 h a1 a2) else (if (h.1 1 0 5) ≤ a1 then (zs_Types_placeOf_J21 h a1 a2) else (if zx_in a1 40 = true then (zs_Types_placeOf_J22 h a1 a2 (h.1 4 0 a1.toNatClampNeg)) else none)))
def zs_Plan_trace_J57 (k11 : (Fin 129 → Int64 → Int32 → Int32 → zx_H → Option (Bool × zx_H))) (x0 : Fin 129) (x3 : Int64) (x5 : Int32) (x6 : Int32) (s0 : Int32) (h : zx_H) : Option (Bool × zx_H) :=
  (if s0 = (-1 : Int32) then (some (false, h)) else (if zx_in x6 3 = true then (zx_bnd (zx_sI h 61 x0.val x6.toNatClampNeg s0) (fun h1 => (zx_bnd (zx_sI h1 60 x0.val 2 ((h1.1 60 x0.val 2) + (1 : Int32))) (fun h2 => ((zs_Types_typeAt x5 s0 h2).bind (fun r3 => (k11 x0 x3 r3 (x6 + (1 : Int32)) h2))))))) else none))
def zs_Plan_trace_J102  (x0 : Fin 129) (x5 : Int32) (h : zx_H) : Option (Bool × zx_H) :=
  (zx_bnd (zx_sI h 60 x0.val 4 x5) (fun h1 => (if (h1.1 60 x0.val 2) ≤ 0 then (some (false, h1)) else (some (true, h1)))))
def zs_Plan_trace_L11_body  (k11 : (Fin 129 → Int64 → Int32 → Int32 → zx_H → Option (Bool × zx_H))) (x0 : Fin 129) (x3 : Int64) (x5 : Int32) (x6 : Int32) (h : zx_H) : Option (Bool × zx_H) :=
  (if (3 : Int32) ≤ x6 then (zs_Plan_trace_J102 x0 x5 h) else ((zs_Types_nameIn x3 x6 h).bind (fun r1 => (zx_bnd (r1 - (1 : Int32)) (fun y2 => (if 0 ≤ y2 then ((zs_Types_isBean x5 h).bind (fun r3 => (if r3 = true then ((zs_Types_placeOf x5 (y2.toInt64) h).bind (fun r4 => (zs_Plan_trace_J57 k11 x0 x3 x5 x6 r4 h))) else (zs_Plan_trace_J57 k11 x0 x3 x5 x6 (-1 : Int32) h)))) else (zs_Plan_trace_J102 x0 x5 h)))))))
def zs_Plan_trace_L11  : (Fin 129 → Int64 → Int32 → Int32 → zx_H → Option (Bool × zx_H)) := zx_loop (fun _ _ _ _ _ => none) (zs_Plan_trace_L11_body ) zx_fuel
def zs_Plan_trace (th : Fin 129) (a2 : Int32) (a3 : Int64) (h : zx_H) : Option (Bool × zx_H) :=
  (zx_bnd (zx_sI h 60 th.val 2 (0 : Int32)) (fun h1 => (zs_Plan_trace_L11 th a3 a2 (0 : Int32) h1)))
def zs_Planner_planInverse (a1 : Fin 16) (h : zx_H) : Option (Bool × zx_H) :=
  (zx_bnd (zx_sI h 54 a1.val 6 (-1 : Int32)) (fun h1 => ((zs_Method_latest a1 (7 : Int32) h1).bind (fun r2 => (if r2 = (-1 : Int32) then (some (true, h1)) else (if zx_in r2 24 = true then (zx_bnd (h1.2 57 a1.val r2.toNatClampNeg) (fun y3 => ((zs_Model_hasMethod y3 h1).bind (fun r4 => (if r4 = true then ((zx_fin 16 (y3.toInt32)).bind (fun j5 => (if (h1.1 54 j5.val 0) = (h1.1 54 a1.val 1) then (if (h1.1 54 j5.val 1) = (h1.1 54 a1.val 0) then ((zs_Method_latest j5 (7 : Int32) h1).bind (fun r6 => (if r6 = (-1 : Int32) then (zx_bnd (zx_sI h1 54 a1.val 6 (y3.toInt32)) (fun h7 => (some (true, h7)))) else (some (false, h1))))) else (some (false, h1))) else (some (false, h1))))) else (some (false, h1))))))) else none))))))
def zs_Planner_ruleFault_J289  (x8 : Bool) (h : zx_H) : Option (Int32 × zx_H) :=
  (if x8 = true then (some ((0 : Int32), h)) else (some ((4 : Int32), h)))
def zs_Planner_ruleFault_J227  (s0 : Bool) (h : zx_H) : Option (Int32 × zx_H) :=
  (zs_Planner_ruleFault_J289 s0 h)
def zs_Planner_ruleFault_J222   (h : zx_H) : Option (Int32 × zx_H) :=
  (zs_Planner_ruleFault_J227 true h)
def zs_Planner_ruleFault_J277  (s0 : Bool) (h : zx_H) : Option (Int32 × zx_H) :=
  (zs_Planner_ruleFault_J289 s0 h)
def zs_Planner_ruleFault_J272   (h : zx_H) : Option (Int32 × zx_H) :=
  (zs_Planner_ruleFault_J277 true h)
def zs_Planner_ruleFault_J276   (h : zx_H) : Option (Int32 × zx_H) :=
  (zs_Planner_ruleFault_J277 false h)
def zs_Planner_ruleFault_J106  (x1 : Fin 16) (x3 : Int32) (x5 : Int64) (x7 : Bool) (h : zx_H) : Option (Int32 × zx_H) :=
  (zx_chain x3 [((0 : Int32), ((zs_Plan_trace zx_trial (h.1 54 x1.val 0) x5 h).bind (fun r1 => (zs_Planner_ruleFault_J289 r1.1 r1.2)))), ((1 : Int32), (zs_Planner_ruleFault_J289 true h)), ((2 : Int32), (zs_Planner_ruleFault_J289 true h)), ((3 : Int32), (zs_Planner_ruleFault_J289 true h)), ((4 : Int32), ((zs_Model_hasFunction x5 h).bind (fun r2 => (zs_Planner_ruleFault_J289 r2 h)))), ((5 : Int32), (if x5 = (-1 : Int64) then (zs_Planner_ruleFault_J222 h) else ((zs_Types_placeOf (h.1 54 x1.val 1) x5 h).bind (fun r3 => (if r3 = (-1 : Int32) then (zs_Planner_ruleFault_J227 false h) else (zs_Planner_ruleFault_J222 h)))))), ((6 : Int32), (if x7 = true then (zs_Planner_ruleFault_J276 h) else (if x5 = (-1 : Int64) then (zs_Planner_ruleFault_J272 h) else (if x5 = (-2 : Int64) then (zs_Planner_ruleFault_J272 h) else ((zs_Types_placeOf (h.1 54 x1.val 1) x5 h).bind (fun r4 => (if r4 = (-1 : Int32) then (zs_Planner_ruleFault_J276 h) else (zs_Planner_ruleFault_J272 h)))))))), ((7 : Int32), (zs_Planner_ruleFault_J289 true h)), ((8 : Int32), (zs_Planner_ruleFault_J289 x7 h))] (zs_Planner_ruleFault_J289 true h))
def zs_Planner_ruleFault_J79  (x1 : Fin 16) (x3 : Int32) (x4 : Int32) (x5 : Int64) (x7 : Bool) (x8 : Bool) (s0 : Int32) (h : zx_H) : Option (Int32 × zx_H) :=
  (if (zx_b x8) = (zx_b x7) then ((zs_Types_placeOf s0 (x4.toInt64) h).bind (fun r1 => (if r1 = (-1 : Int32) then (some ((3 : Int32), h)) else (zs_Planner_ruleFault_J106 x1 x3 x5 x7 h)))) else (some ((3 : Int32), h)))
def zs_Planner_ruleFault_J61  (x1 : Fin 16) (x3 : Int32) (x4 : Int32) (x5 : Int64) (x7 : Bool) (s0 : Bool) (h : zx_H) : Option (Int32 × zx_H) :=
  (if s0 = true then (zs_Planner_ruleFault_J79 x1 x3 x4 x5 x7 s0 (h.1 54 x1.val 1) h) else (zs_Planner_ruleFault_J79 x1 x3 x4 x5 x7 s0 (h.1 54 x1.val 0) h))
def zs_Planner_ruleFault (a1 : Fin 16) (a2 : Int32) (h : zx_H) : Option (Int32 × zx_H) :=
  (if zx_in a2 24 = true then (zx_bnd (h.1 55 a1.val a2.toNatClampNeg) (fun y1 => (if zx_in a2 24 = true then (zx_bnd (h.1 56 a1.val a2.toNatClampNeg) (fun y2 => (if zx_in a2 24 = true then (zx_bnd (h.2 57 a1.val a2.toNatClampNeg) (fun y3 => ((zs_Types_isBean (h.1 54 a1.val 1) h).bind (fun r4 => (if (5 : Int32) < y1 then (zs_Planner_ruleFault_J106 a1 y1 y3 r4 h) else ((zs_Method_repeats a1 a2 h).bind (fun r5 => (if r5 = true then (some ((2 : Int32), h)) else (if y1 = (5 : Int32) then (zs_Planner_ruleFault_J61 a1 y1 y2 y3 r4 false h) else (zs_Planner_ruleFault_J61 a1 y1 y2 y3 r4 true h)))))))))) else none))) else none))) else none)
def zs_Planner_note (a1 : Int32) (a2 : Int32) (h : zx_H) : Option zx_H :=
  (if a1 = 0 then (some h) else (zx_bnd (zx_sI h 16 0 4 a1) (fun h1 => (zx_bnd (zx_sI h1 16 0 6 a2) (fun h2 => (some h2))))))
def zs_Ways_converts_J42 (h : zx_H)   : Option Bool :=
  (some true)
def zs_Ways_converts_J46 (h : zx_H)   : Option Bool :=
  (some false)
def zs_Ways_converts_J72 (h : zx_H)   : Option Bool :=
  (some true)
def zs_Ways_converts_J102 (h : zx_H)   : Option Bool :=
  (some true)
def zs_Ways_converts_J106 (h : zx_H)   : Option Bool :=
  (some false)
def zs_Ways_converts_J48 (h : zx_H)  (x1 : Int32) (x2 : Int32) : Option Bool :=
  (if x2 = (14 : Int32) then ((zs_Basics_isWhole x1 h).bind (fun r1 => (if r1 = true then (zs_Ways_converts_J72 h) else ((zs_Types_isEnum x1 h).bind (fun r2 => (if r2 = true then (zs_Ways_converts_J72 h) else (some false))))))) else (if x1 = (14 : Int32) then ((zs_Basics_isWhole x2 h).bind (fun r3 => (if r3 = true then (zs_Ways_converts_J102 h) else ((zs_Types_isEnum x2 h).bind (fun r4 => (if r4 = true then (zs_Ways_converts_J102 h) else (zs_Ways_converts_J106 h))))))) else (zs_Ways_converts_J106 h)))
def zs_Ways_converts (a1 : Int32) (a2 : Int32) (h : zx_H) : Option Bool :=
  ((zs_Basics_isBasic a1 h).bind (fun r1 => (if r1 = true then ((zs_Basics_isBasic a2 h).bind (fun r2 => (if r2 = true then ((zs_Basics_kindOf a1 h).bind (fun r3 => ((zs_Basics_kindOf a2 h).bind (fun r4 => (if r3 = r4 then (zs_Ways_converts_J42 h) else (if r3 = (5 : Int32) then (zs_Ways_converts_J46 h) else (if r4 = (5 : Int32) then (zs_Ways_converts_J46 h) else (zs_Ways_converts_J42 h)))))))) else (zs_Ways_converts_J48 h a1 a2)))) else (zs_Ways_converts_J48 h a1 a2))))
def zs_Ways_functionWay_J101 (h : zx_H) (k6 : (Int32 → Int32 → Bool → Int32 → Int32 → Option Int32)) (x1 : Int32) (x2 : Int32) (x3 : Bool) (x4 : Int32) (x5 : Int32) : Option Int32 :=
  (k6 x1 x2 x3 x4 (x5 + (1 : Int32)))
def zs_Ways_functionWay_J61 (h : zx_H) (k6 : (Int32 → Int32 → Bool → Int32 → Int32 → Option Int32)) (x1 : Int32) (x2 : Int32) (x3 : Bool) (x4 : Int32) (x5 : Int32) (x6 : Fin 8) (s0 : Bool) : Option Int32 :=
  (if (h.1 53 x6.val 4) = 0 then (if (h.1 53 x6.val 1) = x2 then (if s0 = true then (if x4 = (-1 : Int32) then (zx_bnd ((16 : Int32) + x5) (fun y1 => (zs_Ways_functionWay_J101 h k6 x1 x2 x3 y1 x5))) else (some (-2 : Int32))) else (zs_Ways_functionWay_J101 h k6 x1 x2 x3 x4 x5)) else (zs_Ways_functionWay_J101 h k6 x1 x2 x3 x4 x5)) else (zs_Ways_functionWay_J101 h k6 x1 x2 x3 x4 x5))
def zs_Ways_functionWay_L6_body (h : zx_H)  (k6 : (Int32 → Int32 → Bool → Int32 → Int32 → Option Int32)) (x1 : Int32) (x2 : Int32) (x3 : Bool) (x4 : Int32) (x5 : Int32) : Option Int32 :=
  (if (h.1 11 0 2) ≤ x5 then (some x4) else ((zx_fin 8 x5).bind (fun j1 => (if x3 = true then ((zs_Ways_converts x1 (h.1 53 j1.val 0) h).bind (fun r2 => (zs_Ways_functionWay_J61 h k6 x1 x2 x3 x4 x5 j1 r2))) else (if x1 = (h.1 53 j1.val 0) then (zs_Ways_functionWay_J61 h k6 x1 x2 x3 x4 x5 j1 true) else (zs_Ways_functionWay_J61 h k6 x1 x2 x3 x4 x5 j1 false))))))
def zs_Ways_functionWay_L6 (h : zx_H)  : (Int32 → Int32 → Bool → Int32 → Int32 → Option Int32) := zx_loop (fun _ _ _ _ _ => none) (zs_Ways_functionWay_L6_body h ) zx_fuel
def zs_Ways_functionWay (a1 : Int32) (a2 : Int32) (a3 : Bool) (h : zx_H) : Option Int32 :=
  (zs_Ways_functionWay_L6 h a1 a2 a3 (-1 : Int32) (0 : Int32))
def zs_Ways_methodWay_J65 (h : zx_H) (k5 : (Int32 → Int32 → Int32 → Int32 → Option Int32)) (x1 : Int32) (x2 : Int32) (x3 : Int32) (x4 : Int32) : Option Int32 :=
  (k5 x1 x2 x3 (x4 + (1 : Int32)))
def zs_Ways_methodWay_L5_body (h : zx_H)  (k5 : (Int32 → Int32 → Int32 → Int32 → Option Int32)) (x1 : Int32) (x2 : Int32) (x3 : Int32) (x4 : Int32) : Option Int32 :=
  (if (h.1 11 0 3) ≤ x4 then (some x3) else ((zx_fin 16 x4).bind (fun j1 => (if (h.1 54 j1.val 0) = x1 then ((zx_fin 16 x4).bind (fun j2 => (if (h.1 54 j2.val 1) = x2 then (if x3 = (-1 : Int32) then (zx_bnd ((32 : Int32) + x4) (fun y3 => (zs_Ways_methodWay_J65 h k5 x1 x2 y3 x4))) else (some (-2 : Int32))) else (zs_Ways_methodWay_J65 h k5 x1 x2 x3 x4)))) else (zs_Ways_methodWay_J65 h k5 x1 x2 x3 x4)))))
def zs_Ways_methodWay_L5 (h : zx_H)  : (Int32 → Int32 → Int32 → Int32 → Option Int32) := zx_loop (fun _ _ _ _ => none) (zs_Ways_methodWay_L5_body h ) zx_fuel
def zs_Ways_methodWay (a1 : Int32) (a2 : Int32) (h : zx_H) : Option Int32 :=
  (zs_Ways_methodWay_L5 h a1 a2 (-1 : Int32) (0 : Int32))
def zs_Ways_find_J199  (x6 : Int32) (h : zx_H) : Option (Int32 × zx_H) :=
  (some (x6, h))
def zs_Ways_find_J184 (k8 : (Int32 → Int32 → Int32 → zx_H → Option (Int32 × zx_H))) (x3 : Int32) (x4 : Int32) (x5 : Int32) (x6 : Int32) (x7 : Bool) (h : zx_H) : Option (Int32 × zx_H) :=
  (if x7 = true then ((zs_Types_element x3 h).bind (fun r1 => ((zs_Types_element x4 h).bind (fun r2 => (k8 r1 r2 (x5 + (1 : Int32)) h))))) else (if x5 = 0 then (zs_Ways_find_J199 x6 h) else (if 0 ≤ x6 then (some ((64 : Int32), h)) else (zs_Ways_find_J199 x6 h))))
def zs_Ways_find_J183 (k8 : (Int32 → Int32 → Int32 → zx_H → Option (Int32 × zx_H))) (x3 : Int32) (x4 : Int32) (x5 : Int32) (x6 : Int32) (x7 : Bool) (s1 : Int32) (s2 : Int32) (h : zx_H) : Option (Int32 × zx_H) :=
  (if zx_in s1 1600 = true then (zx_bnd (zx_sI h 15 0 s1.toNatClampNeg s2) (fun h1 => (zs_Ways_find_J184 k8 x3 x4 x5 x6 x7 h1))) else none)
def zs_Ways_find_J135 (k8 : (Int32 → Int32 → Int32 → zx_H → Option (Int32 × zx_H))) (x3 : Int32) (x4 : Int32) (x5 : Int32) (x6 : Int32) (s0 : Bool) (h : zx_H) : Option (Int32 × zx_H) :=
  ((zs_Types_exists x3 h).bind (fun r1 => (if r1 = true then ((zs_Types_exists x4 h).bind (fun r2 => (if r2 = true then (if s0 = true then (zs_Ways_find_J183 k8 x3 x4 x5 x6 s0 ((x3 * (40 : Int32)) + x4) (64 : Int32) h) else (zs_Ways_find_J183 k8 x3 x4 x5 x6 s0 ((x3 * (40 : Int32)) + x4) x6 h)) else (zs_Ways_find_J184 k8 x3 x4 x5 x6 s0 h)))) else (zs_Ways_find_J184 k8 x3 x4 x5 x6 s0 h))))
def zs_Ways_find_J134 (k8 : (Int32 → Int32 → Int32 → zx_H → Option (Int32 × zx_H))) (x3 : Int32) (x4 : Int32) (x5 : Int32) (x6 : Int32) (h : zx_H) : Option (Int32 × zx_H) :=
  (zs_Ways_find_J135 k8 x3 x4 x5 x6 false h)
def zs_Ways_find_J99 (k8 : (Int32 → Int32 → Int32 → zx_H → Option (Int32 × zx_H))) (x3 : Int32) (x4 : Int32) (x5 : Int32) (s0 : Int32) (h : zx_H) : Option (Int32 × zx_H) :=
  (if s0 = (-1 : Int32) then ((zs_Types_isList x3 h).bind (fun r1 => (if r1 = true then ((zs_Types_isList x4 h).bind (fun r2 => (if r2 = true then (zs_Ways_find_J135 k8 x3 x4 x5 s0 true h) else (zs_Ways_find_J134 k8 x3 x4 x5 s0 h)))) else (zs_Ways_find_J134 k8 x3 x4 x5 s0 h)))) else (zs_Ways_find_J134 k8 x3 x4 x5 s0 h))
def zs_Ways_find_J78 (k8 : (Int32 → Int32 → Int32 → zx_H → Option (Int32 × zx_H))) (x3 : Int32) (x4 : Int32) (x5 : Int32) (s0 : Int32) (h : zx_H) : Option (Int32 × zx_H) :=
  (if s0 = (-1 : Int32) then ((zs_Ways_functionWay x3 x4 true h).bind (fun r1 => (zs_Ways_find_J99 k8 x3 x4 x5 r1 h))) else (zs_Ways_find_J99 k8 x3 x4 x5 s0 h))
def zs_Ways_find_J76 (k8 : (Int32 → Int32 → Int32 → zx_H → Option (Int32 × zx_H))) (x3 : Int32) (x4 : Int32) (x5 : Int32) (x6 : Int32) (h : zx_H) : Option (Int32 × zx_H) :=
  (zs_Ways_find_J78 k8 x3 x4 x5 x6 h)
def zs_Ways_find_J53 (k8 : (Int32 → Int32 → Int32 → zx_H → Option (Int32 × zx_H))) (x3 : Int32) (x4 : Int32) (x5 : Int32) (s0 : Int32) (h : zx_H) : Option (Int32 × zx_H) :=
  (if s0 = (-1 : Int32) then ((zs_Ways_converts x3 x4 h).bind (fun r1 => (if r1 = true then (zs_Ways_find_J78 k8 x3 x4 x5 (48 : Int32) h) else (zs_Ways_find_J76 k8 x3 x4 x5 s0 h)))) else (zs_Ways_find_J76 k8 x3 x4 x5 s0 h))
def zs_Ways_find_J33 (k8 : (Int32 → Int32 → Int32 → zx_H → Option (Int32 × zx_H))) (x3 : Int32) (x4 : Int32) (x5 : Int32) (s0 : Int32) (h : zx_H) : Option (Int32 × zx_H) :=
  (if s0 = (-1 : Int32) then ((zs_Ways_methodWay x3 x4 h).bind (fun r1 => (zs_Ways_find_J53 k8 x3 x4 x5 r1 h))) else (zs_Ways_find_J53 k8 x3 x4 x5 s0 h))
def zs_Ways_find_L8_body  (k8 : (Int32 → Int32 → Int32 → zx_H → Option (Int32 × zx_H))) (x3 : Int32) (x4 : Int32) (x5 : Int32) (h : zx_H) : Option (Int32 × zx_H) :=
  (if (40 : Int32) ≤ x5 then (some ((-1 : Int32), h)) else (if x3 = x4 then (zs_Ways_find_J33 k8 x3 x4 x5 (0 : Int32) h) else ((zs_Ways_functionWay x3 x4 false h).bind (fun r1 => (zs_Ways_find_J33 k8 x3 x4 x5 r1 h)))))
def zs_Ways_find_L8  : (Int32 → Int32 → Int32 → zx_H → Option (Int32 × zx_H)) := zx_loop (fun _ _ _ _ => none) (zs_Ways_find_L8_body ) zx_fuel
def zs_Ways_find (a1 : Int32) (a2 : Int32) (h : zx_H) : Option (Int32 × zx_H) :=
  (zs_Ways_find_L8 a1 a2 (0 : Int32) h)
def zs_Planner_faultOf (a1 : Int32) (h : zx_H) : Option Int32 :=
  (if a1 = (-1 : Int32) then (some (6 : Int32)) else (if a1 = (-2 : Int32) then (some (7 : Int32)) else (some (0 : Int32))))
def zs_Planner_pathTo_J126 (h : zx_H)  (s0 : Int32) : Option Int64 :=
  (some ((s0.toInt64) + (1 : Int64)))
def zs_Planner_pathTo_J130 (h : zx_H) (k51 : (Fin 16 → Int32 → Fin 16 → Int32 → Option Int64)) (x1 : Fin 16) (x2 : Int32) (x4 : Fin 16) (x5 : Int32) : Option Int64 :=
  (k51 x1 x2 x4 (x5 + (1 : Int32)))
def zs_Planner_pathTo_J136 (h : zx_H)  (x2 : Int32) : Option Int64 :=
  (some ((x2.toInt64) + (1 : Int64)))
def zs_Planner_pathTo_L51_body (h : zx_H)  (k51 : (Fin 16 → Int32 → Fin 16 → Int32 → Option Int64)) (x1 : Fin 16) (x2 : Int32) (x4 : Fin 16) (x5 : Int32) : Option Int64 :=
  (if (h.1 54 x4.val 2) ≤ x5 then (zs_Planner_pathTo_J136 h x2) else (if zx_in x5 24 = true then (if (h.1 55 x4.val x5.toNatClampNeg) = 0 then (if zx_in x5 24 = true then (if ((h.2 57 x4.val x5.toNatClampNeg) &&& (65535 : Int64)) = ((x2 + (1 : Int32)).toInt64) then (if zx_in x5 24 = true then (zx_bnd (h.1 56 x4.val x5.toNatClampNeg) (fun y1 => ((zs_Types_placeOf (h.1 54 x1.val 0) (y1.toInt64) h).bind (fun r2 => (if r2 = (-1 : Int32) then (zs_Planner_pathTo_J126 h x2) else (zs_Planner_pathTo_J126 h y1)))))) else none) else (zs_Planner_pathTo_J130 h k51 x1 x2 x4 x5)) else none) else (zs_Planner_pathTo_J130 h k51 x1 x2 x4 x5)) else none))
def zs_Planner_pathTo_L51 (h : zx_H)  : (Fin 16 → Int32 → Fin 16 → Int32 → Option Int64) := zx_loop (fun _ _ _ _ => none) (zs_Planner_pathTo_L51_body h ) zx_fuel
def zs_Planner_pathTo (a1 : Fin 16) (a2 : Int32) (h : zx_H) : Option Int64 :=
  ((zs_Method_first a1 (0 : Int32) a2 h).bind (fun r1 => (if r1 = (-1 : Int32) then ((zs_Model_hasMethod ((h.1 54 a1.val 6).toInt64) h).bind (fun r2 => (if r2 = true then ((zx_fin 16 (h.1 54 a1.val 6)).bind (fun j3 => (zs_Planner_pathTo_L51 h a1 a2 j3 (0 : Int32)))) else (zs_Planner_pathTo_J136 h a2)))) else (if zx_in r1 24 = true then (some (h.2 57 a1.val r1.toNatClampNeg)) else none))))
def zs_Planner_wayBy_J52 (h : zx_H)   : Option Int32 :=
  (some (-1 : Int32))
def zs_Planner_wayBy (a1 : Int64) (a3 : Int32) (a4 : Int32) (h : zx_H) : Option Int32 :=
  ((zs_Model_hasFunction a1 h).bind (fun r1 => (if r1 = true then ((zx_fin 8 (a1.toInt32)).bind (fun j2 => (if (h.1 53 j2.val 0) = a3 then (if (h.1 53 j2.val 1) = a4 then (some ((16 : Int32) + (a1.toInt32))) else (zs_Planner_wayBy_J52 h)) else (zs_Planner_wayBy_J52 h)))) else (some (-1 : Int32)))))
def zs_Planner_planProperty_J185  (x3 : Fin 129) (s0 : Fin 129) (s1 : Int32) (h : zx_H) : Option (Int32 × zx_H) :=
  (zx_bnd (zx_sI h 60 s0.val 5 s1) (fun h1 => ((zs_Planner_faultOf (h1.1 60 x3.val 5) h1).bind (fun r2 => (some (r2, h1))))))
def zs_Planner_planProperty (a1 : Fin 16) (a2 : Int32) (h : zx_H) : Option (Int32 × zx_H) :=
  ((zx_fin 8 a2).bind (fun j1 => ((zs_Types_nameAt (h.1 54 a1.val 1) a2 h).bind (fun r2 => ((zs_Types_typeAt (h.1 54 a1.val 1) a2 h).bind (fun r3 => ((zs_Method_first a1 (2 : Int32) r2 h).bind (fun r4 => (if r4 = (-1 : Int32) then ((zs_Method_first a1 (1 : Int32) r2 h).bind (fun r6 => (if r6 = (-1 : Int32) then (zx_bnd (zx_sI h 60 (zx_pp a1 j1).val 0 (0 : Int32)) (fun h12 => ((zs_Planner_pathTo a1 r2 h12).bind (fun r13 => ((zs_Plan_trace (zx_pp a1 j1) (h12.1 54 a1.val 0) r13 h12).bind (fun r14 => (if r14.1 = true then ((zs_Method_first a1 (4 : Int32) r2 r14.2).bind (fun r15 => (if r15 = (-1 : Int32) then ((zs_Ways_find (r14.2.1 60 (zx_pp a1 j1).val 4) r3 r14.2).bind (fun r16 => (zs_Planner_planProperty_J185 (zx_pp a1 j1) (zx_pp a1 j1) r16.1 r16.2))) else (if zx_in r15 24 = true then ((zs_Planner_wayBy (r14.2.2 57 a1.val r15.toNatClampNeg) (r14.2.1 60 (zx_pp a1 j1).val 4) r3 r14.2).bind (fun r17 => (zs_Planner_planProperty_J185 (zx_pp a1 j1) (zx_pp a1 j1) r17 r14.2))) else none)))) else (some ((5 : Int32), r14.2))))))))) else (zx_bnd (zx_sI h 60 (zx_pp a1 j1).val 0 (1 : Int32)) (fun h7 => (if zx_in r6 24 = true then (zx_bnd (zx_sJ h7 60 (zx_pp a1 j1).val 1 (h7.2 57 a1.val r6.toNatClampNeg)) (fun h8 => ((zs_Ways_find (4 : Int32) r3 h8).bind (fun r9 => (zx_bnd (zx_sI r9.2 60 (zx_pp a1 j1).val 5 r9.1) (fun h10 => ((zs_Planner_faultOf (h10.1 60 (zx_pp a1 j1).val 5) h10).bind (fun r11 => (some (r11, h10)))))))))) else none)))))) else (zx_bnd (zx_sI h 60 (zx_pp a1 j1).val 0 (2 : Int32)) (fun h5 => (some ((0 : Int32), h5)))))))))))))
def zs_Planner_inverseConstant_J100 (h : zx_H) (k33 : (Fin 16 → Int32 → Fin 16 → Int32 → Option Int32)) (x1 : Fin 16) (x2 : Int32) (x3 : Fin 16) (x4 : Int32) : Option Int32 :=
  (k33 x1 x2 x3 (x4 + (1 : Int32)))
def zs_Planner_inverseConstant_L33_body (h : zx_H)  (k33 : (Fin 16 → Int32 → Fin 16 → Int32 → Option Int32)) (x1 : Fin 16) (x2 : Int32) (x3 : Fin 16) (x4 : Int32) : Option Int32 :=
  (if (h.1 54 x3.val 2) ≤ x4 then (some (-1 : Int32)) else (if zx_in x4 24 = true then (if (h.1 55 x3.val x4.toNatClampNeg) = (5 : Int32) then (if zx_in x4 24 = true then (if (h.2 57 x3.val x4.toNatClampNeg) = (x2.toInt64) then (if zx_in x4 24 = true then (zx_bnd (h.1 56 x3.val x4.toNatClampNeg) (fun y1 => ((zs_Types_placeOf (h.1 54 x1.val 1) (y1.toInt64) h).bind (fun r2 => (if r2 = (-1 : Int32) then (some (-1 : Int32)) else (some y1)))))) else none) else (zs_Planner_inverseConstant_J100 h k33 x1 x2 x3 x4)) else none) else (zs_Planner_inverseConstant_J100 h k33 x1 x2 x3 x4)) else none))
def zs_Planner_inverseConstant_L33 (h : zx_H)  : (Fin 16 → Int32 → Fin 16 → Int32 → Option Int32) := zx_loop (fun _ _ _ _ => none) (zs_Planner_inverseConstant_L33_body h ) zx_fuel
def zs_Planner_inverseConstant (a1 : Fin 16) (a2 : Int32) (h : zx_H) : Option Int32 :=
  ((zs_Model_hasMethod ((h.1 54 a1.val 6).toInt64) h).bind (fun r1 => (if r1 = true then ((zx_fin 16 (h.1 54 a1.val 6)).bind (fun j2 => (zs_Planner_inverseConstant_L33 h a1 a2 j2 (0 : Int32)))) else (some (-1 : Int32)))))
def zs_Planner_becoming (a1 : Fin 16) (a2 : Int32) (h : zx_H) : Option Int64 :=
  ((zs_Method_first a1 (5 : Int32) a2 h).bind (fun r1 => (if r1 = (-1 : Int32) then ((zs_Planner_inverseConstant a1 a2 h).bind (fun r2 => (if r2 = (-1 : Int32) then ((zs_Types_placeOf (h.1 54 a1.val 1) (a2.toInt64) h).bind (fun r3 => (if r3 = (-1 : Int32) then ((zs_Method_latest a1 (6 : Int32) h).bind (fun r4 => (if r4 = (-1 : Int32) then (some (-3 : Int64)) else (if zx_in r4 24 = true then (some (h.2 57 a1.val r4.toNatClampNeg)) else none)))) else (some (a2.toInt64))))) else (some (r2.toInt64))))) else (if zx_in r1 24 = true then (some (h.2 57 a1.val r1.toNatClampNeg)) else none))))
def zs_Planner_planConstant (a1 : Fin 16) (a2 : Int32) (h : zx_H) : Option (Int32 × zx_H) :=
  ((zs_Types_nameAt (h.1 54 a1.val 0) a2 h).bind (fun r1 => ((zs_Planner_becoming a1 r1 h).bind (fun r2 => (if r2 = (-3 : Int64) then (some ((5 : Int32), h)) else (if r2 < (0 : Int64) then (if zx_in a2 8 = true then (zx_bnd (zx_sI h 59 a1.val a2.toNatClampNeg (r2.toInt32)) (fun h5 => (some ((0 : Int32), h5)))) else none) else ((zs_Types_placeOf (h.1 54 a1.val 1) r2 h).bind (fun r3 => (if zx_in a2 8 = true then (zx_bnd (zx_sI h 59 a1.val a2.toNatClampNeg r3) (fun h4 => (some ((0 : Int32), h4)))) else none)))))))))
def zs_Planner_planDefault_J45  (x1 : Fin 16) (x2 : Int32) (x3 : Fin 129) (x4 : Int32) (s0 : Fin 129) (s1 : Bool) (h : zx_H) : Option (Int32 × zx_H) :=
  (zx_bnd (zx_sI h 60 s0.val 6 (zx_b s1)) (fun h1 => (if (h1.1 60 x3.val 6) = 0 then (some ((0 : Int32), h1)) else (if zx_in x4 24 = true then (zx_bnd (zx_sJ h1 60 x3.val 7 (h1.2 57 x1.val x4.toNatClampNeg)) (fun h2 => ((zs_Types_typeAt (h2.1 54 x1.val 1) x2 h2).bind (fun r3 => ((zs_Ways_find (4 : Int32) r3 h2).bind (fun r4 => (zx_bnd (zx_sI r4.2 60 x3.val 8 r4.1) (fun h5 => ((zs_Planner_faultOf (h5.1 60 x3.val 8) h5).bind (fun r6 => (some (r6, h5)))))))))))) else none))))
def zs_Planner_planDefault_J44  (x1 : Fin 16) (x2 : Int32) (x3 : Fin 129) (x4 : Int32) (s0 : Fin 129) (h : zx_H) : Option (Int32 × zx_H) :=
  (zs_Planner_planDefault_J45 x1 x2 x3 x4 s0 false h)
def zs_Planner_planDefault (a1 : Fin 16) (a2 : Int32) (h : zx_H) : Option (Int32 × zx_H) :=
  ((zx_fin 8 a2).bind (fun j1 => ((zs_Types_nameAt (h.1 54 a1.val 1) a2 h).bind (fun r2 => ((zs_Method_first a1 (3 : Int32) r2 h).bind (fun r3 => (if (h.1 60 (zx_pp a1 j1).val 0) = 0 then (if r3 = (-1 : Int32) then (zs_Planner_planDefault_J44 a1 a2 (zx_pp a1 j1) r3 (zx_pp a1 j1) h) else (zs_Planner_planDefault_J45 a1 a2 (zx_pp a1 j1) r3 (zx_pp a1 j1) true h)) else (zs_Planner_planDefault_J44 a1 a2 (zx_pp a1 j1) r3 (zx_pp a1 j1) h))))))))
def zs_Planner_planMethod_J184 (k119 : (Fin 16 → Bool → Int32 → Int32 → zx_H → Option zx_H)) (x1 : Fin 16) (x3 : Bool) (x4 : Int32) (x5 : Int32) (h : zx_H) : Option zx_H :=
  (k119 x1 x3 x4 (x5 + (1 : Int32)) h)
def zs_Planner_planMethod_J155 (k119 : (Fin 16 → Bool → Int32 → Int32 → zx_H → Option zx_H)) (x1 : Fin 16) (x3 : Bool) (x4 : Int32) (x5 : Int32) (s1 : Int32) (h : zx_H) : Option zx_H :=
  ((zs_Planner_note s1 x5 h).bind (fun r1 => (if x3 = true then (if (r1.1 16 0 4) = 0 then ((zs_Planner_planDefault x1 x5 r1).bind (fun r2 => ((zs_Planner_note r2.1 x5 r2.2).bind (fun r3 => (zs_Planner_planMethod_J184 k119 x1 x3 x4 x5 r3))))) else (zs_Planner_planMethod_J184 k119 x1 x3 x4 x5 r1)) else (zs_Planner_planMethod_J184 k119 x1 x3 x4 x5 r1))))
def zs_Planner_planMethod_L119_body  (k119 : (Fin 16 → Bool → Int32 → Int32 → zx_H → Option zx_H)) (x1 : Fin 16) (x3 : Bool) (x4 : Int32) (x5 : Int32) (h : zx_H) : Option zx_H :=
  (if x4 ≤ x5 then (some h) else (if (h.1 16 0 4) = 0 then (if x3 = true then ((zs_Planner_planProperty x1 x5 h).bind (fun r1 => (zs_Planner_planMethod_J155 k119 x1 x3 x4 x5 r1.1 r1.2))) else ((zs_Planner_planConstant x1 x5 h).bind (fun r2 => (zs_Planner_planMethod_J155 k119 x1 x3 x4 x5 r2.1 r2.2)))) else (some h)))
def zs_Planner_planMethod_L119  : (Fin 16 → Bool → Int32 → Int32 → zx_H → Option zx_H) := zx_loop (fun _ _ _ _ _ => none) (zs_Planner_planMethod_L119_body ) zx_fuel
def zs_Planner_planMethod_J111  (x1 : Fin 16) (x3 : Bool) (s1 : Int32) (h : zx_H) : Option zx_H :=
  ((zs_Types_memberCount s1 h).bind (fun r1 => (zs_Planner_planMethod_L119 x1 x3 r1 (0 : Int32) h)))
def zs_Planner_planMethod_J77  (x1 : Fin 16) (s0 : Fin 16) (s1 : Bool) (h : zx_H) : Option zx_H :=
  (zx_bnd (zx_sI h 54 s0.val 7 (zx_b s1)) (fun h1 => ((zs_Types_isBean (h1.1 54 x1.val 1) h1).bind (fun r2 => (if r2 = true then (zs_Planner_planMethod_J111 x1 r2 (h1.1 54 x1.val 1) h1) else (zs_Planner_planMethod_J111 x1 r2 (h1.1 54 x1.val 0) h1))))))
def zs_Planner_planMethod_J76  (x1 : Fin 16) (s0 : Fin 16) (h : zx_H) : Option zx_H :=
  (zs_Planner_planMethod_J77 x1 s0 false h)
def zs_Planner_planMethod_J48  (x1 : Fin 16) (h : zx_H) : Option zx_H :=
  ((zs_Method_latest x1 (8 : Int32) h).bind (fun r1 => (if r1 = (-1 : Int32) then (zs_Planner_planMethod_J76 x1 x1 h) else (if zx_in r1 24 = true then (if (h.2 57 x1.val r1.toNatClampNeg) = (1 : Int64) then (zs_Planner_planMethod_J77 x1 x1 true h) else (zs_Planner_planMethod_J76 x1 x1 h)) else none))))
def zs_Planner_planMethod_L16_body  (k16 : (Fin 16 → Int32 → zx_H → Option zx_H)) (x1 : Fin 16) (x2 : Int32) (h : zx_H) : Option zx_H :=
  (if (h.1 54 x1.val 2) ≤ x2 then (zs_Planner_planMethod_J48 x1 h) else (if (h.1 16 0 4) = 0 then ((zs_Planner_ruleFault x1 x2 h).bind (fun r1 => ((zs_Planner_note r1.1 x2 r1.2).bind (fun r2 => (k16 x1 (x2 + (1 : Int32)) r2))))) else (zs_Planner_planMethod_J48 x1 h)))
def zs_Planner_planMethod_L16  : (Fin 16 → Int32 → zx_H → Option zx_H) := zx_loop (fun _ _ _ => none) (zs_Planner_planMethod_L16_body ) zx_fuel
def zs_Planner_planMethod (a1 : Fin 16) (h : zx_H) : Option zx_H :=
  ((zs_Planner_planInverse a1 h).bind (fun r1 => (if r1.1 = true then (zs_Planner_planMethod_L16 a1 (0 : Int32) r1.2) else (zx_bnd (zx_sI r1.2 16 0 4 (1 : Int32)) (fun h2 => (some h2))))))
def zs_Planner_planAll_J66   (h : zx_H) : Option zx_H :=
  (if (h.1 16 0 4) = 0 then (zx_bnd (zx_sI h 16 0 5 (-1 : Int32)) (fun h1 => (some h1))) else (some h))
def zs_Planner_planAll_L24_body  (k24 : (Int32 → zx_H → Option zx_H)) (x1 : Int32) (h : zx_H) : Option zx_H :=
  (if (h.1 11 0 3) ≤ x1 then (zs_Planner_planAll_J66 h) else (if (h.1 16 0 4) = 0 then (zx_bnd (zx_sI h 16 0 5 x1) (fun h1 => ((zx_fin 16 x1).bind (fun j2 => ((zs_Planner_planMethod j2 h1).bind (fun r3 => (k24 (x1 + (1 : Int32)) r3))))))) else (zs_Planner_planAll_J66 h)))
def zs_Planner_planAll_L24  : (Int32 → zx_H → Option zx_H) := zx_loop (fun _ _ => none) (zs_Planner_planAll_L24_body ) zx_fuel
def zs_Planner_planAll  (h : zx_H) : Option zx_H :=
  ((zs_Model_nameFunctions h).bind (fun r1 => (zx_bnd (zx_sI r1 16 0 4 (0 : Int32)) (fun h2 => (zx_bnd (zx_sI h2 16 0 5 (-1 : Int32)) (fun h3 => (zx_bnd (zx_sI h3 16 0 6 (-1 : Int32)) (fun h4 => (zs_Planner_planAll_L24 (0 : Int32) h4)))))))))
def zs_Store_isFull  (h : zx_H) : Option Bool :=
  (if (h.1 7 0 4) < (400 : Int32) then (some false) else (some true))
def zs_Store_forget (a1 : Int32) (h : zx_H) : Option zx_H :=
  (zx_bnd (zx_sI h 7 0 4 a1) (fun h1 => (some h1)))
def zs_Store_appendBytes_L3_body  (k3 : (Int32 → Int64 → Int32 → zx_H → Option zx_H)) (x1 : Int32) (x2 : Int64) (x4 : Int32) (h : zx_H) : Option zx_H :=
  (if (8 : Int32) ≤ x4 then (some h) else (zx_bnd ((zx_clushr x2 ((8 : Int32) * x4)) &&& (255 : Int64)) (fun y1 => (if y1 = (0 : Int64) then (some h) else ((zs_Store_append x1 y1 h).bind (fun r2 => (k3 x1 x2 (x4 + (1 : Int32)) r2.2)))))))
def zs_Store_appendBytes_L3  : (Int32 → Int64 → Int32 → zx_H → Option zx_H) := zx_loop (fun _ _ _ _ => none) (zs_Store_appendBytes_L3_body ) zx_fuel
def zs_Store_appendBytes (a1 : Int32) (a2 : Int64) (h : zx_H) : Option zx_H :=
  (zs_Store_appendBytes_L3 a1 a2 (0 : Int32) h)
def zs_Types_areNames_L26_body (h : zx_H) (k2 : (Int64 → Int32 → Int32 → Option Bool)) (k26 : (Int64 → Int32 → Int32 → Int32 → Int32 → Option Bool)) (x0 : Int64) (x2 : Int32) (x3 : Int32) (x4 : Int32) (x5 : Int32) : Option Bool :=
  (if x3 ≤ x5 then (k2 x0 x2 (x3 + (1 : Int32))) else ((zs_Types_nameIn x0 x5 h).bind (fun r1 => (if r1 = x4 then (some false) else (k26 x0 x2 x3 x4 (x5 + (1 : Int32)))))))
def zs_Types_areNames_L26 (h : zx_H) (k2 : (Int64 → Int32 → Int32 → Option Bool)) : (Int64 → Int32 → Int32 → Int32 → Int32 → Option Bool) := zx_loop (fun _ _ _ _ _ => none) (zs_Types_areNames_L26_body h k2) zx_fuel
def zs_Types_areNames_L2_body (h : zx_H)  (k2 : (Int64 → Int32 → Int32 → Option Bool)) (x0 : Int64) (x2 : Int32) (x3 : Int32) : Option Bool :=
  (if x2 ≤ x3 then (some true) else ((zs_Types_nameIn x0 x3 h).bind (fun r1 => (if r1 ≤ (63 : Int32) then (zs_Types_areNames_L26 h k2 x0 x2 x3 r1 (0 : Int32)) else (some false)))))
def zs_Types_areNames_L2 (h : zx_H)  : (Int64 → Int32 → Int32 → Option Bool) := zx_loop (fun _ _ _ => none) (zs_Types_areNames_L2_body h ) zx_fuel
def zs_Types_areNames (a0 : Int64) (a2 : Int32) (h : zx_H) : Option Bool :=
  (zs_Types_areNames_L2 h a0 a2 (0 : Int32))
def zs_Types_isFull  (h : zx_H) : Option Bool :=
  (if (h.1 1 0 5) < (40 : Int32) then (some false) else (some true))
def zs_Types_add (a1 : Int32) (a2 : Int32) (h : zx_H) : Option (Int32 × zx_H) :=
  (if (h.1 1 0 5) < (40 : Int32) then (zx_bnd (h.1 1 0 5) (fun y1 => (zx_bnd (zx_sI h 1 0 5 ((h.1 1 0 5) + (1 : Int32))) (fun h2 => (if zx_in y1 40 = true then (zx_bnd (zx_sI h2 2 0 y1.toNatClampNeg a1) (fun h3 => (if zx_in y1 40 = true then (zx_bnd (zx_sI h3 3 0 y1.toNatClampNeg a2) (fun h4 => (some (y1, h4)))) else none))) else none))))) else (some ((-1 : Int32), h)))
def zs_Types_addMember (a1 : Int32) (a2 : Int32) (a3 : Int32) (h : zx_H) : Option (Int32 × zx_H) :=
  (if a1 < 0 then (some ((-1 : Int32), h)) else (if (h.1 1 0 5) ≤ a1 then (some ((-1 : Int32), h)) else (if zx_in a1 40 = true then (if (h.1 4 0 a1.toNatClampNeg) < (8 : Int32) then (if zx_in a1 40 = true then (zx_bnd (h.1 4 0 a1.toNatClampNeg) (fun y1 => (if zx_in a1 40 = true then (if zx_in a1 40 = true then (zx_bnd (zx_sI h 4 0 a1.toNatClampNeg ((h.1 4 0 a1.toNatClampNeg) + (1 : Int32))) (fun h2 => (if zx_in ((a1 * (8 : Int32)) + y1) 320 = true then (zx_bnd (zx_sI h2 5 0 ((a1 * (8 : Int32)) + y1).toNatClampNeg a2) (fun h3 => (if zx_in ((a1 * (8 : Int32)) + y1) 320 = true then (zx_bnd (zx_sI h3 6 0 ((a1 * (8 : Int32)) + y1).toNatClampNeg a3) (fun h4 => (some (y1, h4)))) else none))) else none))) else none) else none))) else none) else (some ((-1 : Int32), h))) else none)))
def zs_Types_listOf_J33 (h : zx_H) (k3 : (Int32 → Int32 → Option Int32)) (x1 : Int32) (x2 : Int32) : Option Int32 :=
  (k3 x1 (x2 + (1 : Int32)))
def zs_Types_listOf_L3_body (h : zx_H)  (k3 : (Int32 → Int32 → Option Int32)) (x1 : Int32) (x2 : Int32) : Option Int32 :=
  (if (h.1 1 0 5) ≤ x2 then (some (-1 : Int32)) else (if zx_in x2 40 = true then (if (h.1 2 0 x2.toNatClampNeg) = (3 : Int32) then (if zx_in x2 40 = true then (if (h.1 3 0 x2.toNatClampNeg) = x1 then (some x2) else (zs_Types_listOf_J33 h k3 x1 x2)) else none) else (zs_Types_listOf_J33 h k3 x1 x2)) else none))
def zs_Types_listOf_L3 (h : zx_H)  : (Int32 → Int32 → Option Int32) := zx_loop (fun _ _ => none) (zs_Types_listOf_L3_body h ) zx_fuel
def zs_Types_listOf (a1 : Int32) (h : zx_H) : Option Int32 :=
  (zs_Types_listOf_L3 h a1 (15 : Int32))
def zs_Loom_enumeration_J19   (h : zx_H) : Option (Nat × Int32 × zx_H) :=
  (some (1, 0, h))
def zs_Loom_enumeration_J46   (h : zx_H) : Option (Nat × Int32 × zx_H) :=
  (some (2, 0, h))
def zs_Loom_enumeration_L70_body  (k70 : (Int64 → Int32 → Int32 → Int32 → zx_H → Option (Nat × Int32 × zx_H))) (x1 : Int64) (x3 : Int32) (x4 : Int32) (x5 : Int32) (h : zx_H) : Option (Nat × Int32 × zx_H) :=
  (if x3 ≤ x5 then (some (0, x4, h)) else ((zs_Types_nameIn x1 x5 h).bind (fun r1 => ((zs_Types_addMember x4 r1 (-1 : Int32) h).bind (fun r2 => (k70 x1 x3 x4 (x5 + (1 : Int32)) r2.2))))))
def zs_Loom_enumeration_L70  : (Int64 → Int32 → Int32 → Int32 → zx_H → Option (Nat × Int32 × zx_H)) := zx_loop (fun _ _ _ _ _ => none) (zs_Loom_enumeration_L70_body ) zx_fuel
def zs_Loom_enumeration (a1 : Int64) (a3 : Int32) (h : zx_H) : Option (Nat × Int32 × zx_H) :=
  (if a3 < (1 : Int32) then (zs_Loom_enumeration_J19 h) else (if (8 : Int32) < a3 then (zs_Loom_enumeration_J19 h) else ((zs_Types_areNames a1 a3 h).bind (fun r1 => (if r1 = true then (if (h.1 0 0 5) = 0 then ((zs_Types_isFull h).bind (fun r2 => (if r2 = true then (zs_Loom_enumeration_J46 h) else ((zs_Types_add (1 : Int32) (-1 : Int32) h).bind (fun r3 => (zs_Loom_enumeration_L70 a1 a3 r3.1 (0 : Int32) r3.2)))))) else (zs_Loom_enumeration_J46 h)) else (zs_Loom_enumeration_J19 h))))))
def zs_Loom_bean_J17   (h : zx_H) : Option (Nat × Int32 × zx_H) :=
  (some (2, 0, h))
def zs_Loom_bean  (h : zx_H) : Option (Nat × Int32 × zx_H) :=
  (if (h.1 0 0 5) = 0 then ((zs_Types_isFull h).bind (fun r1 => (if r1 = true then (zs_Loom_bean_J17 h) else ((zs_Types_add (2 : Int32) (-1 : Int32) h).bind (fun r2 => (some (0, r2.1, r2.2))))))) else (zs_Loom_bean_J17 h))
def zs_Loom_property_J46   (h : zx_H) : Option (Nat × Int32 × zx_H) :=
  (some (1, 0, h))
def zs_Loom_property_J86   (h : zx_H) : Option (Nat × Int32 × zx_H) :=
  (some (2, 0, h))
def zs_Loom_property (a1 : Int32) (a2 : Int32) (a3 : Int32) (h : zx_H) : Option (Nat × Int32 × zx_H) :=
  ((zs_Types_isBean a1 h).bind (fun r1 => (if r1 = true then (if a2 < 0 then (zs_Loom_property_J46 h) else (if (63 : Int32) < a2 then (zs_Loom_property_J46 h) else ((zs_Types_exists a3 h).bind (fun r2 => (if r2 = true then ((zs_Types_placeOf a1 (a2.toInt64) h).bind (fun r3 => (if r3 = (-1 : Int32) then (if (h.1 0 0 5) = 0 then ((zs_Types_memberCount a1 h).bind (fun r4 => (if (8 : Int32) ≤ r4 then (zs_Loom_property_J86 h) else ((zs_Store_size h).bind (fun r5 => (if r5 ≤ 0 then ((zs_Types_addMember a1 a2 a3 h).bind (fun r6 => (some (0, r6.1, r6.2)))) else (zs_Loom_property_J86 h))))))) else (zs_Loom_property_J86 h)) else (zs_Loom_property_J46 h)))) else (zs_Loom_property_J46 h)))))) else (zs_Loom_property_J46 h))))
def zs_Loom_list_J18   (h : zx_H) : Option (Nat × Int32 × zx_H) :=
  (some (1, 0, h))
def zs_Loom_list_J61   (h : zx_H) : Option (Nat × Int32 × zx_H) :=
  (some (2, 0, h))
def zs_Loom_list (a1 : Int32) (h : zx_H) : Option (Nat × Int32 × zx_H) :=
  ((zs_Types_exists a1 h).bind (fun r1 => (if r1 = true then ((zs_Basics_isPrimitive a1 h).bind (fun r2 => (if r2 = true then (zs_Loom_list_J18 h) else ((zs_Types_listOf a1 h).bind (fun r3 => (if r3 = (-1 : Int32) then (if (h.1 0 0 5) = 0 then ((zs_Types_isFull h).bind (fun r4 => (if r4 = true then (zs_Loom_list_J61 h) else ((zs_Types_add (3 : Int32) a1 h).bind (fun r5 => (some (0, r5.1, r5.2))))))) else (zs_Loom_list_J61 h)) else (some (0, r3, h)))))))) else (zs_Loom_list_J18 h))))
def zs_Loom_method_J95   (h : zx_H) : Option (Nat × Int32 × zx_H) :=
  (some (2, 0, h))
def zs_Loom_method_J76  (x1 : Int32) (x2 : Int32) (h : zx_H) : Option (Nat × Int32 × zx_H) :=
  (if (h.1 0 0 5) = 0 then (if (h.1 11 0 3) < (16 : Int32) then ((zs_Model_addMethod x1 x2 h).bind (fun r1 => (some (0, r1.1, r1.2)))) else (zs_Loom_method_J95 h)) else (zs_Loom_method_J95 h))
def zs_Loom_method_J55  (x1 : Int32) (x2 : Int32) (x3 : Bool) (s0 : Bool) (h : zx_H) : Option (Nat × Int32 × zx_H) :=
  (if x3 = true then (zs_Loom_method_J76 x1 x2 h) else (if s0 = true then (zs_Loom_method_J76 x1 x2 h) else (some (1, 0, h))))
def zs_Loom_method_J54  (x1 : Int32) (x2 : Int32) (x3 : Bool) (h : zx_H) : Option (Nat × Int32 × zx_H) :=
  (zs_Loom_method_J55 x1 x2 x3 false h)
def zs_Loom_method_J27  (x1 : Int32) (x2 : Int32) (s0 : Bool) (h : zx_H) : Option (Nat × Int32 × zx_H) :=
  ((zs_Types_isEnum x1 h).bind (fun r1 => (if r1 = true then ((zs_Types_isEnum x2 h).bind (fun r2 => (if r2 = true then (zs_Loom_method_J55 x1 x2 s0 true h) else (zs_Loom_method_J54 x1 x2 s0 h)))) else (zs_Loom_method_J54 x1 x2 s0 h))))
def zs_Loom_method_J26  (x1 : Int32) (x2 : Int32) (h : zx_H) : Option (Nat × Int32 × zx_H) :=
  (zs_Loom_method_J27 x1 x2 false h)
def zs_Loom_method (a1 : Int32) (a2 : Int32) (h : zx_H) : Option (Nat × Int32 × zx_H) :=
  ((zs_Types_isBean a1 h).bind (fun r1 => (if r1 = true then ((zs_Types_isBean a2 h).bind (fun r2 => (if r2 = true then (zs_Loom_method_J27 a1 a2 true h) else (zs_Loom_method_J26 a1 a2 h)))) else (zs_Loom_method_J26 a1 a2 h))))
def zs_Loom_function_J14   (h : zx_H) : Option (Nat × Int32 × zx_H) :=
  (some (1, 0, h))
def zs_Loom_function_J43   (h : zx_H) : Option (Nat × Int32 × zx_H) :=
  (some (2, 0, h))
def zs_Loom_function (a1 : Int32) (a2 : Int32) (a3 : Int32) (a4 : Int32) (h : zx_H) : Option (Nat × Int32 × zx_H) :=
  ((zs_Basics_isWhole a1 h).bind (fun r1 => (if r1 = true then ((zs_Basics_isWhole a2 h).bind (fun r2 => (if r2 = true then (if (h.1 0 0 5) = 0 then (if (h.1 11 0 2) < (8 : Int32) then ((zs_Model_addFunction a1 a2 a3 a4 h).bind (fun r3 => (some (0, r3.1, r3.2)))) else (zs_Loom_function_J43 h)) else (zs_Loom_function_J43 h)) else (zs_Loom_function_J14 h)))) else (zs_Loom_function_J14 h))))
def zs_Loom_rule_J22   (h : zx_H) : Option (Nat × Unit × zx_H) :=
  (some (1, (), h))
def zs_Loom_rule_J56   (h : zx_H) : Option (Nat × Unit × zx_H) :=
  (some (2, (), h))
def zs_Loom_rule (a1 : Int32) (a2 : Int32) (a3 : Int32) (a4 : Int64) (h : zx_H) : Option (Nat × Unit × zx_H) :=
  ((zs_Model_hasMethod (a1.toInt64) h).bind (fun r1 => (if r1 = true then (if a2 < 0 then (zs_Loom_rule_J22 h) else (if a2 ≤ (8 : Int32) then (if (h.1 0 0 5) = 0 then ((zx_fin 16 a1).bind (fun j2 => (if (h.1 54 j2.val 2) < (24 : Int32) then ((zx_fin 16 a1).bind (fun j3 => ((zs_Method_tell j3 a2 a3 a4 h).bind (fun r4 => (some (0, (), r4)))))) else (zs_Loom_rule_J56 h)))) else (zs_Loom_rule_J56 h)) else (zs_Loom_rule_J22 h))) else (zs_Loom_rule_J22 h))))
def zs_Loom_build  (h : zx_H) : Option (Nat × Int32 × zx_H) :=
  (if (h.1 0 0 5) = 0 then ((zs_Planner_planAll h).bind (fun r1 => (if (r1.1 16 0 4) = 0 then (zx_bnd (zx_sI r1 0 0 5 (1 : Int32)) (fun h2 => (some (0, (h2.1 11 0 3), h2)))) else (some (1, 0, r1))))) else (some (2, 0, h)))
def zs_Loom_make_J55   (h : zx_H) : Option (Nat × Int32 × zx_H) :=
  (some (1, 0, h))
def zs_Loom_make_J133  (x1 : Int32) (x2 : Int64) (x5 : Int32) (h : zx_H) : Option (Nat × Int32 × zx_H) :=
  (if x1 = (14 : Int32) then ((zs_Store_appendBytes x5 x2 h).bind (fun r1 => (some (0, x5, r1)))) else (some (0, x5, h)))
def zs_Loom_make_J115  (x1 : Int32) (x2 : Int64) (x4 : Bool) (s0 : Int32) (h : zx_H) : Option (Nat × Int32 × zx_H) :=
  (if x4 = true then ((zs_Store_append s0 x2 h).bind (fun r1 => (zs_Loom_make_J133 x1 x2 s0 r1.2))) else (zs_Loom_make_J133 x1 x2 s0 h))
def zs_Loom_make_J65  (x1 : Int32) (x2 : Int64) (x4 : Bool) (h : zx_H) : Option (Nat × Int32 × zx_H) :=
  ((zs_Store_isFull h).bind (fun r1 => (if r1 = true then (some (2, 0, h)) else ((zs_Types_isBean x1 h).bind (fun r2 => (if r2 = true then ((zs_Store_createBean x1 h).bind (fun r3 => (zs_Loom_make_J115 x1 x2 x4 r3.1 r3.2))) else ((zs_Store_create x1 h).bind (fun r4 => (zs_Loom_make_J115 x1 x2 x4 r4.1 r4.2)))))))))
def zs_Loom_make_J39  (x1 : Int32) (x2 : Int64) (x4 : Bool) (h : zx_H) : Option (Nat × Int32 × zx_H) :=
  (if x4 = true then ((zs_Basics_kindOf x1 h).bind (fun r1 => ((zs_Basics_holds r1 x2 h).bind (fun r2 => (if r2 = true then (zs_Loom_make_J65 x1 x2 x4 h) else (zs_Loom_make_J55 h)))))) else (zs_Loom_make_J65 x1 x2 x4 h))
def zs_Loom_make (a1 : Int32) (a2 : Int64) (h : zx_H) : Option (Nat × Int32 × zx_H) :=
  ((zs_Basics_isBox a1 h).bind (fun r1 => (if r1 = true then (zs_Loom_make_J39 a1 a2 r1 h) else (if a1 = (14 : Int32) then (zs_Loom_make_J39 a1 a2 r1 h) else ((zs_Types_isBean a1 h).bind (fun r2 => (if r2 = true then (zs_Loom_make_J39 a1 a2 r1 h) else ((zs_Types_isList a1 h).bind (fun r3 => (if r3 = true then (zs_Loom_make_J39 a1 a2 r1 h) else (zs_Loom_make_J55 h)))))))))))
def zs_Loom_map_J36   (h : zx_H) : Option (Nat × Int32 × zx_H) :=
  (some (1, 0, h))
def zs_Loom_map (a1 : Int32) (a2 : Int32) (h : zx_H) : Option (Nat × Int32 × zx_H) :=
  ((zs_Model_hasMethod (a1.toInt64) h).bind (fun r1 => (if r1 = true then ((zx_fin 16 a1).bind (fun j2 => ((zs_Store_isValue (h.1 54 j2.val 0) (a2.toInt64) h).bind (fun r3 => (if r3 = true then (if (h.1 0 0 5) = 0 then (some (2, 0, h)) else ((zs_Store_size h).bind (fun r4 => ((zs_Mapper_run a1 (a2.toInt64) h).bind (fun r5 => ((zs_Mapper_hasFailed r5.2).bind (fun r6 => (if r6 = true then ((zs_Store_forget r4 r5.2).bind (fun r7 => (some (4, 0, r7)))) else (some (0, (r5.1.toInt32), r5.2)))))))))) else (zs_Loom_map_J36 h)))))) else (zs_Loom_map_J36 h))))
def zs_Loom_get (a1 : Int32) (a2 : Int32) (h : zx_H) : Option (Nat × Int64 × zx_H) :=
  ((zs_Store_hasPlace a1 a2 h).bind (fun r1 => (if r1 = true then ((zs_Store_cell a1 a2 h).bind (fun r2 => (some (0, r2, h)))) else (some (3, 0, h)))))
def zs_Loom_about_J21   (h : zx_H) : Option (Nat × Int32 × zx_H) :=
  (some (3, 0, h))
def zs_Loom_about (a1 : Int32) (a2 : Int32) (h : zx_H) : Option (Nat × Int32 × zx_H) :=
  ((zs_Store_has (a1.toInt64) h).bind (fun r1 => (if r1 = true then (if a2 < 0 then (zs_Loom_about_J21 h) else (if a2 ≤ (1 : Int32) then (if a2 = 0 then ((zs_Store_typeOf a1 h).bind (fun r2 => (some (0, r2, h)))) else ((zs_Store_length a1 h).bind (fun r3 => (some (0, r3, h))))) else (zs_Loom_about_J21 h))) else (zs_Loom_about_J21 h))))
def zs_Law_enumeration (a1 : Int64) (a3 : Int32) (h : zx_H) : Option (Int32 × zx_H) :=
  ((zs_Loom_enumeration a1 a3 h).bind (fun r1 => (if r1.1 = 0 then (if zx_in (0 : Int32) 1 = true then (zx_bnd (zx_sJ r1.2.2 52 0 (0 : Int32).toNatClampNeg (r1.2.1.toInt64)) (fun h2 => (some ((0 : Int32), h2)))) else none) else (if r1.1 = 1 then (some ((1 : Int32), r1.2.2)) else (if r1.1 = 2 then (some ((2 : Int32), r1.2.2)) else none)))))
def zs_Law_bean  (h : zx_H) : Option (Int32 × zx_H) :=
  ((zs_Loom_bean h).bind (fun r1 => (if r1.1 = 0 then (if zx_in (0 : Int32) 1 = true then (zx_bnd (zx_sJ r1.2.2 52 0 (0 : Int32).toNatClampNeg (r1.2.1.toInt64)) (fun h2 => (some ((0 : Int32), h2)))) else none) else (if r1.1 = 2 then (some ((1 : Int32), r1.2.2)) else none))))
def zs_Law_property (a1 : Int32) (a2 : Int32) (a3 : Int32) (h : zx_H) : Option (Int32 × zx_H) :=
  ((zs_Loom_property a1 a2 a3 h).bind (fun r1 => (if r1.1 = 0 then (if zx_in (0 : Int32) 1 = true then (zx_bnd (zx_sJ r1.2.2 52 0 (0 : Int32).toNatClampNeg (r1.2.1.toInt64)) (fun h2 => (some ((0 : Int32), h2)))) else none) else (if r1.1 = 1 then (some ((1 : Int32), r1.2.2)) else (if r1.1 = 2 then (some ((2 : Int32), r1.2.2)) else none)))))
def zs_Law_list (a1 : Int32) (h : zx_H) : Option (Int32 × zx_H) :=
  ((zs_Loom_list a1 h).bind (fun r1 => (if r1.1 = 0 then (if zx_in (0 : Int32) 1 = true then (zx_bnd (zx_sJ r1.2.2 52 0 (0 : Int32).toNatClampNeg (r1.2.1.toInt64)) (fun h2 => (some ((0 : Int32), h2)))) else none) else (if r1.1 = 1 then (some ((1 : Int32), r1.2.2)) else (if r1.1 = 2 then (some ((2 : Int32), r1.2.2)) else none)))))
def zs_Law_method (a1 : Int32) (a2 : Int32) (h : zx_H) : Option (Int32 × zx_H) :=
  ((zs_Loom_method a1 a2 h).bind (fun r1 => (if r1.1 = 0 then (if zx_in (0 : Int32) 1 = true then (zx_bnd (zx_sJ r1.2.2 52 0 (0 : Int32).toNatClampNeg (r1.2.1.toInt64)) (fun h2 => (some ((0 : Int32), h2)))) else none) else (if r1.1 = 1 then (some ((1 : Int32), r1.2.2)) else (if r1.1 = 2 then (some ((2 : Int32), r1.2.2)) else none)))))
def zs_Law_function (a1 : Int32) (a2 : Int32) (a3 : Int32) (a4 : Int32) (h : zx_H) : Option (Int32 × zx_H) :=
  ((zs_Loom_function a1 a2 a3 a4 h).bind (fun r1 => (if r1.1 = 0 then (if zx_in (0 : Int32) 1 = true then (zx_bnd (zx_sJ r1.2.2 52 0 (0 : Int32).toNatClampNeg (r1.2.1.toInt64)) (fun h2 => (some ((0 : Int32), h2)))) else none) else (if r1.1 = 1 then (some ((1 : Int32), r1.2.2)) else (if r1.1 = 2 then (some ((2 : Int32), r1.2.2)) else none)))))
def zs_Law_rule (a1 : Int32) (a2 : Int32) (a3 : Int32) (a4 : Int64) (h : zx_H) : Option (Int32 × zx_H) :=
  ((zs_Loom_rule a1 a2 a3 a4 h).bind (fun r1 => (if r1.1 = 0 then (some ((0 : Int32), r1.2.2)) else (if r1.1 = 1 then (some ((1 : Int32), r1.2.2)) else (if r1.1 = 2 then (some ((2 : Int32), r1.2.2)) else none)))))
def zs_Law_build  (h : zx_H) : Option (Int32 × zx_H) :=
  ((zs_Loom_build h).bind (fun r1 => (if r1.1 = 0 then (if zx_in (0 : Int32) 1 = true then (zx_bnd (zx_sJ r1.2.2 52 0 (0 : Int32).toNatClampNeg (r1.2.1.toInt64)) (fun h2 => (some ((0 : Int32), h2)))) else none) else (if r1.1 = 1 then (some ((1 : Int32), r1.2.2)) else (if r1.1 = 2 then (some ((2 : Int32), r1.2.2)) else none)))))
def zs_Law_make (a1 : Int32) (a2 : Int64) (h : zx_H) : Option (Int32 × zx_H) :=
  ((zs_Loom_make a1 a2 h).bind (fun r1 => (if r1.1 = 0 then (if zx_in (0 : Int32) 1 = true then (zx_bnd (zx_sJ r1.2.2 52 0 (0 : Int32).toNatClampNeg (r1.2.1.toInt64)) (fun h2 => (some ((0 : Int32), h2)))) else none) else (if r1.1 = 1 then (some ((1 : Int32), r1.2.2)) else (if r1.1 = 2 then (some ((2 : Int32), r1.2.2)) else none)))))
def zs_Law_map (a1 : Int32) (a2 : Int32) (h : zx_H) : Option (Int32 × zx_H) :=
  ((zs_Loom_map a1 a2 h).bind (fun r1 => (if r1.1 = 0 then (if zx_in (0 : Int32) 1 = true then (zx_bnd (zx_sJ r1.2.2 52 0 (0 : Int32).toNatClampNeg (r1.2.1.toInt64)) (fun h2 => (some ((0 : Int32), h2)))) else none) else (if r1.1 = 1 then (some ((1 : Int32), r1.2.2)) else (if r1.1 = 2 then (some ((2 : Int32), r1.2.2)) else (if r1.1 = 4 then (some ((3 : Int32), r1.2.2)) else none))))))
def zs_Law_get (a1 : Int32) (a2 : Int32) (h : zx_H) : Option (Int32 × zx_H) :=
  ((zs_Loom_get a1 a2 h).bind (fun r1 => (if r1.1 = 0 then (if zx_in (0 : Int32) 1 = true then (zx_bnd (zx_sJ r1.2.2 52 0 (0 : Int32).toNatClampNeg r1.2.1) (fun h2 => (some ((0 : Int32), h2)))) else none) else (if r1.1 = 3 then (some ((1 : Int32), r1.2.2)) else none))))
def zs_Law_about (a1 : Int32) (a2 : Int32) (h : zx_H) : Option (Int32 × zx_H) :=
  ((zs_Loom_about a1 a2 h).bind (fun r1 => (if r1.1 = 0 then (if zx_in (0 : Int32) 1 = true then (zx_bnd (zx_sJ r1.2.2 52 0 (0 : Int32).toNatClampNeg (r1.2.1.toInt64)) (fun h2 => (some ((0 : Int32), h2)))) else none) else (if r1.1 = 3 then (some ((1 : Int32), r1.2.2)) else none))))
def zs_Law_law_J1138 (L : Nat) (xs : Nat → Int32) (k23 : (Int32 → zx_H → Nat → Option Bool)) (x4 : Int32) (h : zx_H) (c : Nat) : Option Bool :=
  (k23 (x4 + (6 : Int32)) h c)
def zs_Law_law_J213 (L : Nat) (xs : Nat → Int32) (k23 : (Int32 → zx_H → Nat → Option Bool)) (x4 : Int32) (h : zx_H) (c : Nat) : Option Bool :=
  (zs_Law_law_J1138 L xs k23 x4 h c)
def zs_Law_law_J257 (L : Nat) (xs : Nat → Int32) (k23 : (Int32 → zx_H → Nat → Option Bool)) (x4 : Int32) (h : zx_H) (c : Nat) : Option Bool :=
  (zs_Law_law_J1138 L xs k23 x4 h c)
def zs_Law_law_J337 (L : Nat) (xs : Nat → Int32) (k23 : (Int32 → zx_H → Nat → Option Bool)) (x4 : Int32) (h : zx_H) (c : Nat) : Option Bool :=
  (zs_Law_law_J1138 L xs k23 x4 h c)
def zs_Law_law_J393 (L : Nat) (xs : Nat → Int32) (k23 : (Int32 → zx_H → Nat → Option Bool)) (x4 : Int32) (h : zx_H) (c : Nat) : Option Bool :=
  (zs_Law_law_J1138 L xs k23 x4 h c)
def zs_Law_law_J461 (L : Nat) (xs : Nat → Int32) (k23 : (Int32 → zx_H → Nat → Option Bool)) (x4 : Int32) (h : zx_H) (c : Nat) : Option Bool :=
  (zs_Law_law_J1138 L xs k23 x4 h c)
def zs_Law_law_J553 (L : Nat) (xs : Nat → Int32) (k23 : (Int32 → zx_H → Nat → Option Bool)) (x4 : Int32) (h : zx_H) (c : Nat) : Option Bool :=
  (zs_Law_law_J1138 L xs k23 x4 h c)
def zs_Law_law_J701 (L : Nat) (xs : Nat → Int32) (k23 : (Int32 → zx_H → Nat → Option Bool)) (x4 : Int32) (h : zx_H) (c : Nat) : Option Bool :=
  (zs_Law_law_J1138 L xs k23 x4 h c)
def zs_Law_law_J826 (L : Nat) (xs : Nat → Int32) (k23 : (Int32 → zx_H → Nat → Option Bool)) (x4 : Int32) (h : zx_H) (c : Nat) : Option Bool :=
  (zs_Law_law_J1138 L xs k23 x4 h c)
def zs_Law_law_J975 (L : Nat) (xs : Nat → Int32) (k23 : (Int32 → zx_H → Nat → Option Bool)) (x4 : Int32) (h : zx_H) (c : Nat) : Option Bool :=
  (zs_Law_law_J1138 L xs k23 x4 h c)
def zs_Law_law_J1042 (L : Nat) (xs : Nat → Int32) (k23 : (Int32 → zx_H → Nat → Option Bool)) (x4 : Int32) (h : zx_H) (c : Nat) : Option Bool :=
  (zs_Law_law_J1138 L xs k23 x4 h c)
def zs_Law_law_J1110 (L : Nat) (xs : Nat → Int32) (k23 : (Int32 → zx_H → Nat → Option Bool)) (x4 : Int32) (h : zx_H) (c : Nat) : Option Bool :=
  (zs_Law_law_J1138 L xs k23 x4 h c)
def zs_Law_law_L23_body (L : Nat) (xs : Nat → Int32)  (k23 : (Int32 → zx_H → Nat → Option Bool)) (x4 : Int32) (h : zx_H) (c : Nat) : Option Bool :=
  (if c < 100 then (if ((nI L) - (6 : Int32)) < x4 then (some true) else (if zx_in x4 L = true then (zx_chain ((xs x4.toNatClampNeg) &&& (15 : Int32)) [((0 : Int32), (if zx_in (x4 + (1 : Int32)) L = true then (if zx_in (x4 + (2 : Int32)) L = true then (if zx_in (x4 + (3 : Int32)) L = true then ((zs_Law_enumeration ((zx_clshl ((xs (x4 + (1 : Int32)).toNatClampNeg).toInt64) (32 : Int32)) ||| (((xs (x4 + (2 : Int32)).toNatClampNeg).toInt64) &&& (4294967295 : Int64))) (xs (x4 + (3 : Int32)).toNatClampNeg) h).bind (fun r1 => (if zx_in (x4 + (1 : Int32)) L = true then (if zx_in (x4 + (2 : Int32)) L = true then (if zx_in (x4 + (3 : Int32)) L = true then ((zs_Ref_enumeration ((zx_clshl ((xs (x4 + (1 : Int32)).toNatClampNeg).toInt64) (32 : Int32)) ||| (((xs (x4 + (2 : Int32)).toNatClampNeg).toInt64) &&& (4294967295 : Int64))) (xs (x4 + (3 : Int32)).toNatClampNeg) r1.2).bind (fun r2 => ((zs_Ref_thrown r2.2).bind (fun r3 => (if r3 = r1.1 then (if r1.1 = 0 then (if zx_in (0 : Int32) 1 = true then (if (r2.2.2 52 0 (0 : Int32).toNatClampNeg) = (r2.1.toInt64) then (zs_Law_law_J213 L xs k23 x4 r2.2 (c + 1)) else (some false)) else none) else (zs_Law_law_J213 L xs k23 x4 r2.2 (c + 1))) else (some false)))))) else none) else none) else none))) else none) else none) else none)), ((1 : Int32), ((zs_Law_bean h).bind (fun r4 => ((zs_Ref_bean r4.2).bind (fun r5 => ((zs_Ref_thrown r5.2).bind (fun r6 => (if r6 = r4.1 then (if r4.1 = 0 then (if zx_in (0 : Int32) 1 = true then (if (r5.2.2 52 0 (0 : Int32).toNatClampNeg) = (r5.1.toInt64) then (zs_Law_law_J257 L xs k23 x4 r5.2 (c + 1)) else (some false)) else none) else (zs_Law_law_J257 L xs k23 x4 r5.2 (c + 1))) else (some false))))))))), ((2 : Int32), (if zx_in (x4 + (1 : Int32)) L = true then (if zx_in (x4 + (2 : Int32)) L = true then (if zx_in (x4 + (3 : Int32)) L = true then ((zs_Law_property (xs (x4 + (1 : Int32)).toNatClampNeg) (xs (x4 + (2 : Int32)).toNatClampNeg) (xs (x4 + (3 : Int32)).toNatClampNeg) h).bind (fun r7 => (if zx_in (x4 + (1 : Int32)) L = true then (if zx_in (x4 + (2 : Int32)) L = true then (if zx_in (x4 + (3 : Int32)) L = true then ((zs_Ref_property (xs (x4 + (1 : Int32)).toNatClampNeg) (xs (x4 + (2 : Int32)).toNatClampNeg) (xs (x4 + (3 : Int32)).toNatClampNeg) r7.2).bind (fun r8 => ((zs_Ref_thrown r8.2).bind (fun r9 => (if r9 = r7.1 then (if r7.1 = 0 then (if zx_in (0 : Int32) 1 = true then (if (r8.2.2 52 0 (0 : Int32).toNatClampNeg) = (r8.1.toInt64) then (zs_Law_law_J337 L xs k23 x4 r8.2 (c + 1)) else (some false)) else none) else (zs_Law_law_J337 L xs k23 x4 r8.2 (c + 1))) else (some false)))))) else none) else none) else none))) else none) else none) else none)), ((3 : Int32), (if zx_in (x4 + (1 : Int32)) L = true then ((zs_Law_list (xs (x4 + (1 : Int32)).toNatClampNeg) h).bind (fun r10 => (if zx_in (x4 + (1 : Int32)) L = true then ((zs_Ref_list (xs (x4 + (1 : Int32)).toNatClampNeg) r10.2).bind (fun r11 => ((zs_Ref_thrown r11.2).bind (fun r12 => (if r12 = r10.1 then (if r10.1 = 0 then (if zx_in (0 : Int32) 1 = true then (if (r11.2.2 52 0 (0 : Int32).toNatClampNeg) = (r11.1.toInt64) then (zs_Law_law_J393 L xs k23 x4 r11.2 (c + 1)) else (some false)) else none) else (zs_Law_law_J393 L xs k23 x4 r11.2 (c + 1))) else (some false)))))) else none))) else none)), ((4 : Int32), (if zx_in (x4 + (1 : Int32)) L = true then (if zx_in (x4 + (2 : Int32)) L = true then ((zs_Law_method (xs (x4 + (1 : Int32)).toNatClampNeg) (xs (x4 + (2 : Int32)).toNatClampNeg) h).bind (fun r13 => (if zx_in (x4 + (1 : Int32)) L = true then (if zx_in (x4 + (2 : Int32)) L = true then ((zs_Ref_method (xs (x4 + (1 : Int32)).toNatClampNeg) (xs (x4 + (2 : Int32)).toNatClampNeg) r13.2).bind (fun r14 => ((zs_Ref_thrown r14.2).bind (fun r15 => (if r15 = r13.1 then (if r13.1 = 0 then (if zx_in (0 : Int32) 1 = true then (if (r14.2.2 52 0 (0 : Int32).toNatClampNeg) = (r14.1.toInt64) then (zs_Law_law_J461 L xs k23 x4 r14.2 (c + 1)) else (some false)) else none) else (zs_Law_law_J461 L xs k23 x4 r14.2 (c + 1))) else (some false)))))) else none) else none))) else none) else none)), ((5 : Int32), (if zx_in (x4 + (1 : Int32)) L = true then (if zx_in (x4 + (2 : Int32)) L = true then (if zx_in (x4 + (3 : Int32)) L = true then (if zx_in (x4 + (4 : Int32)) L = true then ((zs_Law_function (xs (x4 + (1 : Int32)).toNatClampNeg) (xs (x4 + (2 : Int32)).toNatClampNeg) (xs (x4 + (3 : Int32)).toNatClampNeg) (xs (x4 + (4 : Int32)).toNatClampNeg) h).bind (fun r16 => (if zx_in (x4 + (1 : Int32)) L = true then (if zx_in (x4 + (2 : Int32)) L = true then (if zx_in (x4 + (3 : Int32)) L = true then (if zx_in (x4 + (4 : Int32)) L = true then ((zs_Ref_function (xs (x4 + (1 : Int32)).toNatClampNeg) (xs (x4 + (2 : Int32)).toNatClampNeg) (xs (x4 + (3 : Int32)).toNatClampNeg) (xs (x4 + (4 : Int32)).toNatClampNeg) r16.2).bind (fun r17 => ((zs_Ref_thrown r17.2).bind (fun r18 => (if r18 = r16.1 then (if r16.1 = 0 then (if zx_in (0 : Int32) 1 = true then (if (r17.2.2 52 0 (0 : Int32).toNatClampNeg) = (r17.1.toInt64) then (zs_Law_law_J553 L xs k23 x4 r17.2 (c + 1)) else (some false)) else none) else (zs_Law_law_J553 L xs k23 x4 r17.2 (c + 1))) else (some false)))))) else none) else none) else none) else none))) else none) else none) else none) else none)), ((6 : Int32), (if zx_in (x4 + (1 : Int32)) L = true then (if zx_in (x4 + (2 : Int32)) L = true then (if zx_in (x4 + (3 : Int32)) L = true then (if zx_in (x4 + (4 : Int32)) L = true then (if zx_in (x4 + (5 : Int32)) L = true then ((zs_Law_rule (xs (x4 + (1 : Int32)).toNatClampNeg) (xs (x4 + (2 : Int32)).toNatClampNeg) (xs (x4 + (3 : Int32)).toNatClampNeg) ((zx_clshl ((xs (x4 + (4 : Int32)).toNatClampNeg).toInt64) (32 : Int32)) ||| (((xs (x4 + (5 : Int32)).toNatClampNeg).toInt64) &&& (4294967295 : Int64))) h).bind (fun r19 => (if zx_in (x4 + (1 : Int32)) L = true then (if zx_in (x4 + (2 : Int32)) L = true then (if zx_in (x4 + (3 : Int32)) L = true then (if zx_in (x4 + (4 : Int32)) L = true then (if zx_in (x4 + (5 : Int32)) L = true then ((zs_Ref_rule (xs (x4 + (1 : Int32)).toNatClampNeg) (xs (x4 + (2 : Int32)).toNatClampNeg) (xs (x4 + (3 : Int32)).toNatClampNeg) ((zx_clshl ((xs (x4 + (4 : Int32)).toNatClampNeg).toInt64) (32 : Int32)) ||| (((xs (x4 + (5 : Int32)).toNatClampNeg).toInt64) &&& (4294967295 : Int64))) r19.2).bind (fun r20 => ((zs_Ref_thrown r20).bind (fun r21 => (if r21 = r19.1 then (zs_Law_law_J1138 L xs k23 x4 r20 (c + 1)) else (some false)))))) else none) else none) else none) else none) else none))) else none) else none) else none) else none) else none)), ((7 : Int32), ((zs_Law_build h).bind (fun r22 => ((zs_Ref_build r22.2).bind (fun r23 => ((zs_Ref_thrown r23.2).bind (fun r24 => (if r24 = r22.1 then (if r22.1 = 0 then (if zx_in (0 : Int32) 1 = true then (if (r23.2.2 52 0 (0 : Int32).toNatClampNeg) = (r23.1.toInt64) then (zs_Law_law_J701 L xs k23 x4 r23.2 (c + 1)) else (some false)) else none) else (zs_Law_law_J701 L xs k23 x4 r23.2 (c + 1))) else (some false))))))))), ((8 : Int32), (if zx_in (x4 + (1 : Int32)) L = true then ((zs_Loom_diagnosis (xs (x4 + (1 : Int32)).toNatClampNeg) h).bind (fun r25 => (if zx_in (x4 + (1 : Int32)) L = true then ((zs_Ref_diagnosis (xs (x4 + (1 : Int32)).toNatClampNeg) h).bind (fun r26 => (if r25 = r26.1 then (zs_Law_law_J1138 L xs k23 x4 r26.2 c) else (some false)))) else none))) else none)), ((9 : Int32), (if zx_in (x4 + (1 : Int32)) L = true then (if zx_in (x4 + (2 : Int32)) L = true then (if zx_in (x4 + (3 : Int32)) L = true then ((zs_Law_make (xs (x4 + (1 : Int32)).toNatClampNeg) ((zx_clshl ((xs (x4 + (2 : Int32)).toNatClampNeg).toInt64) (32 : Int32)) ||| (((xs (x4 + (3 : Int32)).toNatClampNeg).toInt64) &&& (4294967295 : Int64))) h).bind (fun r27 => (if zx_in (x4 + (1 : Int32)) L = true then (if zx_in (x4 + (2 : Int32)) L = true then (if zx_in (x4 + (3 : Int32)) L = true then ((zs_Ref_make (xs (x4 + (1 : Int32)).toNatClampNeg) ((zx_clshl ((xs (x4 + (2 : Int32)).toNatClampNeg).toInt64) (32 : Int32)) ||| (((xs (x4 + (3 : Int32)).toNatClampNeg).toInt64) &&& (4294967295 : Int64))) r27.2).bind (fun r28 => ((zs_Ref_thrown r28.2).bind (fun r29 => (if r29 = r27.1 then (if r27.1 = 0 then (if zx_in (0 : Int32) 1 = true then (if (r28.2.2 52 0 (0 : Int32).toNatClampNeg) = (r28.1.toInt64) then (zs_Law_law_J826 L xs k23 x4 r28.2 (c + 1)) else (some false)) else none) else (zs_Law_law_J826 L xs k23 x4 r28.2 (c + 1))) else (some false)))))) else none) else none) else none))) else none) else none) else none)), ((10 : Int32), (if zx_in (x4 + (1 : Int32)) L = true then (if zx_in (x4 + (2 : Int32)) L = true then (if zx_in (x4 + (3 : Int32)) L = true then (if zx_in (x4 + (4 : Int32)) L = true then ((zs_Loom_put (xs (x4 + (1 : Int32)).toNatClampNeg) (xs (x4 + (2 : Int32)).toNatClampNeg) ((zx_clshl ((xs (x4 + (3 : Int32)).toNatClampNeg).toInt64) (32 : Int32)) ||| (((xs (x4 + (4 : Int32)).toNatClampNeg).toInt64) &&& (4294967295 : Int64))) h).bind (fun r30 => (if zx_in (x4 + (1 : Int32)) L = true then (if zx_in (x4 + (2 : Int32)) L = true then (if zx_in (x4 + (3 : Int32)) L = true then (if zx_in (x4 + (4 : Int32)) L = true then ((zs_Ref_put (xs (x4 + (1 : Int32)).toNatClampNeg) (xs (x4 + (2 : Int32)).toNatClampNeg) ((zx_clshl ((xs (x4 + (3 : Int32)).toNatClampNeg).toInt64) (32 : Int32)) ||| (((xs (x4 + (4 : Int32)).toNatClampNeg).toInt64) &&& (4294967295 : Int64))) r30.2).bind (fun r31 => (if (zx_b r30.1) = (zx_b r31.1) then (zs_Law_law_J1138 L xs k23 x4 r31.2 c) else (some false)))) else none) else none) else none) else none))) else none) else none) else none) else none)), ((11 : Int32), (if zx_in (x4 + (1 : Int32)) L = true then (if zx_in (x4 + (2 : Int32)) L = true then ((zs_Law_map (xs (x4 + (1 : Int32)).toNatClampNeg) (xs (x4 + (2 : Int32)).toNatClampNeg) h).bind (fun r32 => (if zx_in (x4 + (1 : Int32)) L = true then (if zx_in (x4 + (2 : Int32)) L = true then ((zs_Ref_map (xs (x4 + (1 : Int32)).toNatClampNeg) (xs (x4 + (2 : Int32)).toNatClampNeg) r32.2).bind (fun r33 => ((zs_Ref_thrown r33.2).bind (fun r34 => (if r34 = r32.1 then (if r32.1 = 0 then (if zx_in (0 : Int32) 1 = true then (if (r33.2.2 52 0 (0 : Int32).toNatClampNeg) = (r33.1.toInt64) then (zs_Law_law_J975 L xs k23 x4 r33.2 (c + 1)) else (some false)) else none) else (zs_Law_law_J975 L xs k23 x4 r33.2 (c + 1))) else (some false)))))) else none) else none))) else none) else none)), ((12 : Int32), (if zx_in (x4 + (1 : Int32)) L = true then (if zx_in (x4 + (2 : Int32)) L = true then ((zs_Law_get (xs (x4 + (1 : Int32)).toNatClampNeg) (xs (x4 + (2 : Int32)).toNatClampNeg) h).bind (fun r35 => (if zx_in (x4 + (1 : Int32)) L = true then (if zx_in (x4 + (2 : Int32)) L = true then ((zs_Ref_get (xs (x4 + (1 : Int32)).toNatClampNeg) (xs (x4 + (2 : Int32)).toNatClampNeg) r35.2).bind (fun r36 => ((zs_Ref_thrown r36.2).bind (fun r37 => (if r37 = r35.1 then (if r35.1 = 0 then (if zx_in (0 : Int32) 1 = true then (if (r36.2.2 52 0 (0 : Int32).toNatClampNeg) = r36.1 then (zs_Law_law_J1042 L xs k23 x4 r36.2 (c + 1)) else (some false)) else none) else (zs_Law_law_J1042 L xs k23 x4 r36.2 (c + 1))) else (some false)))))) else none) else none))) else none) else none)), ((13 : Int32), (if zx_in (x4 + (1 : Int32)) L = true then (if zx_in (x4 + (2 : Int32)) L = true then ((zs_Law_about (xs (x4 + (1 : Int32)).toNatClampNeg) (xs (x4 + (2 : Int32)).toNatClampNeg) h).bind (fun r38 => (if zx_in (x4 + (1 : Int32)) L = true then (if zx_in (x4 + (2 : Int32)) L = true then ((zs_Ref_about (xs (x4 + (1 : Int32)).toNatClampNeg) (xs (x4 + (2 : Int32)).toNatClampNeg) r38.2).bind (fun r39 => ((zs_Ref_thrown r39.2).bind (fun r40 => (if r40 = r38.1 then (if r38.1 = 0 then (if zx_in (0 : Int32) 1 = true then (if (r39.2.2 52 0 (0 : Int32).toNatClampNeg) = (r39.1.toInt64) then (zs_Law_law_J1110 L xs k23 x4 r39.2 (c + 1)) else (some false)) else none) else (zs_Law_law_J1110 L xs k23 x4 r39.2 (c + 1))) else (some false)))))) else none) else none))) else none) else none)), ((14 : Int32), (if zx_in (x4 + (1 : Int32)) L = true then ((zs_Loom_count (xs (x4 + (1 : Int32)).toNatClampNeg) h).bind (fun r41 => (if zx_in (x4 + (1 : Int32)) L = true then ((zs_Ref_count (xs (x4 + (1 : Int32)).toNatClampNeg) h).bind (fun r42 => (if r41 = r42.1 then (zs_Law_law_J1138 L xs k23 x4 r42.2 c) else (some false)))) else none))) else none))] (zs_Law_law_J1138 L xs k23 x4 h c)) else none)) else none)
def zs_Law_law_L23 (L : Nat) (xs : Nat → Int32)  : (Int32 → zx_H → Nat → Option Bool) := zx_loop (fun _ _ _ => none) (zs_Law_law_L23_body L xs ) zx_fuel
