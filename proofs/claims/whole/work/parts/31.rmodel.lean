def rrm_Md_isItem : Room := { frames := 0, cells := 0, slots := 0, locals := 0 }
def rrm_Md_isNode : Room := { frames := 1, cells := 0, slots := 0, locals := 21 }
def rrm_Md_made : Room := { frames := 0, cells := 0, slots := 0, locals := 0 }
def rrm_Md_append : Room := { frames := 0, cells := 0, slots := 0, locals := 0 }
def rrm_Md_node : Room := { frames := 2, cells := 0, slots := 0, locals := 42 }
def rrm_Md_page : Room := { frames := 2, cells := 0, slots := 0, locals := 42 }
def rrm_Md_list : Room := { frames := 2, cells := 0, slots := 0, locals := 42 }
def rrm_Md_within : Room := { frames := 0, cells := 0, slots := 0, locals := 0 }
def rrm_Md_inherit : Room := { frames := 1, cells := 0, slots := 0, locals := 22 }
def rrm_Md_valueOf : Room := { frames := 0, cells := 0, slots := 0, locals := 0 }
def rrm_Md_of : Room := { frames := 1, cells := 0, slots := 0, locals := 24 }
def rrm_Md_goInto : Room := { frames := 0, cells := 0, slots := 0, locals := 0 }
def rrm_Md_begin : Room := { frames := 1, cells := 0, slots := 0, locals := 21 }
def rrm_Md_goUp : Room := { frames := 0, cells := 0, slots := 0, locals := 0 }
def rrm_Md_takePage : Room := { frames := 0, cells := 0, slots := 0, locals := 0 }
def rrm_Md_walk : Room := { frames := 2, cells := 0, slots := 0, locals := 42 }
def rrm_Md_pages : Room := { frames := 3, cells := 0, slots := 0, locals := 65 }
def rrm_Md_at : Room := { frames := 3, cells := 0, slots := 0, locals := 65 }
def rrm_Md_placeOf : Room := { frames := 3, cells := 0, slots := 0, locals := 65 }
def rrm_Md_about : Room := { frames := 4, cells := 0, slots := 0, locals := 88 }
def rrm_Md_kid : Room := { frames := 2, cells := 0, slots := 0, locals := 42 }
def rrm_Md_tell : Room := { frames := 0, cells := 0, slots := 0, locals := 0 }
def rrm_Md_isOnWay : Room := { frames := 0, cells := 0, slots := 0, locals := 0 }
def rrm_Md_takeOff : Room := { frames := 0, cells := 0, slots := 0, locals := 0 }
def rrm_Md_mendKid : Room := { frames := 1, cells := 0, slots := 0, locals := 24 }
def rrm_Md_mend : Room := { frames := 2, cells := 0, slots := 0, locals := 49 }
def rrm_Md_told : Room := { frames := 1, cells := 0, slots := 0, locals := 22 }
def rrm_Md_listed : Room := { frames := 0, cells := 0, slots := 0, locals := 0 }
def rrm_Md_ownAll : Room := { frames := 1, cells := 0, slots := 0, locals := 24 }
def rrm_Md_takeOffAll : Room := { frames := 1, cells := 0, slots := 0, locals := 23 }
def rrm_Md_putAt : Room := { frames := 0, cells := 0, slots := 0, locals := 0 }
def rrm_Md_move : Room := { frames := 4, cells := 0, slots := 0, locals := 88 }
def rrm_Md_copy : Room := { frames := 4, cells := 0, slots := 0, locals := 88 }
def rrm_Md_remove : Room := { frames := 4, cells := 0, slots := 0, locals := 88 }
def rrm_Md_label : Room := { frames := 1, cells := 0, slots := 0, locals := 22 }
def rrm_Md_say : Room := { frames := 0, cells := 0, slots := 0, locals := 0 }
def rrm_Md_sayDigits : Room := { frames := 1, cells := 0, slots := 0, locals := 21 }
def rrm_Md_sayPlace : Room := { frames := 1, cells := 0, slots := 0, locals := 21 }
def rrm_Md_sayRoman : Room := { frames := 2, cells := 0, slots := 0, locals := 46 }
def rrm_Md_sayLabel : Room := { frames := 3, cells := 0, slots := 0, locals := 68 }
def rrm_Md_text : Room := { frames := 4, cells := 0, slots := 0, locals := 93 }
def rrm_Md_named : Room := { frames := 0, cells := 0, slots := 0, locals := 0 }
def rrm_Md_name : Room := { frames := 4, cells := 0, slots := 0, locals := 88 }
def rrm_Md_look : Room := { frames := 1, cells := 0, slots := 0, locals := 23 }
def rrm_Md_needed : Room := { frames := 0, cells := 0, slots := 0, locals := 0 }
def rrm_Md_hang : Room := { frames := 1, cells := 0, slots := 0, locals := 22 }
def rrm_Md_balance : Room := { frames := 3, cells := 0, slots := 0, locals := 65 }
def rrm_Md_count : Room := { frames := 0, cells := 0, slots := 0, locals := 0 }
noncomputable def rM_Md_isItem (σ : St) (x1 : Int32) : Option (Int32) :=
  if x1 < 0 then
      some 0
    else
      if (σ 22 0) ≤ x1 then
        some 0
      else
        some 1
noncomputable def rM_Md_isNode (σ : St) (x1 : Int32) : Option (Int32) :=
  br (rM_Md_isItem σ x1) fun r2 =>
    if r2 = 0 then
      some 0
    else
      gd (inB x1 200) (
      if (σ 0 x1.toNatClampNeg) = 0 then
        some 1
      else
        some 0)
noncomputable def rJ_Md_made_78 (σ : St) : Option (Int32 × St) :=
  lq (sk σ 22 (fun _ => ((σ 22 0) + 1))) fun σ1 =>
    some (((σ1 22 0) - 1), σ1)
noncomputable def rL_Md_made_51 : Nat → St → Int32 → Option (Int32 × St)
  | 0, _, _ => none
  | n + 1, σ, v4 => if 4 ≤ v4 then
        rJ_Md_made_78 σ
      else
        gd (inB ((4 * (σ 22 0)) + v4) 800) (
        lq (sk σ 5 (upd (σ 5) ((((4 * (σ 22 0)) + v4)) : Int32).toNatClampNeg (-1))) fun σ3 =>
        lq (v4 + 1) fun y4 =>
        rL_Md_made_51 n σ3 y4)
noncomputable def rJ_Md_made_37 (σ : St) (t1 : Int32) (t2 : Int32) : Option (Int32 × St) :=
  gd (inB t1 200) (
    lq (sk σ 2 (upd (σ 2) (t1 : Int32).toNatClampNeg t2)) fun σ2 =>
    gd (inB (σ2 22 0) 200) (
    lq (sk σ2 3 (upd (σ2 3) (((σ2 22 0)) : Int32).toNatClampNeg 0)) fun σ4 =>
    rL_Md_made_51 FU σ4 0))
noncomputable def rM_Md_made (σ : St) (x1 : Int32) (x2 : Int32) (x3 : Int32) : Option (Int32 × St) :=
  gd (inB (σ 22 0) 200) (
    lq (sk σ 0 (upd (σ 0) (((σ 22 0)) : Int32).toNatClampNeg ((vp_nar .boolean x1)))) fun σ2 =>
    gd (inB (σ2 22 0) 200) (
    lq (sk σ2 1 (upd (σ2 1) (((σ2 22 0)) : Int32).toNatClampNeg x2)) fun σ4 =>
    if x1 = 0 then
      rJ_Md_made_37 σ4 (σ4 22 0) x3
    else
      rJ_Md_made_37 σ4 (σ4 22 0) 0))
noncomputable def rM_Md_append (σ : St) (x1 : Int32) (x2 : Int32) : Option (St) :=
  gd (inB x1 200) (
    gd (inB ((40 * x1) + (σ 3 x1.toNatClampNeg)) 8000) (
    lq (sk σ 4 (upd (σ 4) ((((40 * x1) + (σ 3 x1.toNatClampNeg))) : Int32).toNatClampNeg x2)) fun σ3 =>
    gd (inB x1 200) (
    gd (inB x1 200) (
    lq (sk σ3 3 (upd (σ3 3) (x1 : Int32).toNatClampNeg (((σ3 3 x1.toNatClampNeg) + 1)))) fun σ6 =>
    some σ6))))
noncomputable def rJ_Md_node_63 (σ : St) (v1 : Int32) (v2 : Int32) : Option (Int32 × St) :=
  bd (rM_Md_made σ 0 v1 v2) fun r2 σ3 =>
    if r2 ≤ 0 then
      some (r2, σ3)
    else
      bv (rM_Md_append σ3 v1 r2) fun σ6 =>
      some (r2, σ6)
noncomputable def rJ_Md_node_25 (σ : St) (v1 : Int32) (v2 : Int32) (t0 : Int32) : Option (Int32 × St) :=
  if t0 = 0 then
      some ((-1), σ)
    else
      if (σ 22 0) = 200 then
        some ((-4), σ)
      else
        if (σ 22 0) ≤ 0 then
          rJ_Md_node_63 σ v1 v2
        else
          gd (inB v1 200) (
          if (σ 3 v1.toNatClampNeg) = 40 then
            some ((-4), σ)
          else
            rJ_Md_node_63 σ v1 v2)
noncomputable def rM_Md_node (σ : St) (x1 : Int32) (x2 : Int32) : Option (Int32 × St) :=
  if (σ 22 0) = 0 then
      if x1 = (-1) then
        rJ_Md_node_25 σ x1 x2 1
      else
        rJ_Md_node_25 σ x1 x2 0
    else
      br (rM_Md_isNode σ x1) fun r3 =>
      rJ_Md_node_25 σ x1 x2 r3
noncomputable def rM_Md_page (σ : St) (x1 : Int32) : Option (Int32 × St) :=
  br (rM_Md_isNode σ x1) fun r2 =>
    if r2 = 0 then
      some ((-1), σ)
    else
      if (σ 22 0) = 200 then
        some ((-4), σ)
      else
        gd (inB x1 200) (
        if (σ 3 x1.toNatClampNeg) = 40 then
          some ((-4), σ)
        else
          bd (rM_Md_made σ 1 x1 0) fun r8 σ9 =>
          bv (rM_Md_append σ9 x1 r8) fun σ11 =>
          some (r8, σ11))
noncomputable def rM_Md_list (σ : St) (x1 : Int32) (x2 : Int32) : Option (Int32 × St) :=
  br (rM_Md_isNode σ x1) fun r2 =>
    if r2 = 0 then
      some ((-1), σ)
    else
      br (rM_Md_isItem σ x2) fun r5 =>
      if r5 = 0 then
        some ((-1), σ)
      else
        gd (inB x1 200) (
        if (σ 3 x1.toNatClampNeg) = 40 then
          some ((-4), σ)
        else
          bv (rM_Md_append σ x1 x2) fun σ10 =>
          gd (inB x1 200) (
          some ((σ10 3 x1.toNatClampNeg), σ10)))
noncomputable def rM_Md_within (σ : St) (x0 : Int32) (x1 : Int32) (x2 : Int32) : Option (Int32) :=
  if x0 < x1 then
      some 0
    else
      if x2 < x0 then
        some 0
      else
        some 1
noncomputable def rM_Md_inherit (σ : St) (x1 : Int32) (x2 : Int32) (x3 : Int32) : Option (Int32 × St) :=
  br (rM_Md_isItem σ x1) fun r2 =>
    if r2 = 0 then
      some ((-1), σ)
    else
      br (rM_Md_within σ x2 0 3) fun r5 =>
      if r5 = 0 then
        some ((-2), σ)
      else
        br (rM_Md_within σ x3 (-1) 100000) fun r8 =>
        if r8 = 0 then
          some ((-2), σ)
        else
          gd (inB ((4 * x1) + x2) 800) (
          lq (sk σ 5 (upd (σ 5) ((((4 * x1) + x2)) : Int32).toNatClampNeg x3)) fun σ11 =>
          some (1, σ11))
noncomputable def rJ_Md_valueOf_44 (σ : St) (v2 : Int32) (v3 : Int32) : Option (Int32) :=
  if 0 ≤ v3 then
      gd (inB ((4 * v3) + v2) 800) (
      some (σ 5 (((4 * v3) + v2)).toNatClampNeg))
    else
      some (-1)
noncomputable def rL_Md_valueOf_5 (σ : St) : Nat → Int32 → Int32 → Int32 → Option (Int32)
  | 0, _, _, _ => none
  | n + 1, v2, v3, v4 => if v3 < 0 then
        rJ_Md_valueOf_44 σ v2 v3
      else
        gd (inB ((4 * v3) + v2) 800) (
        if (σ 5 (((4 * v3) + v2)).toNatClampNeg) = (-1) then
          if 200 ≤ v4 then
            rJ_Md_valueOf_44 σ v2 v3
          else
            gd (inB v3 200) (
            lq (σ 1 v3.toNatClampNeg) fun y6 =>
            lq (v4 + 1) fun y7 =>
            rL_Md_valueOf_5 σ n v2 y6 y7)
        else
          rJ_Md_valueOf_44 σ v2 v3)
noncomputable def rM_Md_valueOf (σ : St) (x1 : Int32) (x2 : Int32) : Option (Int32) :=
  rL_Md_valueOf_5 σ FU x2 x1 0
noncomputable def rM_Md_of (σ : St) (x1 : Int32) (x2 : Int32) : Option (Int32) :=
  br (rM_Md_isItem σ x1) fun r2 =>
    if r2 = 0 then
      some (-1)
    else
      gd (inB x1 200) (
      if (σ 0 x1.toNatClampNeg) = 0 then
        some (-1)
      else
        br (rM_Md_within σ x2 0 3) fun r7 =>
        if r7 = 0 then
          some (-2)
        else
          br (rM_Md_valueOf σ x1 x2) fun r10 =>
          some r10)
noncomputable def rM_Md_goInto (σ : St) (x1 : Int32) : Option (St) :=
  gd (inB x1 200) (
    lq (sk σ 8 (upd (σ 8) (x1 : Int32).toNatClampNeg ((vp_nar .boolean 1)))) fun σ2 =>
    gd (inB (σ2 23 0) 201) (
    lq (sk σ2 6 (upd (σ2 6) (((σ2 23 0)) : Int32).toNatClampNeg x1)) fun σ4 =>
    gd (inB (σ4 23 0) 201) (
    lq (sk σ4 7 (upd (σ4 7) (((σ4 23 0)) : Int32).toNatClampNeg 0)) fun σ6 =>
    gd (inB (σ6 23 0) 201) (
    lq (sk σ6 12 (upd (σ6 12) (((σ6 23 0)) : Int32).toNatClampNeg 0)) fun σ8 =>
    lq (sk σ8 23 (fun _ => ((σ8 23 0) + 1))) fun σ9 =>
    some σ9))))
noncomputable def rJ_Md_begin_33 (σ : St) : Option (St) :=
  if (σ 22 0) ≤ 0 then
      some σ
    else
      bv (rM_Md_goInto σ 0) fun σ3 =>
      some σ3
noncomputable def rL_Md_begin_12 : Nat → St → Int32 → Option (St)
  | 0, _, _ => none
  | n + 1, σ, v1 => if (σ 22 0) ≤ v1 then
        rJ_Md_begin_33 σ
      else
        gd (inB v1 200) (
        lq (sk σ 8 (upd (σ 8) (v1 : Int32).toNatClampNeg ((vp_nar .boolean 0)))) fun σ3 =>
        lq (v1 + 1) fun y4 =>
        rL_Md_begin_12 n σ3 y4)
noncomputable def rM_Md_begin (σ : St) : Option (St) :=
  lq (sk σ 24 (fun _ => 0)) fun σ1 =>
    lq (sk σ1 23 (fun _ => 0)) fun σ2 =>
    rL_Md_begin_12 FU σ2 0
noncomputable def rM_Md_goUp (σ : St) : Option (St) :=
  lq (sk σ 23 (fun _ => ((σ 23 0) - 1))) fun σ1 =>
    if (σ1 23 0) ≤ 0 then
      some σ1
    else
      gd (inB ((σ1 23 0) - 1) 201) (
      gd (inB (σ1 23 0) 201) (
      gd (inB ((σ1 23 0) - 1) 201) (
      lq (sk σ1 12 (upd (σ1 12) ((((σ1 23 0) - 1)) : Int32).toNatClampNeg (((σ1 12 (((σ1 23 0) - 1)).toNatClampNeg) + (σ1 12 ((σ1 23 0)).toNatClampNeg))))) fun σ6 =>
      some σ6)))
noncomputable def rM_Md_takePage (σ : St) (x1 : Int32) : Option (St) :=
  gd (inB x1 200) (
    lq (sk σ 8 (upd (σ 8) (x1 : Int32).toNatClampNeg ((vp_nar .boolean 1)))) fun σ2 =>
    gd (inB (σ2 24 0) 200) (
    lq (sk σ2 9 (upd (σ2 9) (((σ2 24 0)) : Int32).toNatClampNeg x1)) fun σ4 =>
    gd (inB ((σ4 23 0) - 1) 201) (
    gd (inB (σ4 24 0) 200) (
    lq (sk σ4 10 (upd (σ4 10) (((σ4 24 0)) : Int32).toNatClampNeg ((σ4 6 (((σ4 23 0) - 1)).toNatClampNeg)))) fun σ7 =>
    gd (inB ((σ7 23 0) - 1) 201) (
    gd (inB (σ7 24 0) 200) (
    lq (sk σ7 11 (upd (σ7 11) (((σ7 24 0)) : Int32).toNatClampNeg ((σ7 7 (((σ7 23 0) - 1)).toNatClampNeg)))) fun σ10 =>
    lq (sk σ10 24 (fun _ => ((σ10 24 0) + 1))) fun σ11 =>
    gd (inB ((σ11 23 0) - 1) 201) (
    gd (inB ((σ11 23 0) - 1) 201) (
    lq (sk σ11 12 (upd (σ11 12) ((((σ11 23 0) - 1)) : Int32).toNatClampNeg (((σ11 12 (((σ11 23 0) - 1)).toNatClampNeg) + 1)))) fun σ14 =>
    some σ14))))))))
noncomputable def rJ_Md_walk_119 (k4 : St → Option (St)) (σ : St) (v3 : Int32) : Option (St) :=
  gd (inB v3 201) (
    gd (inB v3 201) (
    lq (sk σ 7 (upd (σ 7) (v3 : Int32).toNatClampNeg (((σ 7 v3.toNatClampNeg) + 1)))) fun σ3 =>
    k4 σ3))
noncomputable def rJ_Md_walk_105 (k4 : St → Option (St)) (σ : St) (v2 : Int32) (v3 : Int32) : Option (St) :=
  gd (inB v2 200) (
    if (σ 8 v2.toNatClampNeg) = 0 then
      bv (rM_Md_goInto σ v2) fun σ4 =>
      rJ_Md_walk_119 k4 σ4 v3
    else
      rJ_Md_walk_119 k4 σ v3)
noncomputable def rL_Md_walk_4 : Nat → St → Option (St)
  | 0, _ => none
  | n + 1, σ => if (σ 23 0) ≤ 0 then
        some σ
      else
        gd (inB ((σ 23 0) - 1) 201) (
        lq (σ 6 (((σ 23 0) - 1)).toNatClampNeg) fun y3 =>
        gd (inB ((σ 23 0) - 1) 201) (
        gd (inB y3 200) (
        if (σ 7 (((σ 23 0) - 1)).toNatClampNeg) = (σ 3 y3.toNatClampNeg) then
          bv (rM_Md_goUp σ) fun σ18 =>
          rL_Md_walk_4 n σ18
        else
          gd (inB ((σ 23 0) - 1) 201) (
          gd (inB ((40 * y3) + (σ 7 (((σ 23 0) - 1)).toNatClampNeg)) 8000) (
          lq (σ 4 (((40 * y3) + (σ 7 (((σ 23 0) - 1)).toNatClampNeg))).toNatClampNeg) fun y9 =>
          lq ((σ 23 0) - 1) fun y10 =>
          gd (inB y9 200) (
          if (σ 8 y9.toNatClampNeg) = 0 then
            gd (inB y9 200) (
            if (σ 0 y9.toNatClampNeg) = 0 then
              rJ_Md_walk_105 (fun σ => rL_Md_walk_4 n σ) σ y9 y10
            else
              bv (rM_Md_takePage σ y9) fun σ16 =>
              rJ_Md_walk_119 (fun σ => rL_Md_walk_4 n σ) σ16 y10)
          else
            rJ_Md_walk_105 (fun σ => rL_Md_walk_4 n σ) σ y9 y10))))))
noncomputable def rM_Md_walk (σ : St) : Option (St) :=
  bv (rM_Md_begin σ) fun σ2 =>
    rL_Md_walk_4 FU σ2
noncomputable def rM_Md_pages (σ : St) : Option (Int32 × St) :=
  bv (rM_Md_walk σ) fun σ2 =>
    some ((σ2 24 0), σ2)
noncomputable def rM_Md_at (σ : St) (x1 : Int32) : Option (Int32 × St) :=
  bv (rM_Md_walk σ) fun σ2 =>
    br (rM_Md_within σ2 x1 0 ((σ2 24 0) - 1)) fun r4 =>
    if r4 = 0 then
      some ((-1), σ2)
    else
      gd (inB x1 200) (
      some ((σ2 9 x1.toNatClampNeg), σ2))
noncomputable def rJ_Md_placeOf_31 (k8 : St → Int32 → Int32 → Int32 → Option (Int32 × St)) (σ : St) (v1 : Int32) (v3 : Int32) (t0 : Int32) : Option (Int32 × St) :=
  lq (v3 + 1) fun y1 =>
    k8 σ v1 t0 y1
noncomputable def rL_Md_placeOf_8 : Nat → St → Int32 → Int32 → Int32 → Option (Int32 × St)
  | 0, _, _, _, _ => none
  | n + 1, σ, v1, v2, v3 => if (σ 24 0) ≤ v3 then
        some (v2, σ)
      else
        gd (inB v3 200) (
        if (σ 9 v3.toNatClampNeg) = v1 then
          rJ_Md_placeOf_31 (fun σ z0 z1 z2 => rL_Md_placeOf_8 n σ z0 z1 z2) σ v1 v3 v3
        else
          rJ_Md_placeOf_31 (fun σ z0 z1 z2 => rL_Md_placeOf_8 n σ z0 z1 z2) σ v1 v3 v2)
noncomputable def rM_Md_placeOf (σ : St) (x1 : Int32) : Option (Int32 × St) :=
  bv (rM_Md_walk σ) fun σ2 =>
    rL_Md_placeOf_8 FU σ2 x1 (-1) 0
noncomputable def rM_Md_about (σ : St) (x1 : Int32) (x2 : Int32) : Option (Int32 × St) :=
  br (rM_Md_isItem σ x1) fun r2 =>
    if r2 = 0 then
      some ((-1), σ)
    else
      if x2 = 0 then
        gd (inB x1 200) (
        if (σ 0 x1.toNatClampNeg) = 0 then
          some (0, σ)
        else
          some (1, σ))
      else if x2 = 1 then
        gd (inB x1 200) (
        some ((σ 1 x1.toNatClampNeg), σ))
      else if x2 = 2 then
        gd (inB x1 200) (
        some ((σ 3 x1.toNatClampNeg), σ))
      else if x2 = 3 then
        gd (inB x1 200) (
        some ((σ 2 x1.toNatClampNeg), σ))
      else if x2 = 4 then
        bd (rM_Md_placeOf σ x1) fun r15 σ16 =>
        some (r15, σ16)
      else some ((-2), σ)
noncomputable def rM_Md_kid (σ : St) (x1 : Int32) (x2 : Int32) : Option (Int32) :=
  br (rM_Md_isNode σ x1) fun r2 =>
    if r2 = 0 then
      some (-1)
    else
      gd (inB x1 200) (
      br (rM_Md_within σ x2 0 ((σ 3 x1.toNatClampNeg) - 1)) fun r6 =>
      if r6 = 0 then
        some (-1)
      else
        gd (inB ((40 * x1) + x2) 8000) (
        some (σ 4 (((40 * x1) + x2)).toNatClampNeg)))
noncomputable def rJ_Md_tell_29 (σ : St) : Option (St) :=
  lq (sk σ 25 (fun _ => ((σ 25 0) + 1))) fun σ1 =>
    some σ1
noncomputable def rM_Md_tell (σ : St) (x1 : Int32) (x2 : Int32) : Option (St) :=
  if 100 ≤ (σ 25 0) then
      rJ_Md_tell_29 σ
    else
      gd (inB (σ 25 0) 100) (
      lq (sk σ 13 (upd (σ 13) (((σ 25 0)) : Int32).toNatClampNeg x1)) fun σ3 =>
      gd (inB (σ3 25 0) 100) (
      lq (sk σ3 14 (upd (σ3 14) (((σ3 25 0)) : Int32).toNatClampNeg x2)) fun σ5 =>
      rJ_Md_tell_29 σ5))
noncomputable def rJ_Md_isOnWay_31 (k4 : Int32 → Int32 → Int32 → Option (Int32)) (σ : St) (v1 : Int32) (v3 : Int32) (t0 : Int32) : Option (Int32) :=
  lq (v3 + 1) fun y1 =>
    k4 v1 t0 y1
noncomputable def rJ_Md_isOnWay_26 (k4 : Int32 → Int32 → Int32 → Option (Int32)) (σ : St) (v1 : Int32) (v3 : Int32) : Option (Int32) :=
  rJ_Md_isOnWay_31 k4 σ v1 v3 1
noncomputable def rL_Md_isOnWay_4 (σ : St) : Nat → Int32 → Int32 → Int32 → Option (Int32)
  | 0, _, _, _ => none
  | n + 1, v1, v2, v3 => if (σ 23 0) ≤ v3 then
        gd (boB v2) (some v2)
      else
        if v2 = 0 then
          gd (inB v3 201) (
          if (σ 6 v3.toNatClampNeg) = v1 then
            rJ_Md_isOnWay_26 (fun z0 z1 z2 => rL_Md_isOnWay_4 σ n z0 z1 z2) σ v1 v3
          else
            rJ_Md_isOnWay_31 (fun z0 z1 z2 => rL_Md_isOnWay_4 σ n z0 z1 z2) σ v1 v3 0)
        else
          rJ_Md_isOnWay_26 (fun z0 z1 z2 => rL_Md_isOnWay_4 σ n z0 z1 z2) σ v1 v3
noncomputable def rM_Md_isOnWay (σ : St) (x1 : Int32) : Option (Int32) :=
  rL_Md_isOnWay_4 σ FU x1 0 0
noncomputable def rL_Md_takeOff_12 : Nat → St → Int32 → Int32 → Option (St)
  | 0, _, _, _ => none
  | n + 1, σ, v1, v3 => gd (inB v1 200) (
      if (σ 3 v1.toNatClampNeg) ≤ v3 then
        some σ
      else
        gd (inB (((40 * v1) + v3) + 1) 8000) (
        gd (inB ((40 * v1) + v3) 8000) (
        lq (sk σ 4 (upd (σ 4) ((((40 * v1) + v3)) : Int32).toNatClampNeg ((σ 4 ((((40 * v1) + v3) + 1)).toNatClampNeg)))) fun σ5 =>
        lq (v3 + 1) fun y6 =>
        rL_Md_takeOff_12 n σ5 v1 y6)))
noncomputable def rM_Md_takeOff (σ : St) (x1 : Int32) (x2 : Int32) : Option (St) :=
  gd (inB x1 200) (
    gd (inB x1 200) (
    lq (sk σ 3 (upd (σ 3) (x1 : Int32).toNatClampNeg (((σ 3 x1.toNatClampNeg) - 1)))) fun σ3 =>
    rL_Md_takeOff_12 FU σ3 x1 x2))
noncomputable def rJ_Md_mendKid_35 (σ : St) (v1 : Int32) (v2 : Int32) (v3 : Int32) (t1 : Int32) : Option (Int32 × St) :=
  bv (rM_Md_tell σ t1 v3) fun σ2 =>
    bv (rM_Md_takeOff σ2 v1 v2) fun σ4 =>
    some (0, σ4)
noncomputable def rJ_Md_mendKid_124 (σ : St) (v1 : Int32) (v2 : Int32) (v4 : Int32) : Option (Int32 × St) :=
  gd (inB v4 200) (
    lq (sk σ 8 (upd (σ 8) (v4 : Int32).toNatClampNeg ((vp_nar .boolean 0)))) fun σ2 =>
    gd (inB ((40 * v1) + v2) 8000) (
    lq (sk σ2 4 (upd (σ2 4) ((((40 * v1) + v2)) : Int32).toNatClampNeg v4)) fun σ4 =>
    some (1, σ4)))
noncomputable def rL_Md_mendKid_89 : Nat → St → Int32 → Int32 → Int32 → Int32 → Int32 → Option (Int32 × St)
  | 0, _, _, _, _, _, _ => none
  | n + 1, σ, v1, v2, v3, v4, v5 => if 4 ≤ v5 then
        rJ_Md_mendKid_124 σ v1 v2 v4
      else
        gd (inB ((4 * v3) + v5) 800) (
        gd (inB ((4 * v4) + v5) 800) (
        lq (sk σ 5 (upd (σ 5) ((((4 * v4) + v5)) : Int32).toNatClampNeg ((σ 5 (((4 * v3) + v5)).toNatClampNeg)))) fun σ4 =>
        lq (v5 + 1) fun y5 =>
        rL_Md_mendKid_89 n σ4 v1 v2 v3 v4 y5))
noncomputable def rM_Md_mendKid (σ : St) (x1 : Int32) (x2 : Int32) : Option (Int32 × St) :=
  gd (inB ((40 * x1) + x2) 8000) (
    lq (σ 4 (((40 * x1) + x2)).toNatClampNeg) fun y2 =>
    gd (inB y2 200) (
    if (σ 0 y2.toNatClampNeg) = 0 then
      br (rM_Md_isOnWay σ y2) fun r16 =>
      if r16 = 0 then
        rJ_Md_mendKid_35 σ x1 x2 y2 2
      else
        rJ_Md_mendKid_35 σ x1 x2 y2 1
    else
      if (σ 22 0) = 200 then
        bv (rM_Md_tell σ 5 y2) fun σ12 =>
        bv (rM_Md_takeOff σ12 x1 x2) fun σ14 =>
        some (0, σ14)
      else
        bv (rM_Md_tell σ 3 y2) fun σ7 =>
        bd (rM_Md_made σ7 1 x1 0) fun r9 σ10 =>
        rL_Md_mendKid_89 FU σ10 x1 x2 y2 r9 0))
noncomputable def rJ_Md_mend_78 (k9 : St → Option (Int32 × St)) (σ : St) : Option (Int32 × St) :=
  bv (rM_Md_goUp σ) fun σ2 =>
    k9 σ2
noncomputable def rJ_Md_mend_174 (k9 : St → Option (Int32 × St)) (σ : St) (v1 : Int32) : Option (Int32 × St) :=
  gd (inB v1 201) (
    gd (inB v1 201) (
    lq (sk σ 7 (upd (σ 7) (v1 : Int32).toNatClampNeg (((σ 7 v1.toNatClampNeg) + 1)))) fun σ3 =>
    k9 σ3))
noncomputable def rJ_Md_mend_128 (k9 : St → Option (Int32 × St)) (σ : St) (v1 : Int32) (v2 : Int32) : Option (Int32 × St) :=
  gd (inB v1 201) (
    gd (inB ((40 * v2) + (σ 7 v1.toNatClampNeg)) 8000) (
    lq (σ 4 (((40 * v2) + (σ 7 v1.toNatClampNeg))).toNatClampNeg) fun y3 =>
    gd (inB y3 200) (
    lq (sk σ 1 (upd (σ 1) (y3 : Int32).toNatClampNeg v2)) fun σ5 =>
    gd (inB y3 200) (
    if (σ5 0 y3.toNatClampNeg) = 0 then
      bv (rM_Md_goInto σ5 y3) fun σ9 =>
      rJ_Md_mend_174 k9 σ9 v1
    else
      bv (rM_Md_takePage σ5 y3) fun σ11 =>
      rJ_Md_mend_174 k9 σ11 v1))))
noncomputable def rL_Md_mend_9 : Nat → St → Option (Int32 × St)
  | 0, _ => none
  | n + 1, σ => if (σ 23 0) ≤ 0 then
        some ((σ 25 0), σ)
      else
        lq ((σ 23 0) - 1) fun y2 =>
        gd (inB y2 201) (
        lq (σ 6 y2.toNatClampNeg) fun y4 =>
        gd (inB y2 201) (
        gd (inB y4 200) (
        if (σ 7 y2.toNatClampNeg) = (σ 3 y4.toNatClampNeg) then
          gd (inB y4 200) (
          gd (inB y2 201) (
          if (σ 2 y4.toNatClampNeg) = (σ 12 y2.toNatClampNeg) then
            rJ_Md_mend_78 (fun σ => rL_Md_mend_9 n σ) σ
          else
            bv (rM_Md_tell σ 4 y4) fun σ22 =>
            gd (inB y2 201) (
            gd (inB y4 200) (
            lq (sk σ22 2 (upd (σ22 2) (y4 : Int32).toNatClampNeg ((σ22 12 y2.toNatClampNeg)))) fun σ25 =>
            rJ_Md_mend_78 (fun σ => rL_Md_mend_9 n σ) σ25))))
        else
          gd (inB y2 201) (
          gd (inB ((40 * y4) + (σ 7 y2.toNatClampNeg)) 8000) (
          lq (σ 4 (((40 * y4) + (σ 7 y2.toNatClampNeg))).toNatClampNeg) fun y10 =>
          gd (inB y10 200) (
          if (σ 8 y10.toNatClampNeg) = 0 then
            rJ_Md_mend_128 (fun σ => rL_Md_mend_9 n σ) σ y2 y4
          else
            gd (inB y2 201) (
            bd (rM_Md_mendKid σ y4 (σ 7 y2.toNatClampNeg)) fun r15 σ16 =>
            if r15 = 0 then
              rL_Md_mend_9 n σ16
            else
              rJ_Md_mend_128 (fun σ => rL_Md_mend_9 n σ) σ16 y2 y4)))))))
noncomputable def rM_Md_mend (σ : St) : Option (Int32 × St) :=
  lq (sk σ 25 (fun _ => 0)) fun σ1 =>
    bv (rM_Md_begin σ1) fun σ3 =>
    rL_Md_mend_9 FU σ3
noncomputable def rJ_Md_told_42 (σ : St) (v1 : Int32) (v2 : Int32) (t0 : Int32) : Option (Int32) :=
  if t0 = 0 then
      some (-1)
    else
      if v2 = 0 then
        gd (inB v1 100) (
        some (σ 13 v1.toNatClampNeg))
      else
        gd (inB v1 100) (
        some (σ 14 v1.toNatClampNeg))
noncomputable def rJ_Md_told_41 (σ : St) (v1 : Int32) (v2 : Int32) : Option (Int32) :=
  rJ_Md_told_42 σ v1 v2 0
noncomputable def rJ_Md_told_20 (σ : St) (v1 : Int32) (v2 : Int32) (t0 : Int32) (t1 : Int32) (t2 : Int32) : Option (Int32) :=
  br (rM_Md_within σ t0 t1 (t2 - 1)) fun r2 =>
    if r2 = 0 then
      rJ_Md_told_41 σ v1 v2
    else
      br (rM_Md_within σ v2 0 1) fun r5 =>
      if r5 = 0 then
        rJ_Md_told_41 σ v1 v2
      else
        rJ_Md_told_42 σ v1 v2 1
noncomputable def rM_Md_told (σ : St) (x1 : Int32) (x2 : Int32) : Option (Int32) :=
  if 100 ≤ (σ 25 0) then
      rJ_Md_told_20 σ x1 x2 x1 0 100
    else
      rJ_Md_told_20 σ x1 x2 x1 0 (σ 25 0)
noncomputable def rJ_Md_listed_38 (k5 : Int32 → Int32 → Int32 → Int32 → Option (Int32)) (σ : St) (v1 : Int32) (v2 : Int32) (v4 : Int32) (t0 : Int32) (t1 : Int32) : Option (Int32) :=
  lq (t0 + t1) fun y1 =>
    lq (v4 + 1) fun y2 =>
    k5 v1 v2 y1 y2
noncomputable def rL_Md_listed_5 (σ : St) : Nat → Int32 → Int32 → Int32 → Int32 → Option (Int32)
  | 0, _, _, _, _ => none
  | n + 1, v1, v2, v3, v4 => gd (inB v1 200) (
      if (σ 3 v1.toNatClampNeg) ≤ v4 then
        some v3
      else
        gd (inB ((40 * v1) + v4) 8000) (
        if (σ 4 (((40 * v1) + v4)).toNatClampNeg) = v2 then
          rJ_Md_listed_38 (fun z0 z1 z2 z3 => rL_Md_listed_5 σ n z0 z1 z2 z3) σ v1 v2 v4 v3 1
        else
          rJ_Md_listed_38 (fun z0 z1 z2 z3 => rL_Md_listed_5 σ n z0 z1 z2 z3) σ v1 v2 v4 v3 0))
noncomputable def rM_Md_listed (σ : St) (x1 : Int32) (x2 : Int32) : Option (Int32) :=
  rL_Md_listed_5 σ FU x1 x2 0 0
noncomputable def rL_Md_ownAll_2 : Nat → St → Int32 → Int32 → Option (St)
  | 0, _, _, _ => none
  | n + 1, σ, v1, v2 => if 4 ≤ v2 then
        some σ
      else
        br (rM_Md_valueOf σ v1 v2) fun r3 =>
        gd (inB ((4 * v1) + v2) 800) (
        lq (sk σ 5 (upd (σ 5) ((((4 * v1) + v2)) : Int32).toNatClampNeg r3)) fun σ5 =>
        lq (v2 + 1) fun y6 =>
        rL_Md_ownAll_2 n σ5 v1 y6)
noncomputable def rM_Md_ownAll (σ : St) (x1 : Int32) : Option (St) :=
  rL_Md_ownAll_2 FU σ x1 0
noncomputable def rJ_Md_takeOffAll_52 (k2 : St → Int32 → Int32 → Option (St)) (σ : St) (v1 : Int32) (v2 : Int32) : Option (St) :=
  lq (v2 + 1) fun y1 =>
    k2 σ v1 y1
noncomputable def rL_Md_takeOffAll_12 (k2 : St → Int32 → Int32 → Option (St)) : Nat → St → Int32 → Int32 → Int32 → Option (St)
  | 0, _, _, _, _ => none
  | n + 1, σ, v1, v2, v3 => gd (inB v2 200) (
      if (σ 3 v2.toNatClampNeg) ≤ v3 then
        rJ_Md_takeOffAll_52 k2 σ v1 v2
      else
        gd (inB ((40 * v2) + v3) 8000) (
        if (σ 4 (((40 * v2) + v3)).toNatClampNeg) = v1 then
          bv (rM_Md_takeOff σ v2 v3) fun σ7 =>
          rL_Md_takeOffAll_12 k2 n σ7 v1 v2 v3
        else
          lq (v3 + 1) fun y5 =>
          rL_Md_takeOffAll_12 k2 n σ v1 v2 y5))
noncomputable def rL_Md_takeOffAll_2 : Nat → St → Int32 → Int32 → Option (St)
  | 0, _, _, _ => none
  | n + 1, σ, v1, v2 => if (σ 22 0) ≤ v2 then
        some σ
      else
        rL_Md_takeOffAll_12 (fun σ z0 z1 => rL_Md_takeOffAll_2 n σ z0 z1) FU σ v1 v2 0
noncomputable def rM_Md_takeOffAll (σ : St) (x1 : Int32) : Option (St) :=
  rL_Md_takeOffAll_2 FU σ x1 0
noncomputable def rJ_Md_putAt_46 (σ : St) (v1 : Int32) (v2 : Int32) (v3 : Int32) : Option (St) :=
  gd (inB ((40 * v1) + v2) 8000) (
    lq (sk σ 4 (upd (σ 4) ((((40 * v1) + v2)) : Int32).toNatClampNeg v3)) fun σ2 =>
    gd (inB v1 200) (
    gd (inB v1 200) (
    lq (sk σ2 3 (upd (σ2 3) (v1 : Int32).toNatClampNeg (((σ2 3 v1.toNatClampNeg) + 1)))) fun σ5 =>
    gd (inB v3 200) (
    lq (sk σ5 1 (upd (σ5 1) (v3 : Int32).toNatClampNeg v1)) fun σ7 =>
    some σ7))))
noncomputable def rL_Md_putAt_8 : Nat → St → Int32 → Int32 → Int32 → Int32 → Option (St)
  | 0, _, _, _, _, _ => none
  | n + 1, σ, v1, v2, v3, v4 => if v4 ≤ v2 then
        rJ_Md_putAt_46 σ v1 v2 v3
      else
        gd (inB (((40 * v1) + v4) - 1) 8000) (
        gd (inB ((40 * v1) + v4) 8000) (
        lq (sk σ 4 (upd (σ 4) ((((40 * v1) + v4)) : Int32).toNatClampNeg ((σ 4 ((((40 * v1) + v4) - 1)).toNatClampNeg)))) fun σ4 =>
        lq (v4 + (-1)) fun y5 =>
        rL_Md_putAt_8 n σ4 v1 v2 v3 y5))
noncomputable def rM_Md_putAt (σ : St) (x1 : Int32) (x2 : Int32) (x3 : Int32) : Option (St) :=
  gd (inB x1 200) (
    lq (σ 3 x1.toNatClampNeg) fun y2 =>
    rL_Md_putAt_8 FU σ x1 x2 x3 y2)
noncomputable def rJ_Md_move_187 (σ : St) (v1 : Int32) (v2 : Int32) (t1 : Int32) (t2 : Int32) (t3 : Int32) : Option (Int32 × St) :=
  bv (rM_Md_putAt σ t1 (t2 + t3) v1) fun σ2 =>
    some (v2, σ2)
noncomputable def rJ_Md_move_101 (σ : St) (v1 : Int32) (v2 : Int32) (v4 : Int32) (t0 : Int32) : Option (Int32 × St) :=
  gd (inB t0 200) (
    lq (σ 9 t0.toNatClampNeg) fun y2 =>
    gd (inB t0 200) (
    lq (σ 10 t0.toNatClampNeg) fun y4 =>
    gd (inB y4 200) (
    br (rM_Md_listed σ y4 v1) fun r7 =>
    if ((σ 3 y4.toNatClampNeg) - r7) < 40 then
      bv (rM_Md_ownAll σ v1) fun σ10 =>
      bv (rM_Md_takeOffAll σ10 v1) fun σ12 =>
      bd (rM_Md_placeOf σ12 y2) fun r14 σ15 =>
      gd (inB r14 200) (
      gd (inB r14 200) (
      if v4 = 0 then
        rJ_Md_move_187 σ15 v1 v2 (σ15 10 r14.toNatClampNeg) (σ15 11 r14.toNatClampNeg) 0
      else
        rJ_Md_move_187 σ15 v1 v2 (σ15 10 r14.toNatClampNeg) (σ15 11 r14.toNatClampNeg) 1))
    else
      some ((-4), σ))))
noncomputable def rJ_Md_move_54 (σ : St) (v1 : Int32) (v2 : Int32) (v3 : Int32) (t0 : Int32) : Option (Int32 × St) :=
  if t0 = 0 then
      if v3 ≤ v2 then
        rJ_Md_move_101 σ v1 v2 t0 (v2 + 1)
      else
        rJ_Md_move_101 σ v1 v2 t0 v2
    else
      if v3 = ((σ 24 0) - 1) then
        rJ_Md_move_101 σ v1 v2 t0 ((σ 24 0) - 2)
      else
        rJ_Md_move_101 σ v1 v2 t0 ((σ 24 0) - 1)
noncomputable def rM_Md_move (σ : St) (x1 : Int32) (x2 : Int32) : Option (Int32 × St) :=
  bd (rM_Md_placeOf σ x1) fun r2 σ3 =>
    if 0 ≤ r2 then
      br (rM_Md_within σ3 x2 0 ((σ3 24 0) - 1)) fun r6 =>
      if r6 = 0 then
        some ((-2), σ3)
      else
        if (σ3 24 0) = 1 then
          some (0, σ3)
        else
          if x2 = ((σ3 24 0) - 1) then
            rJ_Md_move_54 σ3 x1 x2 r2 1
          else
            rJ_Md_move_54 σ3 x1 x2 r2 0
    else
      some ((-1), σ3)
noncomputable def rJ_Md_copy_94 (σ : St) (v3 : Int32) (v4 : Int32) (v5 : Int32) : Option (Int32 × St) :=
  bv (rM_Md_putAt σ v3 (v4 + 1) v5) fun σ2 =>
    some (v5, σ2)
noncomputable def rL_Md_copy_63 : Nat → St → Int32 → Int32 → Int32 → Int32 → Int32 → Option (Int32 × St)
  | 0, _, _, _, _, _, _ => none
  | n + 1, σ, v1, v3, v4, v5, v6 => if 4 ≤ v6 then
        rJ_Md_copy_94 σ v3 v4 v5
      else
        br (rM_Md_valueOf σ v1 v6) fun r3 =>
        gd (inB ((4 * v5) + v6) 800) (
        lq (sk σ 5 (upd (σ 5) ((((4 * v5) + v6)) : Int32).toNatClampNeg r3)) fun σ5 =>
        lq (v6 + 1) fun y6 =>
        rL_Md_copy_63 n σ5 v1 v3 v4 v5 y6)
noncomputable def rM_Md_copy (σ : St) (x1 : Int32) : Option (Int32 × St) :=
  bd (rM_Md_placeOf σ x1) fun r2 σ3 =>
    if 0 ≤ r2 then
      gd (inB r2 200) (
      lq (σ3 10 r2.toNatClampNeg) fun y6 =>
      gd (inB r2 200) (
      lq (σ3 11 r2.toNatClampNeg) fun y8 =>
      if (σ3 22 0) = 200 then
        some ((-4), σ3)
      else
        gd (inB y6 200) (
        if (σ3 3 y6.toNatClampNeg) = 40 then
          some ((-4), σ3)
        else
          bd (rM_Md_made σ3 1 y6 0) fun r13 σ14 =>
          rL_Md_copy_63 FU σ14 x1 y6 y8 r13 0)))
    else
      some ((-1), σ3)
noncomputable def rJ_Md_remove_95 (k40 : St → Int32 → Int32 → Int32 → Int32 → Option (Int32 × St)) (σ : St) (v1 : Int32) (v2 : Int32) (v3 : Int32) (v4 : Int32) : Option (Int32 × St) :=
  lq (v4 + 1) fun y1 =>
    k40 σ v1 v2 v3 y1
noncomputable def rJ_Md_remove_101 (σ : St) (v2 : Int32) (v3 : Int32) : Option (Int32 × St) :=
  lq (sk σ 27 (fun _ => v3)) fun σ1 =>
    some (v2, σ1)
noncomputable def rL_Md_remove_40 : Nat → St → Int32 → Int32 → Int32 → Int32 → Option (Int32 × St)
  | 0, _, _, _, _, _ => none
  | n + 1, σ, v1, v2, v3, v4 => if (σ 27 0) ≤ v4 then
        rJ_Md_remove_101 σ v2 v3
      else
        gd (inB v4 60) (
        if (σ 19 v4.toNatClampNeg) = v1 then
          lq (v2 + 1) fun y11 =>
          rJ_Md_remove_95 (fun σ z0 z1 z2 z3 => rL_Md_remove_40 n σ z0 z1 z2 z3) σ v1 y11 v3 v4
        else
          gd (inB v4 60) (
          gd (inB v3 60) (
          lq (sk σ 18 (upd (σ 18) (v3 : Int32).toNatClampNeg ((σ 18 v4.toNatClampNeg)))) fun σ6 =>
          gd (inB v4 60) (
          gd (inB v3 60) (
          lq (sk σ6 19 (upd (σ6 19) (v3 : Int32).toNatClampNeg ((σ6 19 v4.toNatClampNeg)))) fun σ9 =>
          lq (v3 + 1) fun y10 =>
          rJ_Md_remove_95 (fun σ z0 z1 z2 z3 => rL_Md_remove_40 n σ z0 z1 z2 z3) σ9 v1 v2 y10 v4)))))
noncomputable def rM_Md_remove (σ : St) (x1 : Int32) : Option (Int32 × St) :=
  bd (rM_Md_placeOf σ x1) fun r2 σ3 =>
    if 0 ≤ r2 then
      if (σ3 24 0) = 1 then
        some ((-3), σ3)
      else
        bv (rM_Md_takeOffAll σ3 x1) fun σ7 =>
        gd (inB x1 200) (
        lq (sk σ7 1 (upd (σ7 1) (x1 : Int32).toNatClampNeg (-1))) fun σ9 =>
        rL_Md_remove_40 FU σ9 x1 0 0 0)
    else
      some ((-1), σ3)
noncomputable def rJ_Md_label_70 (k43 : St → Int32 → Int32 → Int32 → Int32 → Int32 → Option (Int32 × St)) (σ : St) (v1 : Int32) (v2 : Int32) (v3 : Int32) (v5 : Int32) (t0 : Int32) : Option (Int32 × St) :=
  lq (v5 + 1) fun y1 =>
    k43 σ v1 v2 v3 t0 y1
noncomputable def rJ_Md_label_135 (σ : St) (t1 : Int32) : Option (Int32 × St) :=
  lq (sk σ 26 (fun _ => t1)) fun σ1 =>
    some ((σ1 26 0), σ1)
noncomputable def rJ_Md_label_78 (σ : St) (v1 : Int32) (v2 : Int32) (v3 : Int32) (v4 : Int32) : Option (Int32 × St) :=
  if v4 = 20 then
      some ((-4), σ)
    else
      gd (inB v4 20) (
      lq (sk σ 15 (upd (σ 15) (v4 : Int32).toNatClampNeg v1)) fun σ3 =>
      gd (inB v4 20) (
      lq (sk σ3 16 (upd (σ3 16) (v4 : Int32).toNatClampNeg v2)) fun σ5 =>
      gd (inB v4 20) (
      lq (sk σ5 17 (upd (σ5 17) (v4 : Int32).toNatClampNeg v3)) fun σ7 =>
      if v4 = (σ7 26 0) then
        rJ_Md_label_135 σ7 ((σ7 26 0) + 1)
      else
        rJ_Md_label_135 σ7 (σ7 26 0))))
noncomputable def rL_Md_label_43 : Nat → St → Int32 → Int32 → Int32 → Int32 → Int32 → Option (Int32 × St)
  | 0, _, _, _, _, _, _ => none
  | n + 1, σ, v1, v2, v3, v4, v5 => if (σ 26 0) ≤ v5 then
        rJ_Md_label_78 σ v1 v2 v3 v4
      else
        gd (inB v5 20) (
        if (σ 15 v5.toNatClampNeg) = v1 then
          rJ_Md_label_70 (fun σ z0 z1 z2 z3 z4 => rL_Md_label_43 n σ z0 z1 z2 z3 z4) σ v1 v2 v3 v5 v5
        else
          rJ_Md_label_70 (fun σ z0 z1 z2 z3 z4 => rL_Md_label_43 n σ z0 z1 z2 z3 z4) σ v1 v2 v3 v5 v4)
noncomputable def rM_Md_label (σ : St) (x1 : Int32) (x2 : Int32) (x3 : Int32) : Option (Int32 × St) :=
  br (rM_Md_within σ x1 0 199) fun r2 =>
    if r2 = 0 then
      some ((-2), σ)
    else
      br (rM_Md_within σ x2 0 2) fun r5 =>
      if r5 = 0 then
        some ((-2), σ)
      else
        br (rM_Md_within σ x3 1 1000) fun r8 =>
        if r8 = 0 then
          some ((-2), σ)
        else
          lq (σ 26 0) fun y10 =>
          rL_Md_label_43 FU σ x1 x2 x3 y10 0
noncomputable def rM_Md_say (σ : St) (x1 : Int32) : Option (St) :=
  gd (inB (σ 28 0) 60) (
    lq (sk σ 20 (upd (σ 20) (((σ 28 0)) : Int32).toNatClampNeg x1)) fun σ2 =>
    lq (sk σ2 28 (fun _ => ((σ2 28 0) + 1))) fun σ3 =>
    some σ3)
noncomputable def rL_Md_sayDigits_18 : Nat → St → Int32 → Int32 → Option (St)
  | 0, _, _, _ => none
  | n + 1, σ, v1, v2 => if v2 ≤ 0 then
        some σ
      else
        gd (nzB v2) (
        bv (rM_Md_say σ (48 + ((v1 / v2) - (v1 / v2) / 10 * 10))) fun σ4 =>
        lq (v2 / 10) fun y5 =>
        rL_Md_sayDigits_18 n σ4 v1 y5)
noncomputable def rL_Md_sayDigits_2 : Nat → St → Int32 → Int32 → Option (St)
  | 0, _, _, _ => none
  | n + 1, σ, v1, v2 => gd (nzB v2) (
      if (v1 / v2) ≤ 9 then
        rL_Md_sayDigits_18 FU σ v1 v2
      else
        lq (v2 * 10) fun y3 =>
        rL_Md_sayDigits_2 n σ v1 y3)
noncomputable def rM_Md_sayDigits (σ : St) (x1 : Int32) : Option (St) :=
  rL_Md_sayDigits_2 FU σ x1 1
noncomputable def rL_Md_sayPlace_47 : Nat → St → Int32 → Int32 → Int32 → Option (St)
  | 0, _, _, _, _ => none
  | n + 1, σ, v1, v2, v5 => if (v1 - v1 / 5 * 5) ≤ v5 then
        some σ
      else
        bv (rM_Md_say σ v2) fun σ3 =>
        lq (v5 + 1) fun y4 =>
        rL_Md_sayPlace_47 n σ3 v1 v2 y4
noncomputable def rJ_Md_sayPlace_44 (σ : St) (v1 : Int32) (v2 : Int32) : Option (St) :=
  rL_Md_sayPlace_47 FU σ v1 v2 0
noncomputable def rM_Md_sayPlace (σ : St) (x1 : Int32) (x2 : Int32) (x3 : Int32) (x4 : Int32) : Option (St) :=
  if x1 = 9 then
      bv (rM_Md_say σ x2) fun σ11 =>
      bv (rM_Md_say σ11 x4) fun σ13 =>
      some σ13
    else
      if x1 = 4 then
        bv (rM_Md_say σ x2) fun σ7 =>
        bv (rM_Md_say σ7 x3) fun σ9 =>
        some σ9
      else
        if x1 ≤ 4 then
          rJ_Md_sayPlace_44 σ x1 x2
        else
          bv (rM_Md_say σ x3) fun σ5 =>
          rJ_Md_sayPlace_44 σ5 x1 x2
noncomputable def rJ_Md_sayRoman_23 (σ : St) (v1 : Int32) : Option (St) :=
  bv (rM_Md_sayPlace σ ((v1 / 100) - (v1 / 100) / 10 * 10) 99 100 109) fun σ2 =>
    bv (rM_Md_sayPlace σ2 ((v1 / 10) - (v1 / 10) / 10 * 10) 120 108 99) fun σ4 =>
    bv (rM_Md_sayPlace σ4 (v1 - v1 / 10 * 10) 105 118 120) fun σ6 =>
    some σ6
noncomputable def rL_Md_sayRoman_2 : Nat → St → Int32 → Int32 → Option (St)
  | 0, _, _, _ => none
  | n + 1, σ, v1, v2 => if (v1 / 1000) ≤ v2 then
        rJ_Md_sayRoman_23 σ v1
      else
        bv (rM_Md_say σ 109) fun σ3 =>
        lq (v2 + 1) fun y4 =>
        rL_Md_sayRoman_2 n σ3 v1 y4
noncomputable def rM_Md_sayRoman (σ : St) (x1 : Int32) : Option (St) :=
  rL_Md_sayRoman_2 FU σ x1 0
noncomputable def rJ_Md_sayLabel_63 (k9 : St → Int32 → Int32 → Int32 → Option (St)) (σ : St) (v1 : Int32) (v3 : Int32) (t0 : Int32) : Option (St) :=
  lq (v3 + 1) fun y1 =>
    k9 σ v1 t0 y1
noncomputable def rJ_Md_sayLabel_51 (k9 : St → Int32 → Int32 → Int32 → Option (St)) (σ : St) (v1 : Int32) (v2 : Int32) (v3 : Int32) (t0 : Int32) : Option (St) :=
  if t0 = 0 then
      rJ_Md_sayLabel_63 k9 σ v1 v3 v2
    else
      rJ_Md_sayLabel_63 k9 σ v1 v3 v3
noncomputable def rJ_Md_sayLabel_46 (k9 : St → Int32 → Int32 → Int32 → Option (St)) (σ : St) (v1 : Int32) (v2 : Int32) (v3 : Int32) : Option (St) :=
  rJ_Md_sayLabel_51 k9 σ v1 v2 v3 1
noncomputable def rJ_Md_sayLabel_50 (k9 : St → Int32 → Int32 → Int32 → Option (St)) (σ : St) (v1 : Int32) (v2 : Int32) (v3 : Int32) : Option (St) :=
  rJ_Md_sayLabel_51 k9 σ v1 v2 v3 0
noncomputable def rL_Md_sayLabel_142 : Nat → St → Int32 → Int32 → Option (St)
  | 0, _, _, _ => none
  | n + 1, σ, v3, v5 => if ((v3 - 1) / 26) < v5 then
        some σ
      else
        bv (rM_Md_say σ (97 + ((v3 - 1) - (v3 - 1) / 26 * 26))) fun σ3 =>
        lq (v5 + 1) fun y4 =>
        rL_Md_sayLabel_142 n σ3 v3 y4
noncomputable def rJ_Md_sayLabel_110 (σ : St) (v3 : Int32) (t0 : Int32) : Option (St) :=
  if t0 = 0 then
      bv (rM_Md_sayDigits σ v3) fun σ6 =>
      some σ6
    else
      if t0 = 1 then
        bv (rM_Md_sayRoman σ v3) fun σ4 =>
        some σ4
      else
        rL_Md_sayLabel_142 FU σ v3 0
noncomputable def rJ_Md_sayLabel_95 (σ : St) (v2 : Int32) (t0 : Int32) : Option (St) :=
  if 0 ≤ v2 then
      gd (inB v2 20) (
      rJ_Md_sayLabel_110 σ t0 (σ 16 v2.toNatClampNeg))
    else
      rJ_Md_sayLabel_110 σ t0 0
noncomputable def rJ_Md_sayLabel_70 (σ : St) (v1 : Int32) (v2 : Int32) : Option (St) :=
  if 0 ≤ v2 then
      gd (inB v2 20) (
      gd (inB v2 20) (
      rJ_Md_sayLabel_95 σ v2 (((σ 17 v2.toNatClampNeg) + v1) - (σ 15 v2.toNatClampNeg))))
    else
      rJ_Md_sayLabel_95 σ v2 (v1 + 1)
noncomputable def rL_Md_sayLabel_9 : Nat → St → Int32 → Int32 → Int32 → Option (St)
  | 0, _, _, _, _ => none
  | n + 1, σ, v1, v2, v3 => if (σ 26 0) ≤ v3 then
        rJ_Md_sayLabel_70 σ v1 v2
      else
        gd (inB v3 20) (
        if v1 < (σ 15 v3.toNatClampNeg) then
          rJ_Md_sayLabel_50 (fun σ z0 z1 z2 => rL_Md_sayLabel_9 n σ z0 z1 z2) σ v1 v2 v3
        else
          if v2 < 0 then
            rJ_Md_sayLabel_46 (fun σ z0 z1 z2 => rL_Md_sayLabel_9 n σ z0 z1 z2) σ v1 v2 v3
          else
            gd (inB v3 20) (
            gd (inB v2 20) (
            if (σ 15 v3.toNatClampNeg) ≤ (σ 15 v2.toNatClampNeg) then
              rJ_Md_sayLabel_50 (fun σ z0 z1 z2 => rL_Md_sayLabel_9 n σ z0 z1 z2) σ v1 v2 v3
            else
              rJ_Md_sayLabel_46 (fun σ z0 z1 z2 => rL_Md_sayLabel_9 n σ z0 z1 z2) σ v1 v2 v3)))
noncomputable def rM_Md_sayLabel (σ : St) (x1 : Int32) : Option (St) :=
  lq (sk σ 28 (fun _ => 0)) fun σ1 =>
    rL_Md_sayLabel_9 FU σ1 x1 (-1) 0
noncomputable def rM_Md_text (σ : St) (x1 : Int32) (x2 : Int32) : Option (Int32 × St) :=
  bv (rM_Md_walk σ) fun σ2 =>
    br (rM_Md_within σ2 x1 0 ((σ2 24 0) - 1)) fun r4 =>
    if r4 = 0 then
      some ((-1), σ2)
    else
      bv (rM_Md_sayLabel σ2 x1) fun σ7 =>
      br (rM_Md_within σ7 x2 0 ((σ7 28 0) - 1)) fun r9 =>
      if r9 = 0 then
        some ((-1), σ7)
      else
        gd (inB x2 60) (
        some ((σ7 20 x2.toNatClampNeg), σ7))
noncomputable def rJ_Md_named_27 (k4 : Int32 → Int32 → Int32 → Option (Int32)) (σ : St) (v1 : Int32) (v3 : Int32) (t0 : Int32) : Option (Int32) :=
  lq (v3 + 1) fun y1 =>
    k4 v1 t0 y1
noncomputable def rL_Md_named_4 (σ : St) : Nat → Int32 → Int32 → Int32 → Option (Int32)
  | 0, _, _, _ => none
  | n + 1, v1, v2, v3 => if (σ 27 0) ≤ v3 then
        some v2
      else
        gd (inB v3 60) (
        if (σ 18 v3.toNatClampNeg) = v1 then
          rJ_Md_named_27 (fun z0 z1 z2 => rL_Md_named_4 σ n z0 z1 z2) σ v1 v3 v3
        else
          rJ_Md_named_27 (fun z0 z1 z2 => rL_Md_named_4 σ n z0 z1 z2) σ v1 v3 v2)
noncomputable def rM_Md_named (σ : St) (x1 : Int32) : Option (Int32) :=
  rL_Md_named_4 σ FU x1 (-1) 0
noncomputable def rM_Md_name (σ : St) (x1 : Int32) (x2 : Int32) : Option (Int32 × St) :=
  bd (rM_Md_placeOf σ x2) fun r2 σ3 =>
    if 0 ≤ r2 then
      br (rM_Md_within σ3 x1 0 9999) fun r6 =>
      if r6 = 0 then
        some ((-2), σ3)
      else
        br (rM_Md_named σ3 x1) fun r9 =>
        if r9 < 0 then
          if (σ3 27 0) = 60 then
            some ((-4), σ3)
          else
            gd (inB (σ3 27 0) 60) (
            lq (sk σ3 18 (upd (σ3 18) (((σ3 27 0)) : Int32).toNatClampNeg x1)) fun σ13 =>
            gd (inB (σ13 27 0) 60) (
            lq (sk σ13 19 (upd (σ13 19) (((σ13 27 0)) : Int32).toNatClampNeg x2)) fun σ15 =>
            lq (sk σ15 27 (fun _ => ((σ15 27 0) + 1))) fun σ16 =>
            some ((σ16 27 0), σ16)))
        else
          some ((-3), σ3)
    else
      some ((-1), σ3)
noncomputable def rM_Md_look (σ : St) (x1 : Int32) : Option (Int32) :=
  br (rM_Md_named σ x1) fun r2 =>
    if 0 ≤ r2 then
      gd (inB r2 60) (
      some (σ 19 r2.toNatClampNeg))
    else
      some (-1)
noncomputable def rL_Md_needed_4 (σ : St) : Nat → Int32 → Int32 → Option (Int32)
  | 0, _, _ => none
  | n + 1, v1, v2 => if v2 ≤ 4 then
        some v1
      else
        lq ((v2 + 3) / 4) fun y2 =>
        lq (v1 + y2) fun y3 =>
        rL_Md_needed_4 σ n y3 y2
noncomputable def rM_Md_needed (σ : St) (x0 : Int32) : Option (Int32) :=
  rL_Md_needed_4 σ FU 0 x0
noncomputable def rJ_Md_hang_39 (σ : St) (t1 : Int32) (t2 : Int32) (t3 : Int32) : Option (St) :=
  gd (inB t1 200) (
    lq (sk σ 2 (upd (σ 2) (t1 : Int32).toNatClampNeg ((t2 + t3)))) fun σ2 =>
    some σ2)
noncomputable def rM_Md_hang (σ : St) (x1 : Int32) (x2 : Int32) : Option (St) :=
  bv (rM_Md_append σ x1 x2) fun σ2 =>
    gd (inB x2 200) (
    lq (sk σ2 1 (upd (σ2 1) (x2 : Int32).toNatClampNeg x1)) fun σ4 =>
    gd (inB x1 200) (
    gd (inB x2 200) (
    if (σ4 0 x2.toNatClampNeg) = 0 then
      gd (inB x2 200) (
      rJ_Md_hang_39 σ4 x1 (σ4 2 x1.toNatClampNeg) (σ4 2 x2.toNatClampNeg))
    else
      rJ_Md_hang_39 σ4 x1 (σ4 2 x1.toNatClampNeg) 1)))
noncomputable def rJ_Md_balance_189 (k113 : St → Int32 → Option (Int32 × St)) (k125 : St → Int32 → Int32 → Int32 → Option (Int32 × St)) (σ : St) (v1 : Int32) (v3 : Int32) (t0 : Int32) : Option (Int32 × St) :=
  lq (v3 + 1) fun y1 =>
    k125 σ v1 t0 y1
noncomputable def rJ_Md_balance_147 (k113 : St → Int32 → Option (Int32 × St)) (k125 : St → Int32 → Int32 → Int32 → Option (Int32 × St)) (σ : St) (v1 : Int32) (v2 : Int32) (v3 : Int32) : Option (Int32 × St) :=
  gd (inB v3 200) (
    bv (rM_Md_hang σ ((σ 22 0) - 1) (σ 21 v3.toNatClampNeg)) fun σ3 =>
    gd (inB v2 200) (
    lq (sk σ3 21 (upd (σ3 21) (v2 : Int32).toNatClampNeg (((σ3 22 0) - 1)))) fun σ5 =>
    if (v3 - v3 / 4 * 4) = 3 then
      rJ_Md_balance_189 k113 k125 σ5 v1 v3 (v2 + 1)
    else
      rJ_Md_balance_189 k113 k125 σ5 v1 v3 v2))
noncomputable def rJ_Md_balance_196 (k113 : St → Int32 → Option (Int32 × St)) (σ : St) (v1 : Int32) : Option (Int32 × St) :=
  lq (sk σ 29 (fun _ => (((σ 29 0) + 3) / 4))) fun σ1 =>
    k113 σ1 v1
noncomputable def rL_Md_balance_125 (k113 : St → Int32 → Option (Int32 × St)) : Nat → St → Int32 → Int32 → Int32 → Option (Int32 × St)
  | 0, _, _, _, _ => none
  | n + 1, σ, v1, v2, v3 => if (σ 29 0) ≤ v3 then
        rJ_Md_balance_196 k113 σ v1
      else
        if (v3 - v3 / 4 * 4) = 0 then
          bd (rM_Md_made σ 0 (-1) 0) fun r4 σ5 =>
          rJ_Md_balance_147 k113 (fun σ z0 z1 z2 => rL_Md_balance_125 k113 n σ z0 z1 z2) σ5 v1 v2 v3
        else
          rJ_Md_balance_147 k113 (fun σ z0 z1 z2 => rL_Md_balance_125 k113 n σ z0 z1 z2) σ v1 v2 v3
noncomputable def rL_Md_balance_220 : Nat → St → Int32 → Int32 → Option (Int32 × St)
  | 0, _, _, _ => none
  | n + 1, σ, v1, v2 => if (σ 29 0) ≤ v2 then
        some (v1, σ)
      else
        gd (inB v2 200) (
        bv (rM_Md_hang σ 0 (σ 21 v2.toNatClampNeg)) fun σ4 =>
        lq (v2 + 1) fun y5 =>
        rL_Md_balance_220 n σ4 v1 y5)
noncomputable def rJ_Md_balance_211 (σ : St) (v1 : Int32) : Option (Int32 × St) :=
  gd (inB 0 200) (
    lq (sk σ 2 (upd (σ 2) (0 : Int32).toNatClampNeg 0)) fun σ2 =>
    rL_Md_balance_220 FU σ2 v1 0)
noncomputable def rL_Md_balance_113 : Nat → St → Int32 → Option (Int32 × St)
  | 0, _, _ => none
  | n + 1, σ, v1 => if (σ 29 0) ≤ 4 then
        rJ_Md_balance_211 σ v1
      else
        rL_Md_balance_125 (fun σ z0 => rL_Md_balance_113 n σ z0) FU σ v1 0 0
noncomputable def rL_Md_balance_85 : Nat → St → Int32 → Int32 → Option (Int32 × St)
  | 0, _, _, _ => none
  | n + 1, σ, v1, v2 => if (σ 22 0) ≤ v2 then
        rL_Md_balance_113 FU σ v1
      else
        gd (inB v2 200) (
        lq (sk σ 3 (upd (σ 3) (v2 : Int32).toNatClampNeg 0)) fun σ3 =>
        gd (inB v2 200) (
        lq (sk σ3 1 (upd (σ3 1) (v2 : Int32).toNatClampNeg (-1))) fun σ5 =>
        lq (v2 + 1) fun y6 =>
        rL_Md_balance_85 n σ5 v1 y6))
noncomputable def rJ_Md_balance_83 (σ : St) (v1 : Int32) : Option (Int32 × St) :=
  rL_Md_balance_85 FU σ v1 0
noncomputable def rL_Md_balance_47 : Nat → St → Int32 → Int32 → Option (Int32 × St)
  | 0, _, _, _ => none
  | n + 1, σ, v1, v2 => if (σ 24 0) ≤ v2 then
        rJ_Md_balance_83 σ v1
      else
        gd (inB v2 200) (
        gd (inB v2 200) (
        lq (sk σ 21 (upd (σ 21) (v2 : Int32).toNatClampNeg ((σ 9 v2.toNatClampNeg)))) fun σ4 =>
        gd (inB v2 200) (
        bv (rM_Md_ownAll σ4 (σ4 9 v2.toNatClampNeg)) fun σ7 =>
        lq (v2 + 1) fun y8 =>
        rL_Md_balance_47 n σ7 v1 y8)))
noncomputable def rM_Md_balance (σ : St) : Option (Int32 × St) :=
  bv (rM_Md_walk σ) fun σ2 =>
    if (σ2 24 0) = 0 then
      some ((-3), σ2)
    else
      br (rM_Md_needed σ2 (σ2 24 0)) fun r5 =>
      if ((σ2 22 0) + r5) ≤ 200 then
        lq (sk σ2 29 (fun _ => (σ2 24 0))) fun σ7 =>
        rL_Md_balance_47 FU σ7 r5 0
      else
        some ((-4), σ2)
noncomputable def rM_Md_count (σ : St) (x1 : Int32) : Option (Int32) :=
  if x1 = 0 then
      some (σ 22 0)
    else
      if x1 = 1 then
        some (σ 26 0)
      else
        if x1 = 2 then
          some (σ 27 0)
        else
          some (-2)
