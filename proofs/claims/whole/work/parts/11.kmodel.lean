def krm_Items_size : Room := { frames := 0, cells := 0, slots := 0, locals := 0 }
def krm_Items_add : Room := { frames := 0, cells := 0, slots := 0, locals := 0 }
def krm_Items_isNode : Room := { frames := 0, cells := 0, slots := 0, locals := 0 }
def krm_Items_isFull : Room := { frames := 0, cells := 0, slots := 0, locals := 0 }
def krm_Items_isKnown : Room := { frames := 0, cells := 0, slots := 0, locals := 0 }
def krm_Items_kidCountOf : Room := { frames := 1, cells := 0, slots := 0, locals := 21 }
def krm_Items_hasNoSlotLeft : Room := { frames := 2, cells := 0, slots := 0, locals := 42 }
def krm_Items_insertKid : Room := { frames := 1, cells := 0, slots := 0, locals := 21 }
def krm_Items_appendKid : Room := { frames := 2, cells := 0, slots := 0, locals := 46 }
def krm_PT_addLast : Room := { frames := 3, cells := 0, slots := 0, locals := 68 }
def krm_PT_node : Room := { frames := 4, cells := 0, slots := 0, locals := 92 }
def krm_PT_page : Room := { frames := 4, cells := 0, slots := 0, locals := 92 }
def krm_PT_list : Room := { frames := 3, cells := 0, slots := 0, locals := 68 }
def krm_PT_isKey : Room := { frames := 0, cells := 0, slots := 0, locals := 0 }
def krm_Items_setOwnValue : Room := { frames := 1, cells := 0, slots := 0, locals := 21 }
def krm_PT_inherit : Room := { frames := 2, cells := 0, slots := 0, locals := 44 }
def krm_Items_isPage : Room := { frames := 0, cells := 0, slots := 0, locals := 0 }
def krm_Items_valueOf : Room := { frames := 1, cells := 0, slots := 0, locals := 21 }
def krm_PT_of : Room := { frames := 2, cells := 0, slots := 0, locals := 46 }
def krm_Items_version : Room := { frames := 0, cells := 0, slots := 0, locals := 0 }
def krm_Arr_fill_17 : Room := { frames := 0, cells := 0, slots := 0, locals := 0 }
def krm_Walk_enter_Order : Room := { frames := 0, cells := 0, slots := 0, locals := 0 }
def krm_Items_hasSlot : Room := { frames := 0, cells := 0, slots := 0, locals := 0 }
def krm_Items_kidAt : Room := { frames := 1, cells := 0, slots := 0, locals := 22 }
def krm_Walk_meetPageAgain_Order : Room := { frames := 0, cells := 0, slots := 0, locals := 0 }
def krm_Walk_meetNodeAgain_Order : Room := { frames := 0, cells := 0, slots := 0, locals := 0 }
def krm_Order_meetFirst : Room := { frames := 1, cells := 0, slots := 0, locals := 21 }
def krm_Walk_meet_Order : Room := { frames := 2, cells := 0, slots := 0, locals := 44 }
def krm_Walk_leave_Order : Room := { frames := 0, cells := 0, slots := 0, locals := 0 }
def krm_Walk_walkAll_Order : Room := { frames := 3, cells := 0, slots := 0, locals := 69 }
def krm_Order_refresh : Room := { frames := 4, cells := 0, slots := 0, locals := 94 }
def krm_Order_size : Room := { frames := 5, cells := 0, slots := 0, locals := 114 }
def krm_PT_pages : Room := { frames := 6, cells := 0, slots := 0, locals := 134 }
def krm_Order_pageAt : Room := { frames := 5, cells := 0, slots := 0, locals := 114 }
def krm_PT_at : Room := { frames := 6, cells := 0, slots := 0, locals := 135 }
def krm_Items_parentOf : Room := { frames := 1, cells := 0, slots := 0, locals := 21 }
def krm_Items_countOf : Room := { frames := 1, cells := 0, slots := 0, locals := 21 }
def krm_Order_isTaken : Room := { frames := 0, cells := 0, slots := 0, locals := 0 }
def krm_Order_placeOf : Room := { frames := 5, cells := 0, slots := 0, locals := 114 }
def krm_PT_about : Room := { frames := 6, cells := 0, slots := 0, locals := 135 }
def krm_PT_kid : Room := { frames := 2, cells := 0, slots := 0, locals := 44 }
def krm_Walk_enter_Mender : Room := { frames := 0, cells := 0, slots := 0, locals := 0 }
def krm_Items_dropKid : Room := { frames := 1, cells := 0, slots := 0, locals := 22 }
def krm_Mender_tell : Room := { frames := 0, cells := 0, slots := 0, locals := 0 }
def krm_Items_copyOwnValues : Room := { frames := 1, cells := 0, slots := 0, locals := 21 }
def krm_Items_replaceKid : Room := { frames := 1, cells := 0, slots := 0, locals := 22 }
def krm_Mender_meetPageAgain : Room := { frames := 2, cells := 0, slots := 0, locals := 46 }
def krm_Walk_isOnTheWay_Mender : Room := { frames := 0, cells := 0, slots := 0, locals := 0 }
def krm_Mender_meetNodeAgain : Room := { frames := 2, cells := 0, slots := 0, locals := 46 }
def krm_Items_setParent : Room := { frames := 1, cells := 0, slots := 0, locals := 21 }
def krm_Mender_meetFirst : Room := { frames := 2, cells := 0, slots := 0, locals := 43 }
def krm_Walk_meet_Mender : Room := { frames := 3, cells := 0, slots := 0, locals := 70 }
def krm_Items_setCount : Room := { frames := 1, cells := 0, slots := 0, locals := 21 }
def krm_Mender_leave : Room := { frames := 2, cells := 0, slots := 0, locals := 43 }
def krm_Walk_walkAll_Mender : Room := { frames := 4, cells := 0, slots := 0, locals := 95 }
def krm_Mender_putRight : Room := { frames := 5, cells := 0, slots := 0, locals := 120 }
def krm_PT_mend : Room := { frames := 6, cells := 0, slots := 0, locals := 140 }
def krm_Mender_tellingAt : Room := { frames := 0, cells := 0, slots := 0, locals := 0 }
def krm_PT_told : Room := { frames := 1, cells := 0, slots := 0, locals := 22 }
def krm_Order_listerOf : Room := { frames := 5, cells := 0, slots := 0, locals := 114 }
def krm_Items_kidCountWithout : Room := { frames := 2, cells := 0, slots := 0, locals := 44 }
def krm_Items_ownValuesOf : Room := { frames := 2, cells := 0, slots := 0, locals := 46 }
def krm_Items_dropFromList : Room := { frames := 0, cells := 0, slots := 0, locals := 0 }
def krm_Items_dropEverywhere : Room := { frames := 1, cells := 0, slots := 0, locals := 26 }
def krm_Order_slotOf : Room := { frames := 5, cells := 0, slots := 0, locals := 114 }
def krm_PT_move : Room := { frames := 6, cells := 0, slots := 0, locals := 135 }
def krm_PT_copy : Room := { frames := 6, cells := 0, slots := 0, locals := 135 }
def krm_Names_forget : Room := { frames := 0, cells := 0, slots := 0, locals := 0 }
def krm_PT_remove : Room := { frames := 6, cells := 0, slots := 0, locals := 135 }
def krm_Labels_isRange : Room := { frames := 0, cells := 0, slots := 0, locals := 0 }
def krm_Labels_rangeFrom : Room := { frames := 0, cells := 0, slots := 0, locals := 0 }
def krm_Labels_begin : Room := { frames := 1, cells := 0, slots := 0, locals := 22 }
def krm_Labels_size : Room := { frames := 0, cells := 0, slots := 0, locals := 0 }
def krm_PT_label : Room := { frames := 2, cells := 0, slots := 0, locals := 46 }
def krm_Labels_rangeAround : Room := { frames := 0, cells := 0, slots := 0, locals := 0 }
def krm_Labels_writeSign : Room := { frames := 0, cells := 0, slots := 0, locals := 0 }
def krm_Labels_writeDigits : Room := { frames := 1, cells := 0, slots := 0, locals := 21 }
def krm_Labels_romanSigns : Room := { frames := 0, cells := 0, slots := 0, locals := 0 }
def krm_Labels_writeSigns : Room := { frames := 4, cells := 0, slots := 0, locals := 85 }
def krm_Labels_writeRoman : Room := { frames := 5, cells := 0, slots := 0, locals := 107 }
def krm_Labels_writeLetters : Room := { frames := 1, cells := 0, slots := 0, locals := 21 }
def krm_Labels_write : Room := { frames := 6, cells := 0, slots := 0, locals := 133 }
def krm_Labels_signOf : Room := { frames := 7, cells := 0, slots := 0, locals := 155 }
def krm_PT_text : Room := { frames := 8, cells := 0, slots := 0, locals := 178 }
def krm_Names_isName : Room := { frames := 0, cells := 0, slots := 0, locals := 0 }
def krm_Names_pageOf : Room := { frames := 0, cells := 0, slots := 0, locals := 0 }
def krm_Names_add : Room := { frames := 0, cells := 0, slots := 0, locals := 0 }
def krm_Names_size : Room := { frames := 0, cells := 0, slots := 0, locals := 0 }
def krm_PT_name : Room := { frames := 6, cells := 0, slots := 0, locals := 135 }
def krm_PT_look : Room := { frames := 1, cells := 0, slots := 0, locals := 22 }
def krm_Bal_nodesFor : Room := { frames := 0, cells := 0, slots := 0, locals := 0 }
def krm_Order_takenPages : Room := { frames := 5, cells := 0, slots := 0, locals := 114 }
def krm_Items_loosenAll : Room := { frames := 0, cells := 0, slots := 0, locals := 0 }
def krm_Bal_hang : Room := { frames := 3, cells := 0, slots := 0, locals := 68 }
def krm_Bal_raiseRow : Room := { frames := 4, cells := 0, slots := 0, locals := 94 }
def krm_Bal_build : Room := { frames := 5, cells := 0, slots := 0, locals := 117 }
def krm_PT_balance : Room := { frames := 6, cells := 0, slots := 0, locals := 140 }
def krm_PT_count : Room := { frames := 1, cells := 0, slots := 0, locals := 20 }
noncomputable def kM_Items_size (σ : St) : Option (Int32) :=
  some (σ 26 0)
noncomputable def kM_Items_add (σ : St) (x1 : Int32) (x2 : Int32) (x3 : Int32) : Option (Int32 × St) :=
  if (σ 26 0) < 200 then
      lq (σ 26 0) fun y2 =>
      lq (sk σ 26 (fun _ => ((σ 26 0) + 1))) fun σ3 =>
      gd (inB y2 200) (
      lq (sk σ3 0 (upd (σ3 0) (y2 : Int32).toNatClampNeg ((vp_nar .boolean x1)))) fun σ5 =>
      gd (inB y2 200) (
      lq (sk σ5 1 (upd (σ5 1) (y2 : Int32).toNatClampNeg x2)) fun σ7 =>
      gd (inB y2 200) (
      lq (sk σ7 2 (upd (σ7 2) (y2 : Int32).toNatClampNeg x3)) fun σ9 =>
      some (y2, σ9))))
    else
      some ((-1), σ)
noncomputable def kM_Items_isNode (σ : St) (x1 : Int32) : Option (Int32) :=
  if x1 < 0 then
      some 0
    else
      if (σ 26 0) ≤ x1 then
        some 0
      else
        gd (inB x1 200) (
        if (σ 0 x1.toNatClampNeg) = 0 then
          some 1
        else
          some 0)
noncomputable def kM_Items_isFull (σ : St) : Option (Int32) :=
  if (σ 26 0) < 200 then
      some 0
    else
      some 1
noncomputable def kM_Items_isKnown (σ : St) (x1 : Int32) : Option (Int32) :=
  if x1 < 0 then
      some 0
    else
      if (σ 26 0) ≤ x1 then
        some 0
      else
        some 1
noncomputable def kM_Items_kidCountOf (σ : St) (x1 : Int32) : Option (Int32) :=
  br (kM_Items_isKnown σ x1) fun r2 =>
    if r2 = 0 then
      some 0
    else
      gd (inB x1 200) (
      some (σ 3 x1.toNatClampNeg))
noncomputable def kM_Items_hasNoSlotLeft (σ : St) (x1 : Int32) : Option (Int32) :=
  br (kM_Items_kidCountOf σ x1) fun r2 =>
    if r2 < 40 then
      some 0
    else
      some 1
noncomputable def kJ_Items_insertKid_82 (σ : St) (v1 : Int32) (v2 : Int32) (v3 : Int32) (v4 : Int32) : Option (St) :=
  gd (inB (v4 + v2) 8000) (
    lq (sk σ 4 (upd (σ 4) (((v4 + v2)) : Int32).toNatClampNeg v3)) fun σ2 =>
    gd (inB v1 200) (
    gd (inB v1 200) (
    lq (sk σ2 3 (upd (σ2 3) (v1 : Int32).toNatClampNeg (((σ2 3 v1.toNatClampNeg) + 1)))) fun σ5 =>
    lq (sk σ5 27 (fun _ => ((σ5 27 0) + 1))) fun σ6 =>
    some σ6)))
noncomputable def kL_Items_insertKid_48 : Nat → St → Int32 → Int32 → Int32 → Int32 → Int32 → Option (St)
  | 0, _, _, _, _, _, _ => none
  | n + 1, σ, v1, v2, v3, v4, v5 => if v5 ≤ v2 then
        kJ_Items_insertKid_82 σ v1 v2 v3 v4
      else
        gd (inB ((v4 + v5) - 1) 8000) (
        gd (inB (v4 + v5) 8000) (
        lq (sk σ 4 (upd (σ 4) (((v4 + v5)) : Int32).toNatClampNeg ((σ 4 (((v4 + v5) - 1)).toNatClampNeg)))) fun σ4 =>
        lq (v5 + (-1)) fun y5 =>
        kL_Items_insertKid_48 n σ4 v1 v2 v3 v4 y5))
noncomputable def kM_Items_insertKid (σ : St) (x1 : Int32) (x2 : Int32) (x3 : Int32) : Option (St) :=
  br (kM_Items_isNode σ x1) fun r2 =>
    if r2 = 0 then
      some σ
    else
      if x2 < 0 then
        some σ
      else
        gd (inB x1 200) (
        if (σ 3 x1.toNatClampNeg) < x2 then
          some σ
        else
          gd (inB x1 200) (
          if (σ 3 x1.toNatClampNeg) < 40 then
            lq (x1 * 40) fun y9 =>
            gd (inB x1 200) (
            lq (σ 3 x1.toNatClampNeg) fun y11 =>
            kL_Items_insertKid_48 FU σ x1 x2 x3 y9 y11)
          else
            some σ))
noncomputable def kM_Items_appendKid (σ : St) (x1 : Int32) (x2 : Int32) : Option (St) :=
  br (kM_Items_kidCountOf σ x1) fun r2 =>
    bv (kM_Items_insertKid σ x1 r2 x2) fun σ4 =>
    some σ4
noncomputable def kM_PT_addLast (σ : St) (x1 : Int32) (x2 : Int32) (x3 : Int32) : Option (Int32 × St) :=
  br (kM_Items_isNode σ x1) fun r2 =>
    if r2 = 0 then
      some ((-1), σ)
    else
      br (kM_Items_isFull σ) fun r5 =>
      if r5 = 0 then
        br (kM_Items_hasNoSlotLeft σ x1) fun r8 =>
        if r8 = 0 then
          bd (kM_Items_add σ x2 x1 x3) fun r11 σ12 =>
          bv (kM_Items_appendKid σ12 x1 r11) fun σ14 =>
          some (r11, σ14)
        else
          some ((-4), σ)
      else
        some ((-4), σ)
noncomputable def kM_PT_node (σ : St) (x1 : Int32) (x2 : Int32) : Option (Int32 × St) :=
  br (kM_Items_size σ) fun r2 =>
    if r2 = 0 then
      if x1 = (-1) then
        bd (kM_Items_add σ 0 (-1) x2) fun r9 σ10 =>
        some (r9, σ10)
      else
        some ((-1), σ)
    else
      bd (kM_PT_addLast σ x1 0 x2) fun r5 σ6 =>
      some (r5, σ6)
noncomputable def kM_PT_page (σ : St) (x1 : Int32) : Option (Int32 × St) :=
  bd (kM_PT_addLast σ x1 1 0) fun r2 σ3 =>
    some (r2, σ3)
noncomputable def kM_PT_list (σ : St) (x1 : Int32) (x2 : Int32) : Option (Int32 × St) :=
  br (kM_Items_isNode σ x1) fun r2 =>
    if r2 = 0 then
      some ((-1), σ)
    else
      br (kM_Items_isKnown σ x2) fun r5 =>
      if r5 = 0 then
        some ((-1), σ)
      else
        br (kM_Items_hasNoSlotLeft σ x1) fun r8 =>
        if r8 = 0 then
          bv (kM_Items_appendKid σ x1 x2) fun σ11 =>
          br (kM_Items_kidCountOf σ11 x1) fun r13 =>
          some (r13, σ11)
        else
          some ((-4), σ)
noncomputable def kM_PT_isKey (σ : St) (x0 : Int32) : Option (Int32) :=
  if x0 < 0 then
      some 0
    else
      if 4 ≤ x0 then
        some 0
      else
        some 1
noncomputable def kM_Items_setOwnValue (σ : St) (x1 : Int32) (x2 : Int32) (x3 : Int32) : Option (St) :=
  br (kM_Items_isKnown σ x1) fun r2 =>
    if r2 = 0 then
      some σ
    else
      br (kM_PT_isKey σ x2) fun r5 =>
      if r5 = 0 then
        some σ
      else
        gd (inB ((x1 * 4) + x2) 800) (
        lq (sk σ 5 (upd (σ 5) ((((x1 * 4) + x2)) : Int32).toNatClampNeg x3)) fun σ8 =>
        some σ8)
noncomputable def kM_PT_inherit (σ : St) (x1 : Int32) (x2 : Int32) (x3 : Int32) : Option (Int32 × St) :=
  br (kM_Items_isKnown σ x1) fun r2 =>
    if r2 = 0 then
      some ((-1), σ)
    else
      br (kM_PT_isKey σ x2) fun r5 =>
      if r5 = 0 then
        some ((-2), σ)
      else
        if x3 < (-1) then
          some ((-2), σ)
        else
          if x3 ≤ 100000 then
            bv (kM_Items_setOwnValue σ x1 x2 x3) fun σ10 =>
            some (1, σ10)
          else
            some ((-2), σ)
noncomputable def kM_Items_isPage (σ : St) (x1 : Int32) : Option (Int32) :=
  if x1 < 0 then
      some 0
    else
      if (σ 26 0) ≤ x1 then
        some 0
      else
        gd (inB x1 200) (
        if (σ 0 x1.toNatClampNeg) = 0 then
          some 0
        else
          some 1)
noncomputable def kL_Items_valueOf_14 (σ : St) : Nat → Int32 → Int32 → Int32 → Option (Int32)
  | 0, _, _, _ => none
  | n + 1, v2, v3, v4 => if 200 ≤ v4 then
        some (-1)
      else
        br (kM_Items_isKnown σ v3) fun r3 =>
        if r3 = 0 then
          some (-1)
        else
          gd (inB ((v3 * 4) + v2) 800) (
          lq (σ 5 (((v3 * 4) + v2)).toNatClampNeg) fun y6 =>
          if y6 = (-1) then
            gd (inB v3 200) (
            lq (σ 1 v3.toNatClampNeg) fun y9 =>
            lq (v4 + 1) fun y10 =>
            kL_Items_valueOf_14 σ n v2 y9 y10)
          else
            some y6)
noncomputable def kM_Items_valueOf (σ : St) (x1 : Int32) (x2 : Int32) : Option (Int32) :=
  br (kM_PT_isKey σ x2) fun r2 =>
    if r2 = 0 then
      some (-1)
    else
      kL_Items_valueOf_14 σ FU x2 x1 0
noncomputable def kM_PT_of (σ : St) (x1 : Int32) (x2 : Int32) : Option (Int32) :=
  br (kM_Items_isPage σ x1) fun r2 =>
    if r2 = 0 then
      some (-1)
    else
      br (kM_PT_isKey σ x2) fun r5 =>
      if r5 = 0 then
        some (-2)
      else
        br (kM_Items_valueOf σ x1 x2) fun r8 =>
        some r8
noncomputable def kM_Items_version (σ : St) : Option (Int32) :=
  some (σ 27 0)
noncomputable def kL_Arr_fill_17_5 : Nat → St → Int32 → Int32 → Int32 → Option (St)
  | 0, _, _, _, _ => none
  | n + 1, σ, v1, v2, v3 => if v3 ≤ v2 then
        some σ
      else
        gd (inB v2 200) (
        lq (sk σ 10 (upd (σ 10) (v2 : Int32).toNatClampNeg v1)) fun σ3 =>
        lq (v2 + 1) fun y4 =>
        kL_Arr_fill_17_5 n σ3 v1 y4 v3)
noncomputable def kM_Arr_fill_17 (σ : St) (x1 : Int32) : Option (St) :=
  kL_Arr_fill_17_5 FU σ x1 0 200
noncomputable def kM_Walk_enter_Order (σ : St) (x1 : Int32) : Option (St) :=
  if 200 ≤ (σ 30 0) then
      some σ
    else
      gd (inB (σ 30 0) 200) (
      lq (sk σ 7 (upd (σ 7) (((σ 30 0)) : Int32).toNatClampNeg x1)) fun σ3 =>
      gd (inB (σ3 30 0) 200) (
      lq (sk σ3 8 (upd (σ3 8) (((σ3 30 0)) : Int32).toNatClampNeg 0)) fun σ5 =>
      lq (sk σ5 30 (fun _ => ((σ5 30 0) + 1))) fun σ6 =>
      some σ6))
noncomputable def kM_Items_hasSlot (σ : St) (x1 : Int32) (x2 : Int32) : Option (Int32) :=
  if x1 < 0 then
      some 0
    else
      if (σ 26 0) ≤ x1 then
        some 0
      else
        if x2 < 0 then
          some 0
        else
          gd (inB x1 200) (
          if (σ 3 x1.toNatClampNeg) ≤ x2 then
            some 0
          else
            some 1)
noncomputable def kM_Items_kidAt (σ : St) (x1 : Int32) (x2 : Int32) : Option (Int32) :=
  br (kM_Items_hasSlot σ x1 x2) fun r2 =>
    if r2 = 0 then
      some (-1)
    else
      gd (inB ((x1 * 40) + x2) 8000) (
      some (σ 4 (((x1 * 40) + x2)).toNatClampNeg))
noncomputable def kM_Walk_meetPageAgain_Order (σ : St) (x1 : Int32) (x2 : Int32) (x3 : Int32) : Option (Int32) :=
  some 1
noncomputable def kM_Walk_meetNodeAgain_Order (σ : St) (x1 : Int32) (x2 : Int32) (x3 : Int32) : Option (Int32) :=
  some 1
noncomputable def kM_Order_meetFirst (σ : St) (x1 : Int32) (x2 : Int32) (x3 : Int32) : Option (St) :=
  br (kM_Items_isPage σ x3) fun r2 =>
    if r2 = 0 then
      some σ
    else
      if 200 ≤ (σ 28 0) then
        some σ
      else
        gd (inB (σ 28 0) 200) (
        lq (sk σ 9 (upd (σ 9) (((σ 28 0)) : Int32).toNatClampNeg x3)) fun σ6 =>
        gd (inB x3 200) (
        lq (sk σ6 10 (upd (σ6 10) (x3 : Int32).toNatClampNeg ((σ6 28 0)))) fun σ8 =>
        gd (inB x3 200) (
        lq (sk σ8 11 (upd (σ8 11) (x3 : Int32).toNatClampNeg x1)) fun σ10 =>
        gd (inB x3 200) (
        lq (sk σ10 12 (upd (σ10 12) (x3 : Int32).toNatClampNeg x2)) fun σ12 =>
        lq (sk σ12 28 (fun _ => ((σ12 28 0) + 1))) fun σ13 =>
        some σ13))))
noncomputable def kJ_Walk_meet_Order_41 (σ : St) (v2 : Int32) (t0 : Int32) : Option (Int32 × St) :=
  if t0 = 0 then
      some (v2, σ)
    else
      some ((v2 + 1), σ)
noncomputable def kM_Walk_meet_Order (σ : St) (x1 : Int32) (x2 : Int32) (x3 : Int32) : Option (Int32 × St) :=
  br (kM_Items_isPage σ x3) fun r2 =>
    gd (inB x3 200) (
    if (σ 6 x3.toNatClampNeg) = 0 then
      bv (kM_Order_meetFirst σ x1 x2 x3) fun σ6 =>
      gd (inB x3 200) (
      lq (sk σ6 6 (upd (σ6 6) (x3 : Int32).toNatClampNeg ((vp_nar .boolean 1)))) fun σ8 =>
      if r2 = 0 then
        bv (kM_Walk_enter_Order σ8 x3) fun σ11 =>
        some ((x2 + 1), σ11)
      else
        some ((x2 + 1), σ8))
    else
      if r2 = 0 then
        br (kM_Walk_meetNodeAgain_Order σ x1 x2 x3) fun r14 =>
        kJ_Walk_meet_Order_41 σ x2 r14
      else
        br (kM_Walk_meetPageAgain_Order σ x1 x2 x3) fun r16 =>
        kJ_Walk_meet_Order_41 σ x2 r16)
noncomputable def kM_Walk_leave_Order (σ : St) (x1 : Int32) : Option (St) :=
  some σ
noncomputable def kJ_Walk_walkAll_Order_144 (k51 : St → Int32 → Option (St)) (σ : St) (v1 : Int32) : Option (St) :=
  lq (v1 + 1) fun y1 =>
    k51 σ y1
noncomputable def kL_Walk_walkAll_Order_51 : Nat → St → Int32 → Option (St)
  | 0, _, _ => none
  | n + 1, σ, v1 => if 8200 ≤ v1 then
        some σ
      else
        if (σ 30 0) ≤ 0 then
          some σ
        else
          lq ((σ 30 0) - 1) fun y3 =>
          gd (inB y3 200) (
          lq (σ 7 y3.toNatClampNeg) fun y5 =>
          gd (inB y3 200) (
          lq (σ 8 y3.toNatClampNeg) fun y7 =>
          br (kM_Items_kidAt σ y5 y7) fun r9 =>
          br (kM_Items_isKnown σ r9) fun r11 =>
          if r11 = 0 then
            bv (kM_Walk_leave_Order σ y5) fun σ14 =>
            lq (sk σ14 30 (fun _ => ((σ14 30 0) - 1))) fun σ15 =>
            kJ_Walk_walkAll_Order_144 (fun σ z0 => kL_Walk_walkAll_Order_51 n σ z0) σ15 v1
          else
            bd (kM_Walk_meet_Order σ y5 y7 r9) fun r17 σ18 =>
            gd (inB y3 200) (
            lq (sk σ18 8 (upd (σ18 8) (y3 : Int32).toNatClampNeg r17)) fun σ20 =>
            kJ_Walk_walkAll_Order_144 (fun σ z0 => kL_Walk_walkAll_Order_51 n σ z0) σ20 v1)))
noncomputable def kJ_Walk_walkAll_Order_49 (σ : St) : Option (St) :=
  kL_Walk_walkAll_Order_51 FU σ 0
noncomputable def kJ_Walk_walkAll_Order_22 (σ : St) : Option (St) :=
  lq (sk σ 30 (fun _ => 0)) fun σ1 =>
    br (kM_Items_size σ1) fun r3 =>
    if r3 ≤ 0 then
      kJ_Walk_walkAll_Order_49 σ1
    else
      gd (inB 0 200) (
      lq (sk σ1 6 (upd (σ1 6) (0 : Int32).toNatClampNeg ((vp_nar .boolean 1)))) fun σ6 =>
      bv (kM_Walk_enter_Order σ6 0) fun σ8 =>
      kJ_Walk_walkAll_Order_49 σ8)
noncomputable def kL_Walk_walkAll_Order_2 : Nat → St → Int32 → Option (St)
  | 0, _, _ => none
  | n + 1, σ, v1 => if 200 ≤ v1 then
        kJ_Walk_walkAll_Order_22 σ
      else
        gd (inB v1 200) (
        lq (sk σ 6 (upd (σ 6) (v1 : Int32).toNatClampNeg ((vp_nar .boolean 0)))) fun σ3 =>
        lq (v1 + 1) fun y4 =>
        kL_Walk_walkAll_Order_2 n σ3 y4)
noncomputable def kM_Walk_walkAll_Order (σ : St) : Option (St) :=
  kL_Walk_walkAll_Order_2 FU σ 0
noncomputable def kM_Order_refresh (σ : St) : Option (St) :=
  br (kM_Items_version σ) fun r2 =>
    if (σ 29 0) = r2 then
      some σ
    else
      lq (sk σ 28 (fun _ => 0)) fun σ4 =>
      bv (kM_Arr_fill_17 σ4 (-1)) fun σ6 =>
      bv (kM_Walk_walkAll_Order σ6) fun σ8 =>
      br (kM_Items_version σ8) fun r10 =>
      lq (sk σ8 29 (fun _ => r10)) fun σ11 =>
      some σ11
noncomputable def kM_Order_size (σ : St) : Option (Int32 × St) :=
  bv (kM_Order_refresh σ) fun σ2 =>
    some ((σ2 28 0), σ2)
noncomputable def kM_PT_pages (σ : St) : Option (Int32 × St) :=
  bd (kM_Order_size σ) fun r2 σ3 =>
    some (r2, σ3)
noncomputable def kM_Order_pageAt (σ : St) (x1 : Int32) : Option (Int32 × St) :=
  bv (kM_Order_refresh σ) fun σ2 =>
    if x1 < 0 then
      some ((-1), σ2)
    else
      if (σ2 28 0) ≤ x1 then
        some ((-1), σ2)
      else
        gd (inB x1 200) (
        some ((σ2 9 x1.toNatClampNeg), σ2))
noncomputable def kM_PT_at (σ : St) (x1 : Int32) : Option (Int32 × St) :=
  bd (kM_Order_pageAt σ x1) fun r2 σ3 =>
    some (r2, σ3)
noncomputable def kM_Items_parentOf (σ : St) (x1 : Int32) : Option (Int32) :=
  br (kM_Items_isKnown σ x1) fun r2 =>
    if r2 = 0 then
      some (-1)
    else
      gd (inB x1 200) (
      some (σ 1 x1.toNatClampNeg))
noncomputable def kM_Items_countOf (σ : St) (x1 : Int32) : Option (Int32) :=
  br (kM_Items_isKnown σ x1) fun r2 =>
    if r2 = 0 then
      some 0
    else
      gd (inB x1 200) (
      some (σ 2 x1.toNatClampNeg))
noncomputable def kM_Order_isTaken (σ : St) (x1 : Int32) : Option (Int32) :=
  if x1 < 0 then
      some 0
    else
      if 200 ≤ x1 then
        some 0
      else
        gd (inB x1 200) (
        if (σ 10 x1.toNatClampNeg) = (-1) then
          some 0
        else
          some 1)
noncomputable def kM_Order_placeOf (σ : St) (x1 : Int32) : Option (Int32 × St) :=
  bv (kM_Order_refresh σ) fun σ2 =>
    br (kM_Order_isTaken σ2 x1) fun r4 =>
    if r4 = 0 then
      some ((-1), σ2)
    else
      gd (inB x1 200) (
      some ((σ2 10 x1.toNatClampNeg), σ2))
noncomputable def kM_PT_about (σ : St) (x1 : Int32) (x2 : Int32) : Option (Int32 × St) :=
  br (kM_Items_isKnown σ x1) fun r2 =>
    if r2 = 0 then
      some ((-1), σ)
    else
      if x2 = 0 then
        br (kM_Items_isPage σ x1) fun r6 =>
        if r6 = 0 then
          some (0, σ)
        else
          some (1, σ)
      else if x2 = 1 then
        br (kM_Items_parentOf σ x1) fun r10 =>
        some (r10, σ)
      else if x2 = 2 then
        br (kM_Items_kidCountOf σ x1) fun r13 =>
        some (r13, σ)
      else if x2 = 3 then
        br (kM_Items_countOf σ x1) fun r16 =>
        some (r16, σ)
      else if x2 = 4 then
        bd (kM_Order_placeOf σ x1) fun r19 σ20 =>
        some (r19, σ20)
      else some ((-2), σ)
noncomputable def kM_PT_kid (σ : St) (x1 : Int32) (x2 : Int32) : Option (Int32) :=
  br (kM_Items_kidAt σ x1 x2) fun r2 =>
    some r2
noncomputable def kM_Walk_enter_Mender (σ : St) (x1 : Int32) : Option (St) :=
  if 200 ≤ (σ 33 0) then
      some σ
    else
      gd (inB (σ 33 0) 200) (
      lq (sk σ 14 (upd (σ 14) (((σ 33 0)) : Int32).toNatClampNeg x1)) fun σ3 =>
      gd (inB (σ3 33 0) 200) (
      lq (sk σ3 15 (upd (σ3 15) (((σ3 33 0)) : Int32).toNatClampNeg 0)) fun σ5 =>
      lq (sk σ5 33 (fun _ => ((σ5 33 0) + 1))) fun σ6 =>
      some σ6))
noncomputable def kJ_Items_dropKid_65 (σ : St) : Option (St) :=
  lq (sk σ 27 (fun _ => ((σ 27 0) + 1))) fun σ1 =>
    some σ1
noncomputable def kL_Items_dropKid_28 : Nat → St → Int32 → Int32 → Int32 → Option (St)
  | 0, _, _, _, _ => none
  | n + 1, σ, v1, v3, v4 => gd (inB v1 200) (
      if (σ 3 v1.toNatClampNeg) ≤ v4 then
        kJ_Items_dropKid_65 σ
      else
        gd (inB ((v3 + v4) + 1) 8000) (
        gd (inB (v3 + v4) 8000) (
        lq (sk σ 4 (upd (σ 4) (((v3 + v4)) : Int32).toNatClampNeg ((σ 4 (((v3 + v4) + 1)).toNatClampNeg)))) fun σ5 =>
        lq (v4 + 1) fun y6 =>
        kL_Items_dropKid_28 n σ5 v1 v3 y6)))
noncomputable def kM_Items_dropKid (σ : St) (x1 : Int32) (x2 : Int32) : Option (St) :=
  br (kM_Items_hasSlot σ x1 x2) fun r2 =>
    if r2 = 0 then
      some σ
    else
      lq (x1 * 40) fun y4 =>
      gd (inB x1 200) (
      gd (inB x1 200) (
      lq (sk σ 3 (upd (σ 3) (x1 : Int32).toNatClampNeg (((σ 3 x1.toNatClampNeg) - 1)))) fun σ7 =>
      kL_Items_dropKid_28 FU σ7 x1 y4 x2))
noncomputable def kJ_Mender_tell_29 (σ : St) : Option (St) :=
  lq (sk σ 31 (fun _ => ((σ 31 0) + 1))) fun σ1 =>
    some σ1
noncomputable def kM_Mender_tell (σ : St) (x1 : Int32) (x2 : Int32) : Option (St) :=
  if 100 ≤ (σ 31 0) then
      kJ_Mender_tell_29 σ
    else
      gd (inB (σ 31 0) 100) (
      lq (sk σ 16 (upd (σ 16) (((σ 31 0)) : Int32).toNatClampNeg x1)) fun σ3 =>
      gd (inB (σ3 31 0) 100) (
      lq (sk σ3 17 (upd (σ3 17) (((σ3 31 0)) : Int32).toNatClampNeg x2)) fun σ5 =>
      kJ_Mender_tell_29 σ5))
noncomputable def kL_Items_copyOwnValues_19 : Nat → St → Int32 → Int32 → Int32 → Option (St)
  | 0, _, _, _, _ => none
  | n + 1, σ, v1, v2, v3 => if 4 ≤ v3 then
        some σ
      else
        gd (inB ((v1 * 4) + v3) 800) (
        gd (inB ((v2 * 4) + v3) 800) (
        lq (sk σ 5 (upd (σ 5) ((((v2 * 4) + v3)) : Int32).toNatClampNeg ((σ 5 (((v1 * 4) + v3)).toNatClampNeg)))) fun σ4 =>
        lq (v3 + 1) fun y5 =>
        kL_Items_copyOwnValues_19 n σ4 v1 v2 y5))
noncomputable def kM_Items_copyOwnValues (σ : St) (x1 : Int32) (x2 : Int32) : Option (St) :=
  br (kM_Items_isKnown σ x1) fun r2 =>
    if r2 = 0 then
      some σ
    else
      br (kM_Items_isKnown σ x2) fun r5 =>
      if r5 = 0 then
        some σ
      else
        kL_Items_copyOwnValues_19 FU σ x1 x2 0
noncomputable def kM_Items_replaceKid (σ : St) (x1 : Int32) (x2 : Int32) (x3 : Int32) : Option (St) :=
  br (kM_Items_hasSlot σ x1 x2) fun r2 =>
    if r2 = 0 then
      some σ
    else
      gd (inB ((x1 * 40) + x2) 8000) (
      lq (sk σ 4 (upd (σ 4) ((((x1 * 40) + x2)) : Int32).toNatClampNeg x3)) fun σ5 =>
      lq (sk σ5 27 (fun _ => ((σ5 27 0) + 1))) fun σ6 =>
      some σ6)
noncomputable def kM_Mender_meetPageAgain (σ : St) (x1 : Int32) (x2 : Int32) (x3 : Int32) : Option (Int32 × St) :=
  br (kM_Items_isFull σ) fun r2 =>
    if r2 = 0 then
      bd (kM_Items_add σ 1 x1 0) fun r5 σ6 =>
      bv (kM_Items_copyOwnValues σ6 x3 r5) fun σ8 =>
      bv (kM_Items_replaceKid σ8 x1 x2 r5) fun σ10 =>
      lq (sk σ10 32 (fun _ => ((σ10 32 0) + 1))) fun σ11 =>
      bv (kM_Mender_tell σ11 3 x3) fun σ13 =>
      some (1, σ13)
    else
      bv (kM_Items_dropKid σ x1 x2) fun σ15 =>
      bv (kM_Mender_tell σ15 5 x3) fun σ17 =>
      some (0, σ17)
noncomputable def kL_Walk_isOnTheWay_Mender_2 (σ : St) : Nat → Int32 → Int32 → Option (Int32)
  | 0, _, _ => none
  | n + 1, v1, v2 => if (σ 33 0) ≤ v2 then
        some 0
      else
        gd (inB v2 200) (
        if (σ 14 v2.toNatClampNeg) = v1 then
          some 1
        else
          lq (v2 + 1) fun y4 =>
          kL_Walk_isOnTheWay_Mender_2 σ n v1 y4)
noncomputable def kM_Walk_isOnTheWay_Mender (σ : St) (x1 : Int32) : Option (Int32) :=
  kL_Walk_isOnTheWay_Mender_2 σ FU x1 0
noncomputable def kJ_Mender_meetNodeAgain_23 (σ : St) (v3 : Int32) (t1 : Int32) : Option (Int32 × St) :=
  bv (kM_Mender_tell σ t1 v3) fun σ2 =>
    some (0, σ2)
noncomputable def kM_Mender_meetNodeAgain (σ : St) (x1 : Int32) (x2 : Int32) (x3 : Int32) : Option (Int32 × St) :=
  bv (kM_Items_dropKid σ x1 x2) fun σ2 =>
    br (kM_Walk_isOnTheWay_Mender σ2 x3) fun r4 =>
    if r4 = 0 then
      kJ_Mender_meetNodeAgain_23 σ2 x3 2
    else
      kJ_Mender_meetNodeAgain_23 σ2 x3 1
noncomputable def kM_Items_setParent (σ : St) (x1 : Int32) (x2 : Int32) : Option (St) :=
  br (kM_Items_isKnown σ x1) fun r2 =>
    if r2 = 0 then
      some σ
    else
      gd (inB x1 200) (
      lq (sk σ 1 (upd (σ 1) (x1 : Int32).toNatClampNeg x2)) fun σ5 =>
      some σ5)
noncomputable def kM_Mender_meetFirst (σ : St) (x1 : Int32) (x2 : Int32) (x3 : Int32) : Option (St) :=
  bv (kM_Items_setParent σ x3 x1) fun σ2 =>
    br (kM_Items_isPage σ2 x3) fun r4 =>
    if r4 = 0 then
      gd (inB x3 200) (
      lq (sk σ2 18 (upd (σ2 18) (x3 : Int32).toNatClampNeg ((σ2 32 0)))) fun σ7 =>
      some σ7)
    else
      lq (sk σ2 32 (fun _ => ((σ2 32 0) + 1))) fun σ8 =>
      some σ8
noncomputable def kJ_Walk_meet_Mender_41 (σ : St) (v2 : Int32) (t0 : Int32) : Option (Int32 × St) :=
  if t0 = 0 then
      some (v2, σ)
    else
      some ((v2 + 1), σ)
noncomputable def kM_Walk_meet_Mender (σ : St) (x1 : Int32) (x2 : Int32) (x3 : Int32) : Option (Int32 × St) :=
  br (kM_Items_isPage σ x3) fun r2 =>
    gd (inB x3 200) (
    if (σ 13 x3.toNatClampNeg) = 0 then
      bv (kM_Mender_meetFirst σ x1 x2 x3) fun σ6 =>
      gd (inB x3 200) (
      lq (sk σ6 13 (upd (σ6 13) (x3 : Int32).toNatClampNeg ((vp_nar .boolean 1)))) fun σ8 =>
      if r2 = 0 then
        bv (kM_Walk_enter_Mender σ8 x3) fun σ11 =>
        some ((x2 + 1), σ11)
      else
        some ((x2 + 1), σ8))
    else
      if r2 = 0 then
        bd (kM_Mender_meetNodeAgain σ x1 x2 x3) fun r14 σ15 =>
        kJ_Walk_meet_Mender_41 σ15 x2 r14
      else
        bd (kM_Mender_meetPageAgain σ x1 x2 x3) fun r17 σ18 =>
        kJ_Walk_meet_Mender_41 σ18 x2 r17)
noncomputable def kM_Items_setCount (σ : St) (x1 : Int32) (x2 : Int32) : Option (St) :=
  br (kM_Items_isKnown σ x1) fun r2 =>
    if r2 = 0 then
      some σ
    else
      gd (inB x1 200) (
      lq (sk σ 2 (upd (σ 2) (x1 : Int32).toNatClampNeg x2)) fun σ5 =>
      some σ5)
noncomputable def kM_Mender_leave (σ : St) (x1 : Int32) : Option (St) :=
  gd (inB x1 200) (
    lq ((σ 32 0) - (σ 18 x1.toNatClampNeg)) fun y2 =>
    br (kM_Items_countOf σ x1) fun r4 =>
    if r4 = y2 then
      some σ
    else
      bv (kM_Items_setCount σ x1 y2) fun σ7 =>
      bv (kM_Mender_tell σ7 4 x1) fun σ9 =>
      some σ9)
noncomputable def kJ_Walk_walkAll_Mender_144 (k51 : St → Int32 → Option (St)) (σ : St) (v1 : Int32) : Option (St) :=
  lq (v1 + 1) fun y1 =>
    k51 σ y1
noncomputable def kL_Walk_walkAll_Mender_51 : Nat → St → Int32 → Option (St)
  | 0, _, _ => none
  | n + 1, σ, v1 => if 8200 ≤ v1 then
        some σ
      else
        if (σ 33 0) ≤ 0 then
          some σ
        else
          lq ((σ 33 0) - 1) fun y3 =>
          gd (inB y3 200) (
          lq (σ 14 y3.toNatClampNeg) fun y5 =>
          gd (inB y3 200) (
          lq (σ 15 y3.toNatClampNeg) fun y7 =>
          br (kM_Items_kidAt σ y5 y7) fun r9 =>
          br (kM_Items_isKnown σ r9) fun r11 =>
          if r11 = 0 then
            bv (kM_Mender_leave σ y5) fun σ14 =>
            lq (sk σ14 33 (fun _ => ((σ14 33 0) - 1))) fun σ15 =>
            kJ_Walk_walkAll_Mender_144 (fun σ z0 => kL_Walk_walkAll_Mender_51 n σ z0) σ15 v1
          else
            bd (kM_Walk_meet_Mender σ y5 y7 r9) fun r17 σ18 =>
            gd (inB y3 200) (
            lq (sk σ18 15 (upd (σ18 15) (y3 : Int32).toNatClampNeg r17)) fun σ20 =>
            kJ_Walk_walkAll_Mender_144 (fun σ z0 => kL_Walk_walkAll_Mender_51 n σ z0) σ20 v1)))
noncomputable def kJ_Walk_walkAll_Mender_49 (σ : St) : Option (St) :=
  kL_Walk_walkAll_Mender_51 FU σ 0
noncomputable def kJ_Walk_walkAll_Mender_22 (σ : St) : Option (St) :=
  lq (sk σ 33 (fun _ => 0)) fun σ1 =>
    br (kM_Items_size σ1) fun r3 =>
    if r3 ≤ 0 then
      kJ_Walk_walkAll_Mender_49 σ1
    else
      gd (inB 0 200) (
      lq (sk σ1 13 (upd (σ1 13) (0 : Int32).toNatClampNeg ((vp_nar .boolean 1)))) fun σ6 =>
      bv (kM_Walk_enter_Mender σ6 0) fun σ8 =>
      kJ_Walk_walkAll_Mender_49 σ8)
noncomputable def kL_Walk_walkAll_Mender_2 : Nat → St → Int32 → Option (St)
  | 0, _, _ => none
  | n + 1, σ, v1 => if 200 ≤ v1 then
        kJ_Walk_walkAll_Mender_22 σ
      else
        gd (inB v1 200) (
        lq (sk σ 13 (upd (σ 13) (v1 : Int32).toNatClampNeg ((vp_nar .boolean 0)))) fun σ3 =>
        lq (v1 + 1) fun y4 =>
        kL_Walk_walkAll_Mender_2 n σ3 y4)
noncomputable def kM_Walk_walkAll_Mender (σ : St) : Option (St) :=
  kL_Walk_walkAll_Mender_2 FU σ 0
noncomputable def kM_Mender_putRight (σ : St) : Option (Int32 × St) :=
  lq (sk σ 31 (fun _ => 0)) fun σ1 =>
    lq (sk σ1 32 (fun _ => 0)) fun σ2 =>
    bv (kM_Walk_walkAll_Mender σ2) fun σ4 =>
    some ((σ4 31 0), σ4)
noncomputable def kM_PT_mend (σ : St) : Option (Int32 × St) :=
  bd (kM_Mender_putRight σ) fun r2 σ3 =>
    some (r2, σ3)
noncomputable def kM_Mender_tellingAt (σ : St) (x1 : Int32) (x2 : Int32) : Option (Int32) :=
  if x1 < 0 then
      some (-1)
    else
      if (σ 31 0) ≤ x1 then
        some (-1)
      else
        if x1 < 100 then
          if x2 = 0 then
            gd (inB x1 100) (
            some (σ 16 x1.toNatClampNeg))
          else if x2 = 1 then
            gd (inB x1 100) (
            some (σ 17 x1.toNatClampNeg))
          else some (-1)
        else
          some (-1)
noncomputable def kM_PT_told (σ : St) (x1 : Int32) (x2 : Int32) : Option (Int32) :=
  br (kM_Mender_tellingAt σ x1 x2) fun r2 =>
    some r2
noncomputable def kM_Order_listerOf (σ : St) (x1 : Int32) : Option (Int32 × St) :=
  bv (kM_Order_refresh σ) fun σ2 =>
    br (kM_Order_isTaken σ2 x1) fun r4 =>
    if r4 = 0 then
      some ((-1), σ2)
    else
      gd (inB x1 200) (
      some ((σ2 11 x1.toNatClampNeg), σ2))
noncomputable def kJ_Items_kidCountWithout_29 (k5 : Int32 → Int32 → Int32 → Int32 → Option (Int32)) (σ : St) (v1 : Int32) (v2 : Int32) (v3 : Int32) (v4 : Int32) : Option (Int32) :=
  lq (v4 + 1) fun y1 =>
    k5 v1 v2 v3 y1
noncomputable def kL_Items_kidCountWithout_5 (σ : St) : Nat → Int32 → Int32 → Int32 → Int32 → Option (Int32)
  | 0, _, _, _, _ => none
  | n + 1, v1, v2, v3, v4 => br (kM_Items_kidCountOf σ v1) fun r2 =>
      if r2 ≤ v4 then
        some v3
      else
        br (kM_Items_kidAt σ v1 v4) fun r5 =>
        if r5 = v2 then
          kJ_Items_kidCountWithout_29 (fun z0 z1 z2 z3 => kL_Items_kidCountWithout_5 σ n z0 z1 z2 z3) σ v1 v2 v3 v4
        else
          lq (v3 + 1) fun y7 =>
          kJ_Items_kidCountWithout_29 (fun z0 z1 z2 z3 => kL_Items_kidCountWithout_5 σ n z0 z1 z2 z3) σ v1 v2 y7 v4
noncomputable def kM_Items_kidCountWithout (σ : St) (x1 : Int32) (x2 : Int32) : Option (Int32) :=
  kL_Items_kidCountWithout_5 σ FU x1 x2 0 0
noncomputable def kL_Items_ownValuesOf_2 : Nat → St → Int32 → Int32 → Int32 → Option (St)
  | 0, _, _, _, _ => none
  | n + 1, σ, v1, v2, v3 => if 4 ≤ v3 then
        some σ
      else
        br (kM_Items_valueOf σ v1 v3) fun r3 =>
        bv (kM_Items_setOwnValue σ v2 v3 r3) fun σ5 =>
        lq (v3 + 1) fun y6 =>
        kL_Items_ownValuesOf_2 n σ5 v1 v2 y6
noncomputable def kM_Items_ownValuesOf (σ : St) (x1 : Int32) (x2 : Int32) : Option (St) :=
  kL_Items_ownValuesOf_2 FU σ x1 x2 0
noncomputable def kJ_Items_dropFromList_53 (k11 : St → Int32 → Int32 → Int32 → Int32 → Int32 → Option (St)) (σ : St) (v1 : Int32) (v2 : Int32) (v3 : Int32) (v4 : Int32) (v5 : Int32) : Option (St) :=
  lq (v5 + 1) fun y1 =>
    k11 σ v1 v2 v3 v4 y1
noncomputable def kJ_Items_dropFromList_59 (σ : St) (v1 : Int32) (v4 : Int32) : Option (St) :=
  gd (inB v1 200) (
    lq (sk σ 3 (upd (σ 3) (v1 : Int32).toNatClampNeg v4)) fun σ2 =>
    some σ2)
noncomputable def kL_Items_dropFromList_11 : Nat → St → Int32 → Int32 → Int32 → Int32 → Int32 → Option (St)
  | 0, _, _, _, _, _, _ => none
  | n + 1, σ, v1, v2, v3, v4, v5 => gd (inB v1 200) (
      if (σ 3 v1.toNatClampNeg) ≤ v5 then
        kJ_Items_dropFromList_59 σ v1 v4
      else
        gd (inB (v3 + v5) 8000) (
        lq (σ 4 ((v3 + v5)).toNatClampNeg) fun y4 =>
        if y4 = v2 then
          kJ_Items_dropFromList_53 (fun σ z0 z1 z2 z3 z4 => kL_Items_dropFromList_11 n σ z0 z1 z2 z3 z4) σ v1 v2 v3 v4 v5
        else
          gd (inB (v3 + v4) 8000) (
          lq (sk σ 4 (upd (σ 4) (((v3 + v4)) : Int32).toNatClampNeg y4)) fun σ7 =>
          lq (v4 + 1) fun y8 =>
          kJ_Items_dropFromList_53 (fun σ z0 z1 z2 z3 z4 => kL_Items_dropFromList_11 n σ z0 z1 z2 z3 z4) σ7 v1 v2 v3 y8 v5)))
noncomputable def kM_Items_dropFromList (σ : St) (x1 : Int32) (x2 : Int32) : Option (St) :=
  lq (x1 * 40) fun y1 =>
    kL_Items_dropFromList_11 FU σ x1 x2 y1 0 0
noncomputable def kJ_Items_dropEverywhere_22 (σ : St) : Option (St) :=
  lq (sk σ 27 (fun _ => ((σ 27 0) + 1))) fun σ1 =>
    some σ1
noncomputable def kL_Items_dropEverywhere_2 : Nat → St → Int32 → Int32 → Option (St)
  | 0, _, _, _ => none
  | n + 1, σ, v1, v2 => if (σ 26 0) ≤ v2 then
        kJ_Items_dropEverywhere_22 σ
      else
        bv (kM_Items_dropFromList σ v2 v1) fun σ3 =>
        lq (v2 + 1) fun y4 =>
        kL_Items_dropEverywhere_2 n σ3 v1 y4
noncomputable def kM_Items_dropEverywhere (σ : St) (x1 : Int32) : Option (St) :=
  kL_Items_dropEverywhere_2 FU σ x1 0
noncomputable def kM_Order_slotOf (σ : St) (x1 : Int32) : Option (Int32 × St) :=
  bv (kM_Order_refresh σ) fun σ2 =>
    br (kM_Order_isTaken σ2 x1) fun r4 =>
    if r4 = 0 then
      some ((-1), σ2)
    else
      gd (inB x1 200) (
      some ((σ2 12 x1.toNatClampNeg), σ2))
noncomputable def kJ_PT_move_164 (σ : St) (v1 : Int32) (v2 : Int32) (v7 : Int32) (t1 : Int32) (t2 : Int32) : Option (Int32 × St) :=
  bv (kM_Items_insertKid σ t1 t2 v1) fun σ2 =>
    bv (kM_Items_setParent σ2 v1 v7) fun σ4 =>
    some (v2, σ4)
noncomputable def kJ_PT_move_81 (σ : St) (v1 : Int32) (v2 : Int32) (v4 : Int32) (t1 : Int32) : Option (Int32 × St) :=
  bd (kM_Order_pageAt σ t1) fun r2 σ3 =>
    bd (kM_Order_listerOf σ3 r2) fun r5 σ6 =>
    br (kM_Items_kidCountWithout σ6 r5 v1) fun r8 =>
    if r8 < 40 then
      bv (kM_Items_ownValuesOf σ6 v1 v1) fun σ11 =>
      bv (kM_Items_dropEverywhere σ11 v1) fun σ13 =>
      bd (kM_Order_slotOf σ13 r2) fun r15 σ16 =>
      if v2 = v4 then
        kJ_PT_move_164 σ16 v1 v2 r5 r5 (r15 + 1)
      else
        kJ_PT_move_164 σ16 v1 v2 r5 r5 r15
    else
      some ((-4), σ6)
noncomputable def kJ_PT_move_60 (σ : St) (v1 : Int32) (v2 : Int32) (v3 : Int32) (v4 : Int32) (t0 : Int32) : Option (Int32 × St) :=
  if v3 ≤ t0 then
      kJ_PT_move_81 σ v1 v2 v4 (t0 + 1)
    else
      kJ_PT_move_81 σ v1 v2 v4 t0
noncomputable def kM_PT_move (σ : St) (x1 : Int32) (x2 : Int32) : Option (Int32 × St) :=
  bd (kM_Order_placeOf σ x1) fun r2 σ3 =>
    if r2 = (-1) then
      some ((-1), σ3)
    else
      bd (kM_Order_size σ3) fun r6 σ7 =>
      lq (r6 - 1) fun y8 =>
      if x2 < 0 then
        some ((-2), σ7)
      else
        if x2 ≤ y8 then
          if y8 = 0 then
            some (r2, σ7)
          else
            if x2 = y8 then
              kJ_PT_move_60 σ7 x1 x2 r2 y8 (x2 - 1)
            else
              kJ_PT_move_60 σ7 x1 x2 r2 y8 x2
        else
          some ((-2), σ7)
noncomputable def kM_PT_copy (σ : St) (x1 : Int32) : Option (Int32 × St) :=
  bd (kM_Order_placeOf σ x1) fun r2 σ3 =>
    if r2 = (-1) then
      some ((-1), σ3)
    else
      bd (kM_Order_listerOf σ3 x1) fun r6 σ7 =>
      bd (kM_Order_slotOf σ7 x1) fun r9 σ10 =>
      br (kM_Items_isFull σ10) fun r12 =>
      if r12 = 0 then
        br (kM_Items_hasNoSlotLeft σ10 r6) fun r15 =>
        if r15 = 0 then
          bd (kM_Items_add σ10 1 r6 0) fun r18 σ19 =>
          bv (kM_Items_ownValuesOf σ19 x1 r18) fun σ21 =>
          bv (kM_Items_insertKid σ21 r6 (r9 + 1) r18) fun σ23 =>
          some (r18, σ23)
        else
          some ((-4), σ10)
      else
        some ((-4), σ10)
noncomputable def kJ_Names_forget_49 (k4 : St → Int32 → Int32 → Int32 → Option (Int32 × St)) (σ : St) (v1 : Int32) (v2 : Int32) (v3 : Int32) : Option (Int32 × St) :=
  lq (v3 + 1) fun y1 =>
    k4 σ v1 v2 y1
noncomputable def kJ_Names_forget_55 (σ : St) (v2 : Int32) : Option (Int32 × St) :=
  lq ((σ 37 0) - v2) fun y1 =>
    lq (sk σ 37 (fun _ => v2)) fun σ2 =>
    some (y1, σ2)
noncomputable def kL_Names_forget_4 : Nat → St → Int32 → Int32 → Int32 → Option (Int32 × St)
  | 0, _, _, _, _ => none
  | n + 1, σ, v1, v2, v3 => if (σ 37 0) ≤ v3 then
        kJ_Names_forget_55 σ v2
      else
        gd (inB v3 60) (
        if (σ 25 v3.toNatClampNeg) = v1 then
          kJ_Names_forget_49 (fun σ z0 z1 z2 => kL_Names_forget_4 n σ z0 z1 z2) σ v1 v2 v3
        else
          gd (inB v3 60) (
          gd (inB v2 60) (
          lq (sk σ 24 (upd (σ 24) (v2 : Int32).toNatClampNeg ((σ 24 v3.toNatClampNeg)))) fun σ6 =>
          gd (inB v3 60) (
          gd (inB v2 60) (
          lq (sk σ6 25 (upd (σ6 25) (v2 : Int32).toNatClampNeg ((σ6 25 v3.toNatClampNeg)))) fun σ9 =>
          lq (v2 + 1) fun y10 =>
          kJ_Names_forget_49 (fun σ z0 z1 z2 => kL_Names_forget_4 n σ z0 z1 z2) σ9 v1 y10 v3)))))
noncomputable def kM_Names_forget (σ : St) (x1 : Int32) : Option (Int32 × St) :=
  kL_Names_forget_4 FU σ x1 0 0
noncomputable def kM_PT_remove (σ : St) (x1 : Int32) : Option (Int32 × St) :=
  bd (kM_Order_placeOf σ x1) fun r2 σ3 =>
    if r2 = (-1) then
      some ((-1), σ3)
    else
      bd (kM_Order_size σ3) fun r6 σ7 =>
      if r6 = 1 then
        some ((-3), σ7)
      else
        bv (kM_Items_dropEverywhere σ7 x1) fun σ10 =>
        bv (kM_Items_setParent σ10 x1 (-1)) fun σ12 =>
        bd (kM_Names_forget σ12 x1) fun r14 σ15 =>
        some (r14, σ15)
noncomputable def kM_Labels_isRange (σ : St) (x0 : Int32) (x1 : Int32) (x2 : Int32) : Option (Int32) :=
  if x0 < 0 then
      some 0
    else
      if 199 < x0 then
        some 0
      else
        if x1 < 0 then
          some 0
        else
          if 2 < x1 then
            some 0
          else
            if x2 < 1 then
              some 0
            else
              if 1000 < x2 then
                some 0
              else
                some 1
noncomputable def kL_Labels_rangeFrom_2 (σ : St) : Nat → Int32 → Int32 → Option (Int32)
  | 0, _, _ => none
  | n + 1, v1, v2 => if (σ 35 0) ≤ v2 then
        some (σ 35 0)
      else
        gd (inB v2 20) (
        if (σ 20 v2.toNatClampNeg) = v1 then
          some v2
        else
          lq (v2 + 1) fun y4 =>
          kL_Labels_rangeFrom_2 σ n v1 y4)
noncomputable def kM_Labels_rangeFrom (σ : St) (x1 : Int32) : Option (Int32) :=
  kL_Labels_rangeFrom_2 σ FU x1 0
noncomputable def kJ_Labels_begin_35 (σ : St) (v1 : Int32) (v2 : Int32) (v3 : Int32) (v4 : Int32) : Option (Int32 × St) :=
  gd (inB v4 20) (
    lq (sk σ 20 (upd (σ 20) (v4 : Int32).toNatClampNeg v1)) fun σ2 =>
    gd (inB v4 20) (
    lq (sk σ2 21 (upd (σ2 21) (v4 : Int32).toNatClampNeg v2)) fun σ4 =>
    gd (inB v4 20) (
    lq (sk σ4 22 (upd (σ4 22) (v4 : Int32).toNatClampNeg v3)) fun σ6 =>
    some (1, σ6))))
noncomputable def kM_Labels_begin (σ : St) (x1 : Int32) (x2 : Int32) (x3 : Int32) : Option (Int32 × St) :=
  br (kM_Labels_rangeFrom σ x1) fun r2 =>
    if r2 < 20 then
      if r2 = (σ 35 0) then
        lq (sk σ 35 (fun _ => ((σ 35 0) + 1))) fun σ5 =>
        kJ_Labels_begin_35 σ5 x1 x2 x3 r2
      else
        kJ_Labels_begin_35 σ x1 x2 x3 r2
    else
      some (0, σ)
noncomputable def kM_Labels_size (σ : St) : Option (Int32) :=
  some (σ 35 0)
noncomputable def kM_PT_label (σ : St) (x1 : Int32) (x2 : Int32) (x3 : Int32) : Option (Int32 × St) :=
  br (kM_Labels_isRange σ x1 x2 x3) fun r2 =>
    if r2 = 0 then
      some ((-2), σ)
    else
      bd (kM_Labels_begin σ x1 x2 x3) fun r5 σ6 =>
      if r5 = 0 then
        some ((-4), σ6)
      else
        br (kM_Labels_size σ6) fun r9 =>
        some (r9, σ6)
noncomputable def kJ_Labels_rangeAround_56 (k4 : Int32 → Int32 → Int32 → Option (Int32)) (σ : St) (v1 : Int32) (v2 : Int32) (v3 : Int32) : Option (Int32) :=
  lq (v3 + 1) fun y1 =>
    k4 v1 v2 y1
noncomputable def kJ_Labels_rangeAround_54 (k4 : Int32 → Int32 → Int32 → Option (Int32)) (σ : St) (v1 : Int32) (v3 : Int32) : Option (Int32) :=
  kJ_Labels_rangeAround_56 k4 σ v1 v3 v3
noncomputable def kJ_Labels_rangeAround_27 (k4 : Int32 → Int32 → Int32 → Option (Int32)) (σ : St) (v1 : Int32) (v2 : Int32) (v3 : Int32) (t0 : Int32) : Option (Int32) :=
  if t0 = 0 then
      kJ_Labels_rangeAround_56 k4 σ v1 v2 v3
    else
      if v2 = (-1) then
        kJ_Labels_rangeAround_54 k4 σ v1 v3
      else
        gd (inB v3 20) (
        gd (inB v2 20) (
        if (σ 20 v3.toNatClampNeg) ≤ (σ 20 v2.toNatClampNeg) then
          kJ_Labels_rangeAround_56 k4 σ v1 v2 v3
        else
          kJ_Labels_rangeAround_54 k4 σ v1 v3))
noncomputable def kL_Labels_rangeAround_4 (σ : St) : Nat → Int32 → Int32 → Int32 → Option (Int32)
  | 0, _, _, _ => none
  | n + 1, v1, v2, v3 => if (σ 35 0) ≤ v3 then
        some v2
      else
        gd (inB v3 20) (
        if v1 < (σ 20 v3.toNatClampNeg) then
          kJ_Labels_rangeAround_27 (fun z0 z1 z2 => kL_Labels_rangeAround_4 σ n z0 z1 z2) σ v1 v2 v3 0
        else
          kJ_Labels_rangeAround_27 (fun z0 z1 z2 => kL_Labels_rangeAround_4 σ n z0 z1 z2) σ v1 v2 v3 1)
noncomputable def kM_Labels_rangeAround (σ : St) (x1 : Int32) : Option (Int32) :=
  kL_Labels_rangeAround_4 σ FU x1 (-1) 0
noncomputable def kM_Labels_writeSign (σ : St) (x1 : Int32) : Option (St) :=
  if 64 ≤ (σ 36 0) then
      some σ
    else
      gd (inB (σ 36 0) 64) (
      lq (sk σ 23 (upd (σ 23) (((σ 36 0)) : Int32).toNatClampNeg ((vp_nar .char x1)))) fun σ3 =>
      lq (sk σ3 36 (fun _ => ((σ3 36 0) + 1))) fun σ4 =>
      some σ4)
noncomputable def kJ_Labels_writeDigits_27 (k4 : St → Int32 → Int32 → Option (St)) (σ : St) (v1 : Int32) (v2 : Int32) : Option (St) :=
  lq (v2 / 10) fun y1 =>
    k4 σ v1 y1
noncomputable def kL_Labels_writeDigits_4 : Nat → St → Int32 → Int32 → Option (St)
  | 0, _, _, _ => none
  | n + 1, σ, v1, v2 => if v2 ≤ 0 then
        some σ
      else
        if v1 < v2 then
          kJ_Labels_writeDigits_27 (fun σ z0 z1 => kL_Labels_writeDigits_4 n σ z0 z1) σ v1 v2
        else
          gd (nzB v2) (
          bv (kM_Labels_writeSign σ ((((48 + ((v1 / v2) - (v1 / v2) / 10 * 10))).toUInt32 % 65536).toInt32)) fun σ5 =>
          kJ_Labels_writeDigits_27 (fun σ z0 z1 => kL_Labels_writeDigits_4 n σ z0 z1) σ5 v1 v2)
noncomputable def kM_Labels_writeDigits (σ : St) (x1 : Int32) : Option (St) :=
  kL_Labels_writeDigits_4 FU σ x1 1000
noncomputable def kM_Labels_romanSigns (σ : St) (x0 : Int32) : Option (Int32) :=
  if x0 = 4 then
      some 11
    else if x0 = 5 then
      some 10
    else if x0 = 9 then
      some 9
    else if x0 = 10 then
      some 8
    else if x0 = 40 then
      some 7
    else if x0 = 50 then
      some 6
    else if x0 = 90 then
      some 5
    else if x0 = 100 then
      some 4
    else if x0 = 400 then
      some 3
    else if x0 = 500 then
      some 2
    else if x0 = 900 then
      some 1
    else if x0 = 1000 then
      some 0
    else some 12
noncomputable def kL_Labels_writeSigns_2 : Nat → St → Int32 → Int32 → Option (St)
  | 0, _, _, _ => none
  | n + 1, σ, v1, v2 => gd (inB v1 13) (
      if (kSL v1) ≤ v2 then
        some σ
      else
        gd (inB v1 13) (gd (inB v2 (kLN v1)) (
        bv (kM_Labels_writeSign σ (kSC v1 v2)) fun σ6 =>
        lq (v2 + 1) fun y7 =>
        kL_Labels_writeSigns_2 n σ6 v1 y7)))
noncomputable def kM_Labels_writeSigns (σ : St) (x1 : Int32) : Option (St) :=
  kL_Labels_writeSigns_2 FU σ x1 0
noncomputable def kJ_Labels_writeRoman_49 (k13 : St → Int32 → Int32 → Int32 → Option (St)) (σ : St) (v2 : Int32) (v4 : Int32) (v5 : Int32) : Option (St) :=
  lq (v5 + 1) fun y1 =>
    k13 σ v2 v4 y1
noncomputable def kL_Labels_writeRoman_26 (k13 : St → Int32 → Int32 → Int32 → Option (St)) : Nat → St → Int32 → Int32 → Int32 → Int32 → Option (St)
  | 0, _, _, _, _, _ => none
  | n + 1, σ, v2, v4, v5, v6 => if v2 < v6 then
        kJ_Labels_writeRoman_49 k13 σ v2 v4 v5
      else
        br (kM_Labels_romanSigns σ v6) fun r3 =>
        bv (kM_Labels_writeSigns σ r3) fun σ5 =>
        lq (v2 - v6) fun y6 =>
        kL_Labels_writeRoman_26 k13 n σ5 y6 v4 v5 v6
noncomputable def kL_Labels_writeRoman_13 : Nat → St → Int32 → Int32 → Int32 → Option (St)
  | 0, _, _, _, _ => none
  | n + 1, σ, v2, v4, v5 => if v4 ≤ v5 then
        some σ
      else
        gd (inB v5 13) (
        lq (kRom.getD (v5 : Int32).toNatClampNeg 0) fun y3 =>
        kL_Labels_writeRoman_26 (fun σ z0 z1 z2 => kL_Labels_writeRoman_13 n σ z0 z1 z2) FU σ v2 v4 v5 y3)
noncomputable def kM_Labels_writeRoman (σ : St) (x1 : Int32) : Option (St) :=
  kL_Labels_writeRoman_13 FU σ x1 13 0
noncomputable def kL_Labels_writeLetters_24 : Nat → St → Int32 → Int32 → Int32 → Option (St)
  | 0, _, _, _, _ => none
  | n + 1, σ, v3, v4, v5 => if v4 ≤ v5 then
        some σ
      else
        bv (kM_Labels_writeSign σ v3) fun σ3 =>
        lq (v5 + 1) fun y4 =>
        kL_Labels_writeLetters_24 n σ3 v3 v4 y4
noncomputable def kM_Labels_writeLetters (σ : St) (x1 : Int32) : Option (St) :=
  lq (x1 - 1) fun y1 =>
    lq ((((97 + (y1 - y1 / 26 * 26))).toUInt32 % 65536).toInt32) fun y2 =>
    lq ((y1 / 26) + 1) fun y3 =>
    kL_Labels_writeLetters_24 FU σ y2 y3 0
noncomputable def kM_Labels_write (σ : St) (x1 : Int32) (x2 : Int32) : Option (St) :=
  if x1 = 1 then
      bv (kM_Labels_writeRoman σ x2) fun σ8 =>
      some σ8
    else
      if x1 = 2 then
        bv (kM_Labels_writeLetters σ x2) fun σ6 =>
        some σ6
      else
        bv (kM_Labels_writeDigits σ x2) fun σ4 =>
        some σ4
noncomputable def kJ_Labels_signOf_51 (σ : St) (v2 : Int32) : Option (Int32 × St) :=
  if v2 < 0 then
      some ((-1), σ)
    else
      if (σ 36 0) ≤ v2 then
        some ((-1), σ)
      else
        gd (inB v2 64) (
        some ((σ 23 v2.toNatClampNeg), σ))
noncomputable def kM_Labels_signOf (σ : St) (x1 : Int32) (x2 : Int32) : Option (Int32 × St) :=
  br (kM_Labels_rangeAround σ x1) fun r2 =>
    lq (sk σ 36 (fun _ => 0)) fun σ3 =>
    if r2 = (-1) then
      bv (kM_Labels_writeDigits σ3 (x1 + 1)) fun σ11 =>
      kJ_Labels_signOf_51 σ11 x2
    else
      gd (inB r2 20) (
      gd (inB r2 20) (
      gd (inB r2 20) (
      bv (kM_Labels_write σ3 (σ3 21 r2.toNatClampNeg) (((σ3 22 r2.toNatClampNeg) + x1) - (σ3 20 r2.toNatClampNeg))) fun σ9 =>
      kJ_Labels_signOf_51 σ9 x2)))
noncomputable def kM_PT_text (σ : St) (x1 : Int32) (x2 : Int32) : Option (Int32 × St) :=
  bd (kM_Order_pageAt σ x1) fun r2 σ3 =>
    if r2 = (-1) then
      some ((-1), σ3)
    else
      bd (kM_Labels_signOf σ3 x1 x2) fun r6 σ7 =>
      some (r6, σ7)
noncomputable def kM_Names_isName (σ : St) (x0 : Int32) : Option (Int32) :=
  if x0 < 0 then
      some 0
    else
      if 9999 < x0 then
        some 0
      else
        some 1
noncomputable def kL_Names_pageOf_2 (σ : St) : Nat → Int32 → Int32 → Option (Int32)
  | 0, _, _ => none
  | n + 1, v1, v2 => if (σ 37 0) ≤ v2 then
        some (-1)
      else
        gd (inB v2 60) (
        if (σ 24 v2.toNatClampNeg) = v1 then
          gd (inB v2 60) (
          some (σ 25 v2.toNatClampNeg))
        else
          lq (v2 + 1) fun y4 =>
          kL_Names_pageOf_2 σ n v1 y4)
noncomputable def kM_Names_pageOf (σ : St) (x1 : Int32) : Option (Int32) :=
  kL_Names_pageOf_2 σ FU x1 0
noncomputable def kM_Names_add (σ : St) (x1 : Int32) (x2 : Int32) : Option (Int32 × St) :=
  if (σ 37 0) < 60 then
      gd (inB (σ 37 0) 60) (
      lq (sk σ 24 (upd (σ 24) (((σ 37 0)) : Int32).toNatClampNeg x1)) fun σ3 =>
      gd (inB (σ3 37 0) 60) (
      lq (sk σ3 25 (upd (σ3 25) (((σ3 37 0)) : Int32).toNatClampNeg x2)) fun σ5 =>
      lq (sk σ5 37 (fun _ => ((σ5 37 0) + 1))) fun σ6 =>
      some (1, σ6)))
    else
      some (0, σ)
noncomputable def kM_Names_size (σ : St) : Option (Int32) :=
  some (σ 37 0)
noncomputable def kM_PT_name (σ : St) (x1 : Int32) (x2 : Int32) : Option (Int32 × St) :=
  bd (kM_Order_placeOf σ x2) fun r2 σ3 =>
    if r2 = (-1) then
      some ((-1), σ3)
    else
      br (kM_Names_isName σ3 x1) fun r6 =>
      if r6 = 0 then
        some ((-2), σ3)
      else
        br (kM_Names_pageOf σ3 x1) fun r9 =>
        if r9 = (-1) then
          bd (kM_Names_add σ3 x1 x2) fun r12 σ13 =>
          if r12 = 0 then
            some ((-4), σ13)
          else
            br (kM_Names_size σ13) fun r16 =>
            some (r16, σ13)
        else
          some ((-3), σ3)
noncomputable def kM_PT_look (σ : St) (x1 : Int32) : Option (Int32) :=
  br (kM_Names_pageOf σ x1) fun r2 =>
    some r2
noncomputable def kL_Bal_nodesFor_6 (σ : St) : Nat → Int32 → Int32 → Int32 → Option (Int32)
  | 0, _, _, _ => none
  | n + 1, v1, v2, v3 => if 200 ≤ v3 then
        some v1
      else
        if v2 ≤ 4 then
          some v1
        else
          lq (((v2 + 4) - 1) / 4) fun y3 =>
          lq (v1 + y3) fun y4 =>
          lq (v3 + 1) fun y5 =>
          kL_Bal_nodesFor_6 σ n y4 y3 y5
noncomputable def kM_Bal_nodesFor (σ : St) (x0 : Int32) : Option (Int32) :=
  kL_Bal_nodesFor_6 σ FU 0 x0 0
noncomputable def kM_Order_takenPages (σ : St) : Option (St) :=
  bv (kM_Order_refresh σ) fun σ2 =>
    some σ2
noncomputable def kJ_Items_loosenAll_30 (σ : St) : Option (St) :=
  lq (sk σ 27 (fun _ => ((σ 27 0) + 1))) fun σ1 =>
    some σ1
noncomputable def kL_Items_loosenAll_2 : Nat → St → Int32 → Option (St)
  | 0, _, _ => none
  | n + 1, σ, v1 => if (σ 26 0) ≤ v1 then
        kJ_Items_loosenAll_30 σ
      else
        gd (inB v1 200) (
        lq (sk σ 1 (upd (σ 1) (v1 : Int32).toNatClampNeg (-1))) fun σ3 =>
        gd (inB v1 200) (
        lq (sk σ3 3 (upd (σ3 3) (v1 : Int32).toNatClampNeg 0)) fun σ5 =>
        lq (v1 + 1) fun y6 =>
        kL_Items_loosenAll_2 n σ5 y6))
noncomputable def kM_Items_loosenAll (σ : St) : Option (St) :=
  kL_Items_loosenAll_2 FU σ 0
noncomputable def kJ_Bal_hang_68 (k6 : St → Int32 → Int32 → Int32 → Int32 → Option (St)) (σ : St) (v1 : Int32) (v3 : Int32) (v5 : Int32) (t0 : Int32) (t1 : Int32) : Option (St) :=
  lq (t0 + t1) fun y1 =>
    lq (v5 + 1) fun y2 =>
    k6 σ v1 v3 y1 y2
noncomputable def kJ_Bal_hang_77 (σ : St) (v1 : Int32) (v4 : Int32) : Option (St) :=
  bv (kM_Items_setCount σ v1 v4) fun σ2 =>
    some σ2
noncomputable def kL_Bal_hang_6 : Nat → St → Int32 → Int32 → Int32 → Int32 → Option (St)
  | 0, _, _, _, _, _ => none
  | n + 1, σ, v1, v3, v4, v5 => if v3 ≤ v5 then
        kJ_Bal_hang_77 σ v1 v4
      else
        gd (inB v5 200) (
        lq (σ 19 v5.toNatClampNeg) fun y3 =>
        bv (kM_Items_appendKid σ v1 y3) fun σ5 =>
        bv (kM_Items_setParent σ5 y3 v1) fun σ7 =>
        br (kM_Items_isPage σ7 y3) fun r9 =>
        if r9 = 0 then
          br (kM_Items_countOf σ7 y3) fun r12 =>
          kJ_Bal_hang_68 (fun σ z0 z1 z2 z3 => kL_Bal_hang_6 n σ z0 z1 z2 z3) σ7 v1 v3 v5 v4 r12
        else
          kJ_Bal_hang_68 (fun σ z0 z1 z2 z3 => kL_Bal_hang_6 n σ z0 z1 z2 z3) σ7 v1 v3 v5 v4 1)
noncomputable def kM_Bal_hang (σ : St) (x1 : Int32) (x2 : Int32) (x3 : Int32) : Option (St) :=
  kL_Bal_hang_6 FU σ x1 x3 0 x2
noncomputable def kJ_Bal_raiseRow_55 (σ : St) (v1 : Int32) : Option (St) :=
  lq (sk σ 34 (fun _ => v1)) fun σ1 =>
    some σ1
noncomputable def kL_Bal_raiseRow_4 : Nat → St → Int32 → Int32 → Option (St)
  | 0, _, _, _ => none
  | n + 1, σ, v1, v2 => if (σ 34 0) ≤ v2 then
        kJ_Bal_raiseRow_55 σ v1
      else
        bd (kM_Items_add σ 0 (-1) 0) fun r3 σ4 =>
        bv (kM_Bal_hang σ4 r3 v2 (if (σ4 34 0) < (v2 + 4) then (σ4 34 0) else (v2 + 4))) fun σ6 =>
        gd (inB v1 200) (
        lq (sk σ6 19 (upd (σ6 19) (v1 : Int32).toNatClampNeg r3)) fun σ8 =>
        lq (v1 + 1) fun y9 =>
        lq (v2 + 4) fun y10 =>
        kL_Bal_raiseRow_4 n σ8 y9 y10)
noncomputable def kM_Bal_raiseRow (σ : St) : Option (St) :=
  kL_Bal_raiseRow_4 FU σ 0 0
noncomputable def kJ_Bal_build_88 (σ : St) : Option (St) :=
  bv (kM_Bal_hang σ 0 0 (σ 34 0)) fun σ2 =>
    some σ2
noncomputable def kL_Bal_build_63 : Nat → St → Int32 → Option (St)
  | 0, _, _ => none
  | n + 1, σ, v3 => if 200 ≤ v3 then
        kJ_Bal_build_88 σ
      else
        if (σ 34 0) ≤ 4 then
          kJ_Bal_build_88 σ
        else
          bv (kM_Bal_raiseRow σ) fun σ4 =>
          lq (v3 + 1) fun y5 =>
          kL_Bal_build_63 n σ4 y5
noncomputable def kJ_Bal_build_54 (σ : St) : Option (St) :=
  bv (kM_Items_loosenAll σ) fun σ2 =>
    kL_Bal_build_63 FU σ2 0
noncomputable def kL_Bal_build_18 : Nat → St → Int32 → Option (St)
  | 0, _, _ => none
  | n + 1, σ, v3 => if (σ 34 0) ≤ v3 then
        kJ_Bal_build_54 σ
      else
        gd (inB v3 200) (
        gd (inB v3 200) (
        lq (sk σ 19 (upd (σ 19) (v3 : Int32).toNatClampNeg ((σ 9 v3.toNatClampNeg)))) fun σ4 =>
        gd (inB v3 200) (
        gd (inB v3 200) (
        bv (kM_Items_ownValuesOf σ4 (σ4 9 v3.toNatClampNeg) (σ4 9 v3.toNatClampNeg)) fun σ8 =>
        lq (v3 + 1) fun y9 =>
        kL_Bal_build_18 n σ8 y9))))
noncomputable def kM_Bal_build (σ : St) (x2 : Int32) : Option (St) :=
  lq (sk σ 34 (fun _ => (if (if 200 < 200 then 200 else 200) < x2 then (if 200 < 200 then 200 else 200) else x2))) fun σ1 =>
    kL_Bal_build_18 FU σ1 0
noncomputable def kM_PT_balance (σ : St) : Option (Int32 × St) :=
  bd (kM_Order_size σ) fun r2 σ3 =>
    if r2 = 0 then
      some ((-3), σ3)
    else
      br (kM_Bal_nodesFor σ3 r2) fun r6 =>
      br (kM_Items_size σ3) fun r8 =>
      if (r8 + r6) ≤ 200 then
        bv (kM_Order_takenPages σ3) fun σ11 =>
        bv (kM_Bal_build σ11 r2) fun σ13 =>
        some (r6, σ13)
      else
        some ((-4), σ3)
noncomputable def kM_PT_count (σ : St) (x1 : Int32) : Option (Int32) :=
  if x1 = 0 then
      br (kM_Items_size σ) fun r3 =>
      some r3
    else if x1 = 1 then
      br (kM_Labels_size σ) fun r6 =>
      some r6
    else if x1 = 2 then
      br (kM_Names_size σ) fun r9 =>
      some r9
    else some (-2)
