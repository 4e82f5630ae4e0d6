/-! The reference: readers and writers of its fields. Printed by a program of ours. -/
abbrev ZNS : Type := ((Nat → Int32) × (Nat → Int32) × Int32 × Int32 × Int32) × ((Nat → Int32) × (Nat → Int32) × (Nat → Int32) × (Nat → Int32) × (Nat → Int32)) × ((Nat → Int32) × (Nat → Int32) × (Nat → Int32) × (Nat → Int32) × (Nat → Int32)) × ((Nat → Int32) × Int32 × Int32 × Int32 × Int32) × (Int32 × Int32 × Int32 × Int32 × Int32) × (Int32 × Int32 × (Nat → Int32) × (Nat → Int32) × Int32)
abbrev mr_W (cA cZ : ClassId) (ad : Nat → Nat) (S : ZNS) : va_W := [(ad 0, .inr (4, [.int S.1.2.2.2.1, .ref (ad 1), .ref (ad 2), .int S.1.2.2.1, .ref (ad 3), .ref (ad 4), .ref (ad 5), .int S.1.2.2.2.2, .ref (ad 6), .ref (ad 7), .ref (ad 8), .ref (ad 9), .ref (ad 10), .ref (ad 11), .ref (ad 12), .int S.2.2.2.2.2.2.2.2.2, .ref (ad 13), .ref (ad 14), .ref (ad 15), .int S.2.2.2.1.2.1, .int S.2.2.2.1.2.2.1, .int S.2.2.2.1.2.2.2.1, .int S.2.2.2.1.2.2.2.2, .int S.2.2.2.2.1.1, .int S.2.2.2.2.1.2.1, .int S.2.2.2.2.1.2.2.1, .int S.2.2.2.2.1.2.2.2.1, .int S.2.2.2.2.1.2.2.2.2, .int S.2.2.2.2.2.1, .int S.2.2.2.2.2.2.1])), (ad 1, .inl (cA, 200, .inl S.1.1)), (ad 2, .inl (cA, 200, .inl S.1.2.1)), (ad 3, .inl (cA, 200, .inl S.2.1.1)), (ad 4, .inl (cA, 200, .inl S.2.1.2.1)), (ad 5, .inl (cA, 600, .inl S.2.1.2.2.1)), (ad 6, .inl (cA, 700, .inl S.2.1.2.2.2.1)), (ad 7, .inl (cA, 700, .inl S.2.1.2.2.2.2)), (ad 8, .inl (cA, 256, .inl S.2.2.1.1)), (ad 9, .inl (cA, 256, .inl S.2.2.1.2.1)), (ad 10, .inl (cA, 256, .inl S.2.2.1.2.2.1)), (ad 11, .inl (cZ, 256, .inl S.2.2.2.2.2.2.2.1)), (ad 12, .inl (cA, 256, .inl S.2.2.2.2.2.2.2.2.1)), (ad 13, .inl (cA, 200, .inl S.2.2.1.2.2.2.1)), (ad 14, .inl (cA, 200, .inl S.2.2.1.2.2.2.2)), (ad 15, .inl (cA, 200, .inl S.2.2.2.1.1))]
abbrev r_so (S : ZNS) : Nat → Int32 := S.1.1
abbrev r_xs (S : ZNS) : Nat → Int32 := S.1.2.1
abbrev r_to (S : ZNS) : Int32 := S.1.2.2.1
abbrev r_th (S : ZNS) : Int32 := S.1.2.2.2.1
abbrev r_si (S : ZNS) : Int32 := S.1.2.2.2.2
abbrev r_sr (S : ZNS) : Nat → Int32 := S.2.1.1
abbrev r_nu (S : ZNS) : Nat → Int32 := S.2.1.2.1
abbrev r_ch (S : ZNS) : Nat → Int32 := S.2.1.2.2.1
abbrev r_ow (S : ZNS) : Nat → Int32 := S.2.1.2.2.2.1
abbrev r_ar (S : ZNS) : Nat → Int32 := S.2.1.2.2.2.2
abbrev r_is (S : ZNS) : Nat → Int32 := S.2.2.1.1
abbrev r_on (S : ZNS) : Nat → Int32 := S.2.2.1.2.1
abbrev r_tw (S : ZNS) : Nat → Int32 := S.2.2.1.2.2.1
abbrev r_wh (S : ZNS) : Nat → Int32 := S.2.2.1.2.2.2.1
abbrev r_fi (S : ZNS) : Nat → Int32 := S.2.2.1.2.2.2.2
abbrev r_se (S : ZNS) : Nat → Int32 := S.2.2.2.1.1
abbrev r_fr (S : ZNS) : Int32 := S.2.2.2.1.2.1
abbrev r_mo (S : ZNS) : Int32 := S.2.2.2.1.2.2.1
abbrev r_ss (S : ZNS) : Int32 := S.2.2.2.1.2.2.2.1
abbrev r_sp (S : ZNS) : Int32 := S.2.2.2.1.2.2.2.2
abbrev r_fo (S : ZNS) : Int32 := S.2.2.2.2.1.1
abbrev r_ba (S : ZNS) : Int32 := S.2.2.2.2.1.2.1
abbrev r_no (S : ZNS) : Int32 := S.2.2.2.2.1.2.2.1
abbrev r_en (S : ZNS) : Int32 := S.2.2.2.2.1.2.2.2.1
abbrev r_vs (S : ZNS) : Int32 := S.2.2.2.2.1.2.2.2.2
abbrev r_vo (S : ZNS) : Int32 := S.2.2.2.2.2.1
abbrev r_vt (S : ZNS) : Int32 := S.2.2.2.2.2.2.1
abbrev r_re (S : ZNS) : Nat → Int32 := S.2.2.2.2.2.2.2.1
abbrev r_td (S : ZNS) : Nat → Int32 := S.2.2.2.2.2.2.2.2.1
abbrev r_le (S : ZNS) : Int32 := S.2.2.2.2.2.2.2.2.2
def s_so (S : ZNS) (v : Nat → Int32) : ZNS := ((v, S.1.2.1, S.1.2.2.1, S.1.2.2.2.1, S.1.2.2.2.2), S.2.1, S.2.2.1, S.2.2.2.1, S.2.2.2.2.1, S.2.2.2.2.2)
def s_xs (S : ZNS) (v : Nat → Int32) : ZNS := ((S.1.1, v, S.1.2.2.1, S.1.2.2.2.1, S.1.2.2.2.2), S.2.1, S.2.2.1, S.2.2.2.1, S.2.2.2.2.1, S.2.2.2.2.2)
def s_to (S : ZNS) (v : Int32) : ZNS := ((S.1.1, S.1.2.1, v, S.1.2.2.2.1, S.1.2.2.2.2), S.2.1, S.2.2.1, S.2.2.2.1, S.2.2.2.2.1, S.2.2.2.2.2)
def s_th (S : ZNS) (v : Int32) : ZNS := ((S.1.1, S.1.2.1, S.1.2.2.1, v, S.1.2.2.2.2), S.2.1, S.2.2.1, S.2.2.2.1, S.2.2.2.2.1, S.2.2.2.2.2)
def s_si (S : ZNS) (v : Int32) : ZNS := ((S.1.1, S.1.2.1, S.1.2.2.1, S.1.2.2.2.1, v), S.2.1, S.2.2.1, S.2.2.2.1, S.2.2.2.2.1, S.2.2.2.2.2)
def s_sr (S : ZNS) (v : Nat → Int32) : ZNS := (S.1, (v, S.2.1.2.1, S.2.1.2.2.1, S.2.1.2.2.2.1, S.2.1.2.2.2.2), S.2.2.1, S.2.2.2.1, S.2.2.2.2.1, S.2.2.2.2.2)
def s_nu (S : ZNS) (v : Nat → Int32) : ZNS := (S.1, (S.2.1.1, v, S.2.1.2.2.1, S.2.1.2.2.2.1, S.2.1.2.2.2.2), S.2.2.1, S.2.2.2.1, S.2.2.2.2.1, S.2.2.2.2.2)
def s_ch (S : ZNS) (v : Nat → Int32) : ZNS := (S.1, (S.2.1.1, S.2.1.2.1, v, S.2.1.2.2.2.1, S.2.1.2.2.2.2), S.2.2.1, S.2.2.2.1, S.2.2.2.2.1, S.2.2.2.2.2)
def s_ow (S : ZNS) (v : Nat → Int32) : ZNS := (S.1, (S.2.1.1, S.2.1.2.1, S.2.1.2.2.1, v, S.2.1.2.2.2.2), S.2.2.1, S.2.2.2.1, S.2.2.2.2.1, S.2.2.2.2.2)
def s_ar (S : ZNS) (v : Nat → Int32) : ZNS := (S.1, (S.2.1.1, S.2.1.2.1, S.2.1.2.2.1, S.2.1.2.2.2.1, v), S.2.2.1, S.2.2.2.1, S.2.2.2.2.1, S.2.2.2.2.2)
def s_is (S : ZNS) (v : Nat → Int32) : ZNS := (S.1, S.2.1, (v, S.2.2.1.2.1, S.2.2.1.2.2.1, S.2.2.1.2.2.2.1, S.2.2.1.2.2.2.2), S.2.2.2.1, S.2.2.2.2.1, S.2.2.2.2.2)
def s_on (S : ZNS) (v : Nat → Int32) : ZNS := (S.1, S.2.1, (S.2.2.1.1, v, S.2.2.1.2.2.1, S.2.2.1.2.2.2.1, S.2.2.1.2.2.2.2), S.2.2.2.1, S.2.2.2.2.1, S.2.2.2.2.2)
def s_tw (S : ZNS) (v : Nat → Int32) : ZNS := (S.1, S.2.1, (S.2.2.1.1, S.2.2.1.2.1, v, S.2.2.1.2.2.2.1, S.2.2.1.2.2.2.2), S.2.2.2.1, S.2.2.2.2.1, S.2.2.2.2.2)
def s_wh (S : ZNS) (v : Nat → Int32) : ZNS := (S.1, S.2.1, (S.2.2.1.1, S.2.2.1.2.1, S.2.2.1.2.2.1, v, S.2.2.1.2.2.2.2), S.2.2.2.1, S.2.2.2.2.1, S.2.2.2.2.2)
def s_fi (S : ZNS) (v : Nat → Int32) : ZNS := (S.1, S.2.1, (S.2.2.1.1, S.2.2.1.2.1, S.2.2.1.2.2.1, S.2.2.1.2.2.2.1, v), S.2.2.2.1, S.2.2.2.2.1, S.2.2.2.2.2)
def s_se (S : ZNS) (v : Nat → Int32) : ZNS := (S.1, S.2.1, S.2.2.1, (v, S.2.2.2.1.2.1, S.2.2.2.1.2.2.1, S.2.2.2.1.2.2.2.1, S.2.2.2.1.2.2.2.2), S.2.2.2.2.1, S.2.2.2.2.2)
def s_fr (S : ZNS) (v : Int32) : ZNS := (S.1, S.2.1, S.2.2.1, (S.2.2.2.1.1, v, S.2.2.2.1.2.2.1, S.2.2.2.1.2.2.2.1, S.2.2.2.1.2.2.2.2), S.2.2.2.2.1, S.2.2.2.2.2)
def s_mo (S : ZNS) (v : Int32) : ZNS := (S.1, S.2.1, S.2.2.1, (S.2.2.2.1.1, S.2.2.2.1.2.1, v, S.2.2.2.1.2.2.2.1, S.2.2.2.1.2.2.2.2), S.2.2.2.2.1, S.2.2.2.2.2)
def s_ss (S : ZNS) (v : Int32) : ZNS := (S.1, S.2.1, S.2.2.1, (S.2.2.2.1.1, S.2.2.2.1.2.1, S.2.2.2.1.2.2.1, v, S.2.2.2.1.2.2.2.2), S.2.2.2.2.1, S.2.2.2.2.2)
def s_sp (S : ZNS) (v : Int32) : ZNS := (S.1, S.2.1, S.2.2.1, (S.2.2.2.1.1, S.2.2.2.1.2.1, S.2.2.2.1.2.2.1, S.2.2.2.1.2.2.2.1, v), S.2.2.2.2.1, S.2.2.2.2.2)
def s_fo (S : ZNS) (v : Int32) : ZNS := (S.1, S.2.1, S.2.2.1, S.2.2.2.1, (v, S.2.2.2.2.1.2.1, S.2.2.2.2.1.2.2.1, S.2.2.2.2.1.2.2.2.1, S.2.2.2.2.1.2.2.2.2), S.2.2.2.2.2)
def s_ba (S : ZNS) (v : Int32) : ZNS := (S.1, S.2.1, S.2.2.1, S.2.2.2.1, (S.2.2.2.2.1.1, v, S.2.2.2.2.1.2.2.1, S.2.2.2.2.1.2.2.2.1, S.2.2.2.2.1.2.2.2.2), S.2.2.2.2.2)
def s_no (S : ZNS) (v : Int32) : ZNS := (S.1, S.2.1, S.2.2.1, S.2.2.2.1, (S.2.2.2.2.1.1, S.2.2.2.2.1.2.1, v, S.2.2.2.2.1.2.2.2.1, S.2.2.2.2.1.2.2.2.2), S.2.2.2.2.2)
def s_en (S : ZNS) (v : Int32) : ZNS := (S.1, S.2.1, S.2.2.1, S.2.2.2.1, (S.2.2.2.2.1.1, S.2.2.2.2.1.2.1, S.2.2.2.2.1.2.2.1, v, S.2.2.2.2.1.2.2.2.2), S.2.2.2.2.2)
def s_vs (S : ZNS) (v : Int32) : ZNS := (S.1, S.2.1, S.2.2.1, S.2.2.2.1, (S.2.2.2.2.1.1, S.2.2.2.2.1.2.1, S.2.2.2.2.1.2.2.1, S.2.2.2.2.1.2.2.2.1, v), S.2.2.2.2.2)
def s_vo (S : ZNS) (v : Int32) : ZNS := (S.1, S.2.1, S.2.2.1, S.2.2.2.1, S.2.2.2.2.1, (v, S.2.2.2.2.2.2.1, S.2.2.2.2.2.2.2.1, S.2.2.2.2.2.2.2.2.1, S.2.2.2.2.2.2.2.2.2))
def s_vt (S : ZNS) (v : Int32) : ZNS := (S.1, S.2.1, S.2.2.1, S.2.2.2.1, S.2.2.2.2.1, (S.2.2.2.2.2.1, v, S.2.2.2.2.2.2.2.1, S.2.2.2.2.2.2.2.2.1, S.2.2.2.2.2.2.2.2.2))
def s_re (S : ZNS) (v : Nat → Int32) : ZNS := (S.1, S.2.1, S.2.2.1, S.2.2.2.1, S.2.2.2.2.1, (S.2.2.2.2.2.1, S.2.2.2.2.2.2.1, v, S.2.2.2.2.2.2.2.2.1, S.2.2.2.2.2.2.2.2.2))
def s_td (S : ZNS) (v : Nat → Int32) : ZNS := (S.1, S.2.1, S.2.2.1, S.2.2.2.1, S.2.2.2.2.1, (S.2.2.2.2.2.1, S.2.2.2.2.2.2.1, S.2.2.2.2.2.2.2.1, v, S.2.2.2.2.2.2.2.2.2))
def s_le (S : ZNS) (v : Int32) : ZNS := (S.1, S.2.1, S.2.2.1, S.2.2.2.1, S.2.2.2.2.1, (S.2.2.2.2.2.1, S.2.2.2.2.2.2.1, S.2.2.2.2.2.2.2.1, S.2.2.2.2.2.2.2.2.1, v))
/-- all but the marks and the row of met cells -/
abbrev ZCT : Type := ((Nat → Int32) × (Nat → Int32) × Int32 × Int32 × Int32) × ((Nat → Int32) × (Nat → Int32) × (Nat → Int32) × (Nat → Int32) × (Nat → Int32)) × ((Nat → Int32) × (Nat → Int32) × (Nat → Int32) × (Nat → Int32) × (Nat → Int32)) × ((Nat → Int32) × Int32 × Int32 × Int32 × Int32) × (Int32 × Int32 × Int32 × Int32 × Int32) × Int32 × Int32
def md_core (S : ZNS) : ZCT := (S.1, S.2.1, S.2.2.1, S.2.2.2.1, S.2.2.2.2.1, r_vo S, r_vt S)
def md_eq (Z S : ZNS) : Prop := md_core Z = md_core S
theorem me_so {Z S : ZNS} (h : md_eq Z S) : r_so Z = r_so S := congrArg (fun t : ZCT => t.1.1) h
theorem me_xs {Z S : ZNS} (h : md_eq Z S) : r_xs Z = r_xs S := congrArg (fun t : ZCT => t.1.2.1) h
theorem me_to {Z S : ZNS} (h : md_eq Z S) : r_to Z = r_to S := congrArg (fun t : ZCT => t.1.2.2.1) h
theorem me_th {Z S : ZNS} (h : md_eq Z S) : r_th Z = r_th S := congrArg (fun t : ZCT => t.1.2.2.2.1) h
theorem me_si {Z S : ZNS} (h : md_eq Z S) : r_si Z = r_si S := congrArg (fun t : ZCT => t.1.2.2.2.2) h
theorem me_sr {Z S : ZNS} (h : md_eq Z S) : r_sr Z = r_sr S := congrArg (fun t : ZCT => t.2.1.1) h
theorem me_nu {Z S : ZNS} (h : md_eq Z S) : r_nu Z = r_nu S := congrArg (fun t : ZCT => t.2.1.2.1) h
theorem me_ch {Z S : ZNS} (h : md_eq Z S) : r_ch Z = r_ch S := congrArg (fun t : ZCT => t.2.1.2.2.1) h
theorem me_ow {Z S : ZNS} (h : md_eq Z S) : r_ow Z = r_ow S := congrArg (fun t : ZCT => t.2.1.2.2.2.1) h
theorem me_ar {Z S : ZNS} (h : md_eq Z S) : r_ar Z = r_ar S := congrArg (fun t : ZCT => t.2.1.2.2.2.2) h
theorem me_is {Z S : ZNS} (h : md_eq Z S) : r_is Z = r_is S := congrArg (fun t : ZCT => t.2.2.1.1) h
theorem me_on {Z S : ZNS} (h : md_eq Z S) : r_on Z = r_on S := congrArg (fun t : ZCT => t.2.2.1.2.1) h
theorem me_tw {Z S : ZNS} (h : md_eq Z S) : r_tw Z = r_tw S := congrArg (fun t : ZCT => t.2.2.1.2.2.1) h
theorem me_wh {Z S : ZNS} (h : md_eq Z S) : r_wh Z = r_wh S := congrArg (fun t : ZCT => t.2.2.1.2.2.2.1) h
theorem me_fi {Z S : ZNS} (h : md_eq Z S) : r_fi Z = r_fi S := congrArg (fun t : ZCT => t.2.2.1.2.2.2.2) h
theorem me_se {Z S : ZNS} (h : md_eq Z S) : r_se Z = r_se S := congrArg (fun t : ZCT => t.2.2.2.1.1) h
theorem me_fr {Z S : ZNS} (h : md_eq Z S) : r_fr Z = r_fr S := congrArg (fun t : ZCT => t.2.2.2.1.2.1) h
theorem me_mo {Z S : ZNS} (h : md_eq Z S) : r_mo Z = r_mo S := congrArg (fun t : ZCT => t.2.2.2.1.2.2.1) h
theorem me_ss {Z S : ZNS} (h : md_eq Z S) : r_ss Z = r_ss S := congrArg (fun t : ZCT => t.2.2.2.1.2.2.2.1) h
theorem me_sp {Z S : ZNS} (h : md_eq Z S) : r_sp Z = r_sp S := congrArg (fun t : ZCT => t.2.2.2.1.2.2.2.2) h
theorem me_fo {Z S : ZNS} (h : md_eq Z S) : r_fo Z = r_fo S := congrArg (fun t : ZCT => t.2.2.2.2.1.1) h
theorem me_ba {Z S : ZNS} (h : md_eq Z S) : r_ba Z = r_ba S := congrArg (fun t : ZCT => t.2.2.2.2.1.2.1) h
theorem me_no {Z S : ZNS} (h : md_eq Z S) : r_no Z = r_no S := congrArg (fun t : ZCT => t.2.2.2.2.1.2.2.1) h
theorem me_en {Z S : ZNS} (h : md_eq Z S) : r_en Z = r_en S := congrArg (fun t : ZCT => t.2.2.2.2.1.2.2.2.1) h
theorem me_vs {Z S : ZNS} (h : md_eq Z S) : r_vs Z = r_vs S := congrArg (fun t : ZCT => t.2.2.2.2.1.2.2.2.2) h
theorem me_vo {Z S : ZNS} (h : md_eq Z S) : r_vo Z = r_vo S := congrArg (fun t : ZCT => t.2.2.2.2.2.1) h
theorem me_vt {Z S : ZNS} (h : md_eq Z S) : r_vt Z = r_vt S := congrArg (fun t : ZCT => t.2.2.2.2.2.2) h
