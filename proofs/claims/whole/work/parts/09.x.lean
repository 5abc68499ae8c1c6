section XDEFS3
def x_X2_hasLoan (S : vS) (g k : Nat) : Int32 := if (S (gM g k) 7) ≤ 0 then 0 else 1
def x_X2_part (S : vS) (g k : Nat) : Int32 := if (S (gM g k) 7) = 1 then (S (gM g k) 6) else (S (gM g k) 4)
def x_X2_due (S : vS) (g k : Nat) : Int32 := nm (x_X2_hasLoan S g k) (fun r_1 => if r_1 = 0 then 0 else nm (x_X2_part S g k) (fun r_8 => (r_8 + (S (gM g k) 5))))
def x_X2_debtToMembers_L13 : Nat → vS → Nat → Nat → Nat → Int32 → Int32
  | 0, S, _, _, _, _ => 0
  | n + 1, S, g, k, n4, v1 => if 8 ≤ (nI n4) then v1 else nm ((S (gD g k) n4)) (fun x_23 => nm ((v1 + x_23)) (fun x_29 => x_X2_debtToMembers_L13 n S g k ((n4 + 1)) (x_29)))
def x_X2_debtToMembers (S : vS) (g k : Nat) : Int32 := x_X2_debtToMembers_L13 (9) S g k (0) (0)
def x_X2_hasDebts (S : vS) (g k : Nat) : Int32 := if 0 < (S (gM g k) 11) then 1 else if 0 < (S (gM g k) 12) then 1 else nm (x_X2_debtToMembers S g k) (fun r_15 => if r_15 ≤ 0 then 0 else 1)
def x_X2_mayBorrow (S : vS) (g k : Nat) (p1 : Int32) : Int32 := nm (x_X2_hasLoan S g k) (fun r_1 => if r_1 = 0 then nm (x_X2_hasDebts S g k) (fun r_8 => if r_8 = 0 then if (S (gM g k) 2) < p1 then 0 else 1 else 0) else 0)
def x_X2_borrow (S : vS) (g k : Nat) (p1 : Int32) (p2 : Int32) (p3 : Int32) : vS := if 1 ≤ p2 then nm (st S (gM g k) 3 p1) (fun S_8 => nm (st S_8 (gM g k) 4 (p1 / p2)) (fun S_15 => nm (st S_15 (gM g k) 5 p3) (fun S_20 => nm (st S_20 (gM g k) 6 p1) (fun S_25 => nm (st S_25 (gM g k) 7 p2) (fun S_30 => S_30))))) else S
def x_X2_lessenLoan (S : vS) (g k : Nat) : vS := nm (x_X2_part S g k) (fun r_6 => nm (st S (gM g k) 6 ((S (gM g k) 6) - r_6)) (fun S_10 => nm (st S_10 (gM g k) 7 ((S_10 (gM g k) 7) - 1)) (fun S_20 => if (S_20 (gM g k) 7) = 0 then nm (st S_20 (gM g k) 3 0) (fun S_32 => nm (st S_32 (gM g k) 4 0) (fun S_37 => nm (st S_37 (gM g k) 5 0) (fun S_42 => S_42))) else S_20)))
def x_X2_nextLimit (S : vS) (g k : Nat) : Int32 := if (S (gM g k) 9) = 0 then (if 2000 < ((S (gM g k) 2) + ((S (gM g k) 2) / 2)) then 2000 else ((S (gM g k) 2) + ((S (gM g k) 2) / 2))) else if (S (gM g k) 9) < 3 then (S (gM g k) 2) else (if ((S (gM g k) 2) / 2) < 20 then 20 else ((S (gM g k) 2) / 2))
def x_X2_property (S : vS) (g k : Nat) (p1 : Int32) : Int32 := if p1 = 0 then (S (gM g k) 2) else (if p1 = 1 then (S (gM g k) 3) else (if p1 = 2 then (S (gM g k) 6) else (if p1 = 3 then (S (gM g k) 7) else (if p1 = 4 then nm (x_X2_due S g k) (fun r_89 => r_89) else (if p1 = 5 then if (bz (S (gM g k) 8)) = 0 then 0 else 1 else (if p1 = 6 then (S (gM g k) 9) else (if p1 = 7 then (S (gM g k) 10) else (if p1 = 8 then (S (gM g k) 11) else (if p1 = 9 then (S (gM g k) 12) else (if p1 = 10 then nm (x_X2_debtToMembers S g k) (fun r_127 => r_127) else (if p1 = 11 then (S (gM g k) 14) else (if p1 = 12 then (S (gM g k) 13) else ((S (gM g k) 14))))))))))))))
def x_X2_copyFrom (S : vS) (g k g2 k2 : Nat) : vS := nm (st S (gM g k) 1 (bz (S (gM g2 k2) 1))) (fun S_5 => nm (st S_5 (gM g k) 2 (S_5 (gM g2 k2) 2)) (fun S_13 => nm (st S_13 (gM g k) 3 (S_13 (gM g2 k2) 3)) (fun S_21 => nm (st S_21 (gM g k) 4 (S_21 (gM g2 k2) 4)) (fun S_29 => nm (st S_29 (gM g k) 5 (S_29 (gM g2 k2) 5)) (fun S_37 => nm (st S_37 (gM g k) 6 (S_37 (gM g2 k2) 6)) (fun S_45 => nm (st S_45 (gM g k) 7 (S_45 (gM g2 k2) 7)) (fun S_53 => nm (st S_53 (gM g k) 8 (bz (S_53 (gM g2 k2) 8))) (fun S_61 => nm (st S_61 (gM g k) 9 (S_61 (gM g2 k2) 9)) (fun S_69 => nm (st S_69 (gM g k) 10 (S_69 (gM g2 k2) 10)) (fun S_77 => nm (st S_77 (gM g k) 11 (S_77 (gM g2 k2) 11)) (fun S_85 => nm (st S_85 (gM g k) 12 (S_85 (gM g2 k2) 12)) (fun S_93 => nm (st S_93 (gM g k) 13 (S_93 (gM g2 k2) 13)) (fun S_101 => nm (st S_101 (gM g k) 14 (S_101 (gM g2 k2) 14)) (fun S_109 => nm (cpy S_109 (gD g2 k2) (gD g k) 8) (fun S_124 => S_124)))))))))))))))
def x_X0_copyFrom_L2 : Nat → vS → Nat → Nat → Nat → vS
  | 0, S, _, _, _ => S
  | n + 1, S, g, g2, n2 => if 8 ≤ (nI n2) then nm (cpy S (gS g2) (gS g) 4) (fun S_40 => nm (st S_40 (gG g) 2 (S_40 (gG g2) 2)) (fun S_48 => nm (st S_48 (gG g) 3 (S_48 (gG g2) 3)) (fun S_56 => nm (st S_56 (gG g) 4 (S_56 (gG g2) 4)) (fun S_64 => nm (st S_64 (gG g) 5 (S_64 (gG g2) 5)) (fun S_72 => nm (st S_72 (gG g) 6 (S_72 (gG g2) 6)) (fun S_80 => nm (st S_80 (gG g) 7 (S_80 (gG g2) 7)) (fun S_88 => nm (st S_88 (gG g) 8 (S_88 (gG g2) 8)) (fun S_96 => nm (st S_96 (gG g) 9 (S_96 (gG g2) 9)) (fun S_104 => nm (st S_104 (gG g) 10 (S_104 (gG g2) 10)) (fun S_112 => S_112)))))))))) else nm (x_X2_copyFrom S g n2 g2 n2) (fun S_20 => x_X0_copyFrom_L2 n S_20 g g2 ((n2 + 1)))
def x_X0_copyFrom (S : vS) (g g2 : Nat) : vS := x_X0_copyFrom_L2 (9) S g g2 (0)
def x_X0_find (S : vS) (g : Nat) (p1 : Int32) : Option Nat := if p1 < 0 then none else if 8 ≤ p1 then none else if (bz (S (gM g p1.toNatClampNeg) 1)) = 0 then none else some p1.toNatClampNeg
def x_X0_memberCount_L13 : Nat → vS → Nat → Nat → Int32 → Int32
  | 0, S, _, _, _ => 0
  | n + 1, S, g, n4, v1 => if 8 ≤ (nI n4) then v1 else if (bz (S (gM g n4) 1)) = 0 then nm ((v1 + 0)) (fun x_40 => x_X0_memberCount_L13 n S g ((n4 + 1)) (x_40)) else nm ((v1 + 1)) (fun x_40 => x_X0_memberCount_L13 n S g ((n4 + 1)) (x_40))
def x_X0_memberCount (S : vS) (g : Nat) : Int32 := x_X0_memberCount_L13 (9) S g (0) (0)
def x_X0_awayMembers_L13 : Nat → vS → Nat → Nat → Int32 → Int32
  | 0, S, _, _, _ => 0
  | n + 1, S, g, n4, v1 => if 8 ≤ (nI n4) then v1 else if (bz (S (gM g n4) 1)) = 0 then nm ((v1 + 0)) (fun x_48 => x_X0_awayMembers_L13 n S g ((n4 + 1)) (x_48)) else if (bz (S (gM g n4) 8)) = 0 then nm ((v1 + 0)) (fun x_48 => x_X0_awayMembers_L13 n S g ((n4 + 1)) (x_48)) else nm ((v1 + 1)) (fun x_48 => x_X0_awayMembers_L13 n S g ((n4 + 1)) (x_48))
def x_X0_awayMembers (S : vS) (g : Nat) : Int32 := x_X0_awayMembers_L13 (9) S g (0) (0)
def x_X0_admit (S : vS) (g : Nat) : (Int32 × vS) := nm ((S (gG g) 2)) (fun x_4 => if x_4 < 0 then ((-1), S) else if x_4 < 8 then nm (x_X0_memberCount S g) (fun r_18 => if r_18 = 0 then nm (st S (gG g) 5 x_4) (fun S_26 => nm (st S_26 (gM g x_4.toNatClampNeg) 1 1) (fun S_36 => nm (st S_36 (gM g x_4.toNatClampNeg) 2 200) (fun S_48 => nm (st S_48 (gG g) 2 ((S_48 (gG g) 2) + 1)) (fun S_58 => (x_4, S_58))))) else nm (st S (gM g x_4.toNatClampNeg) 1 1) (fun S_36 => nm (st S_36 (gM g x_4.toNatClampNeg) 2 200) (fun S_48 => nm (st S_48 (gG g) 2 ((S_48 (gG g) 2) + 1)) (fun S_58 => (x_4, S_58))))) else ((-1), S))
def x_X0_owedTo_L14 : Nat → vS → Nat → Nat → Nat → Int32 → Int32
  | 0, S, _, _, _, _ => 0
  | n + 1, S, g, k, n5, v2 => if 8 ≤ (nI n5) then v2 else nm ((v2 + (S (gD g n5) k))) (fun x_39 => x_X0_owedTo_L14 n S g k ((n5 + 1)) (x_39))
def x_X0_owedTo (S : vS) (g k : Nat) : Int32 := x_X0_owedTo_L14 (9) S g k (0) (0)
def x_X0_mayGo (S : vS) (g k : Nat) : Int32 := nm (x_X2_hasLoan S g k) (fun r_1 => if r_1 = 0 then nm (x_X2_hasDebts S g k) (fun r_8 => if r_8 = 0 then nm (x_X0_owedTo S g k) (fun r_16 => if r_16 = 0 then if (S (gG g) 6) < (S (gM g k) 13) then 0 else 1 else 0) else 0) else 0)
def x_X0_nextChair_L2 : Nat → vS → Nat → Nat → Int32
  | 0, S, _, _ => 0
  | n + 1, S, g, n1 => if 8 < (nI n1) then (-1) else nm (x_J9_floorMod_7cf53 S ((S (gG g) 5) + (nI n1)) 8) (fun r_17 => oc (x_X0_find S g r_17) (x_X0_nextChair_L2 n S g ((n1 + 1))) (fun k_20 => nm (x_X2_hasDebts S g k_20) (fun r_29 => if r_29 = 0 then (nI k_20) else x_X0_nextChair_L2 n S g ((n1 + 1)))))
def x_X0_nextChair (S : vS) (g : Nat) : Int32 := x_X0_nextChair_L2 (9) S g (1)
def x_X0_dismiss (S : vS) (g k : Nat) : (Int32 × vS) := nm (st S (gG g) 6 ((S (gG g) 6) - (S (gM g k) 13))) (fun S_10 => nm (st S_10 (gM g k) 1 0) (fun S_15 => if (S_15 (gG g) 5) = (nI k) then nm (x_X0_nextChair S_15 g) (fun r_31 => nm (st S_15 (gG g) 5 r_31) (fun S_34 => ((S_34 (gM g k) 13), S_34))) else ((S_15 (gM g k) 13), S_15)))
def x_X0_grantLoan (S : vS) (g k : Nat) (p2 : Int32) (p3 : Int32) : vS := nm (x_X2_borrow S g k p2 p3 ((p2 * (S (gS g) 0)) / 1000)) (fun S_15 => nm (st S_15 (gG g) 7 ((S_15 (gG g) 7) + p2)) (fun S_25 => S_25))
def x_X0_takePayment_L77 : Nat → vS → Nat → Nat → Int32 → Nat → Int32 → (Int32 × vS)
  | 0, S, _, _, _, _, _ => (0, S)
  | n + 1, S, g, k, p2, n6, v4 => if 8 ≤ (nI n6) then ((p2 - v4), S) else nm ((if (S (gD g k) n6) < v4 then (S (gD g k) n6) else v4)) (fun x_96 => nm (st S (gD g k) n6 ((S (gD g k) n6) - x_96)) (fun S_109 => nm ((v4 - x_96)) (fun x_115 => x_X0_takePayment_L77 n S_109 g k p2 ((n6 + 1)) (x_115))))
def x_X0_takePayment (S : vS) (g k : Nat) (p2 : Int32) : (Int32 × vS) := nm ((if (S (gM g k) 11) < p2 then (S (gM g k) 11) else p2)) (fun x_8 => nm (st S (gM g k) 11 ((S (gM g k) 11) - x_8)) (fun S_16 => nm (st S_16 (gG g) 9 ((S_16 (gG g) 9) + x_8)) (fun S_26 => nm ((p2 - x_8)) (fun x_32 => nm ((if (S_26 (gM g k) 12) < x_32 then (S_26 (gM g k) 12) else x_32)) (fun x_43 => nm (st S_26 (gM g k) 12 ((S_26 (gM g k) 12) - x_43)) (fun S_53 => nm (st S_53 (gG g) 6 ((S_53 (gG g) 6) + x_43)) (fun S_64 => nm ((x_32 - x_43)) (fun x_72 => x_X0_takePayment_L77 (9) S_64 g k p2 (0) (x_72)))))))))
def x_X0_mayHelp (S : vS) (g k : Nat) (p2 : Int32) : Int32 := if (S (gG g) 5) = (-1) then 0 else if (S (gG g) 5) = (nI k) then 0 else if (S (gM g k) 12) = 0 then if (((S (gG g) 6) * (S (gS g) 3)) / 100) < p2 then 0 else 1 else 0
def x_X0_grantHelp (S : vS) (g k : Nat) (p2 : Int32) : vS := nm (st S (gG g) 6 ((S (gG g) 6) - p2)) (fun S_7 => nm (st S_7 (gM g k) 12 ((S_7 (gM g k) 12) + p2)) (fun S_17 => S_17))
def x_X0_bankDebts_L13 : Nat → vS → Nat → Nat → Int32 → Int32
  | 0, S, _, _, _ => 0
  | n + 1, S, g, n4, v1 => if 8 ≤ (nI n4) then v1 else nm ((v1 + (S (gM g n4) 11))) (fun x_32 => x_X0_bankDebts_L13 n S g ((n4 + 1)) (x_32))
def x_X0_bankDebts (S : vS) (g : Nat) : Int32 := x_X0_bankDebts_L13 (9) S g (0) (0)
def x_X0_mostLoanWeeks_L13 : Nat → vS → Nat → Nat → Int32 → Int32
  | 0, S, _, _, _ => 0
  | n + 1, S, g, n4, v1 => if 8 ≤ (nI n4) then v1 else nm ((if v1 < (S (gM g n4) 7) then (S (gM g n4) 7) else v1)) (fun x_34 => x_X0_mostLoanWeeks_L13 n S g ((n4 + 1)) (x_34))
def x_X0_mostLoanWeeks (S : vS) (g : Nat) : Int32 := x_X0_mostLoanWeeks_L13 (9) S g (0) (0)
def x_X0_mayBeginCycle (S : vS) (g : Nat) : Int32 := nm (x_X0_mostLoanWeeks S g) (fun r_1 => if r_1 = 0 then nm (x_X0_bankDebts S g) (fun r_8 => if r_8 = 0 then 1 else 0) else 0)
def x_X0_beginCycle_L10 : Nat → vS → Nat → Nat → vS
  | 0, S, _, _ => S
  | n + 1, S, g, n3 => if 8 ≤ (nI n3) then nm (st S (gG g) 4 ((S (gG g) 4) + 1)) (fun S_49 => S_49) else nm (x_X2_nextLimit S g n3) (fun r_24 => nm (st S (gM g n3) 2 r_24) (fun S_27 => nm (st S_27 (gM g n3) 9 0) (fun S_33 => x_X0_beginCycle_L10 n S_33 g ((n3 + 1)))))
def x_X0_beginCycle (S : vS) (g : Nat) : vS := x_X0_beginCycle_L10 (9) S g (0)
def x_X0_mayEndWeek (S : vS) (g : Nat) : Int32 := if 999 ≤ (S (gG g) 3) then 0 else 1
def x_X0_letBeAway_L2 : Nat → vS → Nat → Int32 → Nat → vS
  | 0, S, _, _, _ => S
  | n + 1, S, g, p1, n2 => if 8 ≤ (nI n2) then S else if ((p1 >>> ((nI n2) &&& 31)) &&& 1) = 1 then nm (st S (gM g n2) 8 1) (fun S_28 => x_X0_letBeAway_L2 n S_28 g p1 ((n2 + 1))) else nm (st S (gM g n2) 8 0) (fun S_28 => x_X0_letBeAway_L2 n S_28 g p1 ((n2 + 1)))
def x_X0_letBeAway (S : vS) (g : Nat) (p1 : Int32) : vS := x_X0_letBeAway_L2 (9) S g p1 (0)
def x_X0_saveMoney_L10 : Nat → vS → Nat → Nat → vS
  | 0, S, _, _ => S
  | n + 1, S, g, n3 => if 8 ≤ (nI n3) then S else if (bz (S (gM g n3) 1)) = 0 then x_X0_saveMoney_L10 n S g ((n3 + 1)) else if (bz (S (gM g n3) 8)) = 0 then nm (st S (gM g n3) 13 ((S (gM g n3) 13) + (S (gS g) 1))) (fun S_49 => nm (st S_49 (gG g) 6 ((S_49 (gG g) 6) + (S_49 (gS g) 1))) (fun S_64 => x_X0_saveMoney_L10 n S_64 g ((n3 + 1)))) else x_X0_saveMoney_L10 n S g ((n3 + 1))
def x_X0_saveMoney (S : vS) (g : Nat) : vS := x_X0_saveMoney_L10 (9) S g (0)
def x_X0_shareRest_L29 : Nat → vS → Nat → Nat → Int32 → Int32 → Nat → Int32 → Int32 → vS
  | 0, S, _, _, _, _, _, _, _ => S
  | n + 1, S, g, k, p2, p3, n8, v5, v4 => if 8 ≤ (nI n8) then nm (st S (gG g) 9 ((S (gG g) 9) + p2)) (fun S_118 => S_118) else if (bz (S (gM g n8) 1)) = 0 then x_X0_shareRest_L29 n S g k p2 p3 ((n8 + 1)) (v5) (v4) else if (bz (S (gM g n8) 8)) = 0 then if v5 ≤ 0 then nm (v5 + (-1)) (fun x_75 => nm (st S (gD g k) n8 ((S (gD g k) n8) + v4)) (fun S_92 => nm (st S_92 (gM g n8) 14 ((S_92 (gM g n8) 14) + v4)) (fun S_102 => x_X0_shareRest_L29 n S_102 g k p2 p3 ((n8 + 1)) (x_75) (v4)))) else nm ((v4 + 1)) (fun x_73 => nm (v5 + (-1)) (fun x_75 => nm (st S (gD g k) n8 ((S (gD g k) n8) + x_73)) (fun S_92 => nm (st S_92 (gM g n8) 14 ((S_92 (gM g n8) 14) + x_73)) (fun S_102 => x_X0_shareRest_L29 n S_102 g k p2 p3 ((n8 + 1)) (x_75) (v4))))) else x_X0_shareRest_L29 n S g k p2 p3 ((n8 + 1)) (v5) (v4)
def x_X0_shareRest (S : vS) (g k : Nat) (p2 : Int32) (p3 : Int32) : vS := if 0 < p3 then nm ((p2 / p3)) (fun x_8 => nm ((p2 - p2 / p3 * p3)) (fun x_13 => x_X0_shareRest_L29 (9) S g k p2 p3 (0) (x_13) (x_8))) else S
def x_X0_coverMissed (S : vS) (g k : Nat) (p2 : Int32) : vS := nm (st S (gM g k) 9 ((S (gM g k) 9) + 1)) (fun S_7 => nm (st S_7 (gM g k) 10 ((S_7 (gM g k) 10) + 1)) (fun S_17 => nm (st S_17 (gG g) 10 ((S_17 (gG g) 10) + 1)) (fun S_27 => nm ((if (S_27 (gG g) 6) < p2 then (S_27 (gG g) 6) else p2)) (fun x_38 => nm (st S_27 (gG g) 6 ((S_27 (gG g) 6) - x_38)) (fun S_46 => nm (st S_46 (gM g k) 12 ((S_46 (gM g k) 12) + x_38)) (fun S_56 => nm (st S_56 (gG g) 9 ((S_56 (gG g) 9) + x_38)) (fun S_66 => nm ((p2 - x_38)) (fun x_72 => nm (x_X0_memberCount S_66 g) (fun r_75 => nm (x_X0_awayMembers S_66 g) (fun r_79 => nm ((r_75 - r_79)) (fun x_83 => if x_83 ≤ 0 then nm (st S_66 (gM g k) 11 ((S_66 (gM g k) 11) + x_72)) (fun S_110 => S_110) else nm (x_X0_shareRest S_66 g k x_72 x_83) (fun S_96 => S_96))))))))))))
def x_X0_settleDue (S : vS) (g k : Nat) : vS := nm (x_X2_due S g k) (fun r_1 => nm (st S (gG g) 8 ((S (gG g) 8) + (S (gM g k) 5))) (fun S_15 => if (bz (S_15 (gM g k) 8)) = 0 then nm (st S_15 (gG g) 9 ((S_15 (gG g) 9) + r_1)) (fun S_41 => nm (x_X2_lessenLoan S_41 g k) (fun S_45 => S_45)) else nm (x_X0_coverMissed S_15 g k r_1) (fun S_28 => nm (x_X2_lessenLoan S_28 g k) (fun S_45 => S_45))))
def x_X0_endWeek_L10 : Nat → vS → Nat → Nat → vS
  | 0, S, _, _ => S
  | n + 1, S, g, n3 => if 8 ≤ (nI n3) then nm (x_X0_saveMoney S g) (fun S_49 => nm (st S_49 (gG g) 3 ((S_49 (gG g) 3) + 1)) (fun S_59 => if (S_59 (gS g) 2) ≤ 0 then nm (x_X0_letBeAway S_59 g 0) (fun S_95 => S_95) else if ((S_59 (gG g) 3) - (S_59 (gG g) 3) / (S_59 (gS g) 2) * (S_59 (gS g) 2)) = 0 then nm (x_X0_nextChair S_59 g) (fun r_87 => nm (st S_59 (gG g) 5 r_87) (fun S_90 => nm (x_X0_letBeAway S_90 g 0) (fun S_95 => S_95))) else nm (x_X0_letBeAway S_59 g 0) (fun S_95 => S_95))) else if (bz (S (gM g n3) 1)) = 0 then x_X0_endWeek_L10 n S g ((n3 + 1)) else nm (x_X2_hasLoan S g n3) (fun r_30 => if r_30 = 0 then x_X0_endWeek_L10 n S g ((n3 + 1)) else nm (x_X0_settleDue S g n3) (fun S_39 => x_X0_endWeek_L10 n S_39 g ((n3 + 1))))
def x_X0_endWeek (S : vS) (g : Nat) : vS := x_X0_endWeek_L10 (9) S g (0)
def x_X0_loansLeft_L13 : Nat → vS → Nat → Nat → Int32 → Int32
  | 0, S, _, _, _ => 0
  | n + 1, S, g, n4, v1 => if 8 ≤ (nI n4) then v1 else nm ((v1 + (S (gM g n4) 6))) (fun x_32 => x_X0_loansLeft_L13 n S g ((n4 + 1)) (x_32))
def x_X0_loansLeft (S : vS) (g : Nat) : Int32 := x_X0_loansLeft_L13 (9) S g (0) (0)
def x_X0_fundDebts_L13 : Nat → vS → Nat → Nat → Int32 → Int32
  | 0, S, _, _, _ => 0
  | n + 1, S, g, n4, v1 => if 8 ≤ (nI n4) then v1 else nm ((v1 + (S (gM g n4) 12))) (fun x_32 => x_X0_fundDebts_L13 n S g ((n4 + 1)) (x_32))
def x_X0_fundDebts (S : vS) (g : Nat) : Int32 := x_X0_fundDebts_L13 (9) S g (0) (0)
def x_X0_debtsAmongMembers_L13 : Nat → vS → Nat → Nat → Int32 → Int32
  | 0, S, _, _, _ => 0
  | n + 1, S, g, n4, v1 => if 8 ≤ (nI n4) then v1 else nm (x_X2_debtToMembers S g n4) (fun r_28 => nm ((v1 + r_28)) (fun x_32 => x_X0_debtsAmongMembers_L13 n S g ((n4 + 1)) (x_32)))
def x_X0_debtsAmongMembers (S : vS) (g : Nat) : Int32 := x_X0_debtsAmongMembers_L13 (9) S g (0) (0)
def x_X0_figure (S : vS) (g : Nat) (p1 : Int32) : Int32 := if p1 = 0 then (S (gG g) 3) else (if p1 = 1 then (S (gG g) 4) else (if p1 = 2 then (S (gG g) 5) else (if p1 = 3 then nm (x_X0_memberCount S g) (fun r_88 => r_88) else (if p1 = 4 then (S (gG g) 6) else (if p1 = 5 then nm (x_X0_loansLeft S g) (fun r_98 => r_98) else (if p1 = 6 then nm (x_X0_bankDebts S g) (fun r_103 => r_103) else (if p1 = 7 then nm (x_X0_fundDebts S g) (fun r_108 => r_108) else (if p1 = 8 then nm (x_X0_debtsAmongMembers S g) (fun r_113 => r_113) else (if p1 = 9 then (S (gG g) 7) else (if p1 = 10 then (S (gG g) 8) else (if p1 = 11 then (S (gG g) 9) else (if p1 = 12 then (((S (gG g) 7) + (S (gG g) 8)) - (S (gG g) 9)) else (if p1 = 13 then (S (gG g) 10) else (nm (x_X0_awayMembers S g) (fun r_153 => r_153)))))))))))))))
def x_X0_mostPaidForOthersSince_L4 : Nat → vS → Nat → Nat → Nat → Int32 → Int32
  | 0, S, _, _, _, _ => 0
  | n + 1, S, g, g2, n3, v2 => if 8 ≤ (nI n3) then v2 else nm ((if v2 < ((S (gM g n3) 14) - (S (gM g2 n3) 14)) then ((S (gM g n3) 14) - (S (gM g2 n3) 14)) else v2)) (fun x_33 => x_X0_mostPaidForOthersSince_L4 n S g g2 ((n3 + 1)) (x_33))
def x_X0_mostPaidForOthersSince (S : vS) (g g2 : Nat) : Int32 := x_X0_mostPaidForOthersSince_L4 (9) S g g2 (0) (0)
def x_X0_weeksOfFund_L28 : Nat → vS → Nat → Nat → Nat → Int32 → Int32 → Int32 → Int32
  | 0, S, _, _, _, _, _, _ => 0
  | n + 1, S, g, k, n5, v4, v3, v2 => if (S (gM g k) 7) ≤ (nI n5) then (-1) else if (nI n5) = ((S (gM g k) 7) - 1) then nm ((v3 + (S (gM g k) 5))) (fun x_65 => if x_65 ≤ v2 then nm ((v2 + (v4 - x_65))) (fun x_83 => nm ((v3 - v3)) (fun x_88 => x_X0_weeksOfFund_L28 n S g k ((n5 + 1)) (v4) (x_88) (x_83))) else (nI n5)) else nm ((S (gM g k) 4)) (fun x_56 => nm ((x_56 + (S (gM g k) 5))) (fun x_65 => if x_65 ≤ v2 then nm ((v2 + (v4 - x_65))) (fun x_83 => nm ((v3 - x_56)) (fun x_88 => x_X0_weeksOfFund_L28 n S g k ((n5 + 1)) (v4) (x_88) (x_83))) else (nI n5)))
def x_X0_weeksOfFund (S : vS) (g k : Nat) : Int32 := nm ((S (gG g) 6)) (fun x_4 => nm ((S (gM g k) 6)) (fun x_9 => nm (x_X0_memberCount S g) (fun r_11 => nm (((r_11 - 1) * (S (gS g) 1))) (fun x_23 => x_X0_weeksOfFund_L28 ((S (gM g k) 7).toNatClampNeg + 1) S g k (0) (x_23) (x_9) (x_4)))))
def x_X0_weakestNumber_L26 : Nat → vS → Nat → Nat → Int32 → Int32 → Int32
  | 0, S, _, _, _, _ => 0
  | n + 1, S, g, n5, v2, v1 => if 8 ≤ (nI n5) then v1 else nm (x_X2_due S g n5) (fun r_41 => nm ((r_41 - (S (gG g) 6))) (fun x_49 => if x_49 ≤ v2 then x_X0_weakestNumber_L26 n S g ((n5 + 1)) (v2) (v1) else x_X0_weakestNumber_L26 n S g ((n5 + 1)) (x_49) ((nI n5))))
def x_X0_weakestNumber (S : vS) (g : Nat) : Int32 := nm (x_X0_memberCount S g) (fun r_5 => if 2 ≤ r_5 then x_X0_weakestNumber_L26 (9) S g (0) (0) ((-1)) else (-1))
def x_X0_shareOfPaid (S : vS) (g : Nat) : UInt64 := nm (((S (gG g) 7) + (S (gG g) 8))) (fun x_9 => if x_9 ≤ 0 then FP.dconst1 else (FP.ddiv (FP.i2d (S (gG g) 9)) (FP.i2d x_9)))
def x_X1_keep (S : vS) (g2 : Nat) : vS := nm (x_J9_floorMod_7cf53 S ((S hO 1) + (S hO 2)) 6) (fun r_15 => nm (x_X0_copyFrom S (r_15.toNatClampNeg + 2) g2) (fun S_20 => if 6 ≤ (S_20 hO 2) then nm (x_J9_floorMod_7cf53 S_20 ((S_20 hO 1) + 1) 6) (fun r_54 => nm (st S_20 hO 1 r_54) (fun S_57 => S_57)) else nm (st S_20 hO 2 ((S_20 hO 2) + 1)) (fun S_39 => S_39)))
def x_X1_takeBack (S : vS) (g2 : Nat) : vS := if 0 < (S hO 2) then nm (st S hO 2 ((S hO 2) - 1)) (fun S_15 => nm (x_J9_floorMod_7cf53 S_15 ((S_15 hO 1) + (S_15 hO 2)) 6) (fun r_34 => nm (x_X0_copyFrom S_15 g2 (r_34.toNatClampNeg + 2)) (fun S_38 => S_38))) else S
def x_X3_add (S : vS) (p1 : Int32) : vS := if (S tO 1) < 0 then S else if 60 ≤ (S tO 1) then S else nm (st S tC (S tO 1).toNatClampNeg (vp_nar .char p1)) (fun S_25 => nm (st S_25 tO 1 ((S_25 tO 1) + 1)) (fun S_33 => S_33))
def x_X3_clear (S : vS) : vS := nm (st S tO 1 0) (fun S_2 => S_2)
def x_X3_restart (S : vS) : vS := nm (st S tO 2 0) (fun S_2 => S_2)
def x_X3_next (S : vS) : Int32 := if (S tO 2) < 0 then (-1) else if (S tO 1) ≤ (S tO 2) then (-1) else if 60 ≤ (S tO 2) then (-1) else (S tC (S tO 2).toNatClampNeg)
def x_X3_readMark (S : vS) (p1 : Int32) : (Int32 × vS) := nm (x_X3_next S) (fun r_1 => if r_1 = p1 then nm (st S tO 2 ((S tO 2) + 1)) (fun S_25 => (1, S_25)) else (0, S))
def x_X3_readNumber_L4 : Nat → vS → Int32 → Nat → Int32 → (Int32 × vS)
  | 0, S, _, _, _ => (0, S)
  | n + 1, S, p1, n3, v2 => if 60 ≤ (nI n3) then (v2, S) else nm (x_X3_next S) (fun r_11 => nm ((r_11 - 48)) (fun x_17 => nm (((v2 * 10) + x_17)) (fun x_26 => if x_17 < 0 then (v2, S) else if 9 < x_17 then (v2, S) else if x_26 < 1 then (v2, S) else if x_26 ≤ p1 then nm (st S tO 2 ((S tO 2) + 1)) (fun S_65 => x_X3_readNumber_L4 n S_65 p1 ((n3 + 1)) (x_26)) else (v2, S))))
def x_X3_readNumber (S : vS) (p1 : Int32) : (Int32 × vS) := x_X3_readNumber_L4 (61) S p1 (0) (0)
def x_X3_readAmount (S : vS) (p1 : Int32) (p2 : Int32) : (Int32 × vS) := nmp (x_X3_readNumber S p2) (fun r_3 S_3 => nm (st S_3 tO 5 r_3) (fun S_6 => if (S_6 tO 5) < p1 then (0, S_6) else (1, S_6)))
def x_X3_readWeeks (S : vS) : (Int32 × vS) := nmp (x_X3_readNumber S 52) (fun r_4 S_4 => nm (st S_4 tO 6 r_4) (fun S_7 => if (S_7 tO 6) < 1 then (0, S_7) else (1, S_7)))
def x_X3_readWho (S : vS) : (Int32 × vS) := nm (x_X3_next S) (fun r_2 => nm (st S tO 4 (r_2 - 48)) (fun S_8 => if (S_8 tO 4) < 0 then (0, S_8) else if 8 ≤ (S_8 tO 4) then (0, S_8) else nm (st S_8 tO 2 ((S_8 tO 2) + 1)) (fun S_44 => (1, S_44))))
def x_X3_readWord_L2 : Nat → vS → Nat → Nat → (Int32 × vS)
  | 0, S, _, _ => (0, S)
  | n + 1, S, w, n2 => nm (x_J0_length_8abf5 S w) (fun r_4 => if r_4 ≤ (nI n2) then (1, S) else nm (x_J0_charAt_5068e S w n2) (fun r_13 => nmp (x_X3_readMark S r_13) (fun r_16 S_16 => if r_16 = 0 then (0, S_16) else x_X3_readWord_L2 n S_16 w ((n2 + 1)))))
def x_X3_readWord (S : vS) (w : Nat) : (Int32 × vS) := x_X3_readWord_L2 (6) S w (0)
def x_X3_readOrder (S : vS) : (Int32 × vS) := nm (x_X3_next S) (fun r_1 => if r_1 = 97 then nm (st S tO 3 2) (fun S_130 => nmp (x_X3_readWord S_130 1) (fun r_136 S_136 => if r_136 = 0 then (0, S_136) else nmp (x_X3_readWho S_136) (fun r_143 S_143 => if r_143 = 0 then (0, S_143) else (1, S_143)))) else (if r_1 = 99 then nm (st S tO 3 6) (fun S_264 => nmp (x_X3_readWord S_264 5) (fun r_270 S_270 => (r_270, S_270))) else (if r_1 = 104 then nm (st S tO 3 4) (fun S_204 => nmp (x_X3_readWord S_204 3) (fun r_210 S_210 => if r_210 = 0 then (0, S_210) else nmp (x_X3_readWho S_210) (fun r_217 S_217 => if r_217 = 0 then (0, S_217) else nmp (x_X3_readMark S_217 42) (fun r_226 S_226 => if r_226 = 0 then (0, S_226) else nmp (x_X3_readAmount S_226 1 2000) (fun r_237 S_237 => if r_237 = 0 then (0, S_237) else (1, S_237)))))) else (if r_1 = 108 then nm (st S tO 3 1) (fun S_66 => nmp (x_X3_readWord S_66 0) (fun r_72 S_72 => if r_72 = 0 then (0, S_72) else nmp (x_X3_readWho S_72) (fun r_79 S_79 => if r_79 = 0 then (0, S_79) else nmp (x_X3_readMark S_79 42) (fun r_88 S_88 => if r_88 = 0 then (0, S_88) else nmp (x_X3_readAmount S_88 10 2000) (fun r_100 S_100 => if r_100 = 0 then (0, S_100) else nmp (x_X3_readMark S_100 47) (fun r_109 S_109 => if r_109 = 0 then (0, S_109) else nmp (x_X3_readWeeks S_109) (fun r_116 S_116 => if r_116 = 0 then (0, S_116) else (1, S_116)))))))) else (if r_1 = 112 then nm (st S tO 3 3) (fun S_157 => nmp (x_X3_readWord S_157 2) (fun r_163 S_163 => if r_163 = 0 then (0, S_163) else nmp (x_X3_readWho S_163) (fun r_170 S_170 => if r_170 = 0 then (0, S_170) else nmp (x_X3_readMark S_170 42) (fun r_179 S_179 => if r_179 = 0 then (0, S_179) else nmp (x_X3_readAmount S_179 1 2000) (fun r_190 S_190 => if r_190 = 0 then (0, S_190) else (1, S_190)))))) else (if r_1 = 119 then nm (st S tO 3 5) (fun S_251 => nmp (x_X3_readWord S_251 4) (fun r_257 S_257 => (r_257, S_257))) else ((0, S))))))))
def x_X3_readAll_L6 : Nat → vS → Nat → (Int32 × vS)
  | 0, S, _ => (0, S)
  | n + 1, S, n1 => if 60 ≤ (nI n1) then (0, S) else nmp (x_X3_readOrder S) (fun r_13 S_13 => if r_13 = 0 then (0, S_13) else if (S_13 tO 2) < (S_13 tO 1) then nmp (x_X3_readMark S_13 59) (fun r_37 S_37 => if r_37 = 0 then (0, S_37) else x_X3_readAll_L6 n S_37 ((n1 + 1))) else (1, S_13))
def x_X3_readAll (S : vS) : (Int32 × vS) := nm (x_X3_restart S) (fun S_1 => x_X3_readAll_L6 (61) S_1 (0))
end XDEFS3
