def f_L_law (fu L : Nat) (xs : Nat → Int32) : Nat → Int32 → xSt → Option xSt
  | 0, _, _ => none
  | n + 1, a4, g => (if ((Int32.ofNat L) - ((5 : Int32))) < a4 then some g else (if a4 < 0 ∨ L ≤ a4.toNatClampNeg then none else (if ((xs a4.toNatClampNeg) &&& ((31 : Int32))) = (0 : Int32) then (if (a4 + ((1 : Int32))) < 0 ∨ L ≤ (a4 + ((1 : Int32))).toNatClampNeg then none else (if (a4 + ((2 : Int32))) < 0 ∨ L ≤ (a4 + ((2 : Int32))).toNatClampNeg then none else (if (a4 + ((3 : Int32))) < 0 ∨ L ≤ (a4 + ((3 : Int32))).toNatClampNeg then none else (if (a4 + ((4 : Int32))) < 0 ∨ L ≤ (a4 + ((4 : Int32))).toNatClampNeg then none else (ob2 (f_L_arrive (xs (a4 + ((1 : Int32))).toNatClampNeg) (xs (a4 + ((2 : Int32))).toNatClampNeg) (xs (a4 + ((3 : Int32))).toNatClampNeg) (xs (a4 + ((4 : Int32))).toNatClampNeg) g) (fun r9 g10 => (if (a4 + ((1 : Int32))) < 0 ∨ L ≤ (a4 + ((1 : Int32))).toNatClampNeg then none else (if (a4 + ((2 : Int32))) < 0 ∨ L ≤ (a4 + ((2 : Int32))).toNatClampNeg then none else (if (a4 + ((3 : Int32))) < 0 ∨ L ≤ (a4 + ((3 : Int32))).toNatClampNeg then none else (if (a4 + ((4 : Int32))) < 0 ∨ L ≤ (a4 + ((4 : Int32))).toNatClampNeg then none else (ob2 (f_M_arrive (xs (a4 + ((1 : Int32))).toNatClampNeg) (xs (a4 + ((2 : Int32))).toNatClampNeg) (xs (a4 + ((3 : Int32))).toNatClampNeg) (xs (a4 + ((4 : Int32))).toNatClampNeg) g10) (fun r16 g17 => (ob2 (f_M_thrown g17) (fun r19 g20 => (if r19 = r9 then (if r9 = 0 then (if (lg_cmp (g20 68 0).toInt64 r16.toInt64) = 0 then f_L_law fu L xs n (a4 + (5 : Int32)) g20 else none) else f_L_law fu L xs n (a4 + (5 : Int32)) g20) else none))))))))))))))) else (if ((xs a4.toNatClampNeg) &&& ((31 : Int32))) = (1 : Int32) then (if (a4 + ((1 : Int32))) < 0 ∨ L ≤ (a4 + ((1 : Int32))).toNatClampNeg then none else (if (a4 + ((2 : Int32))) < 0 ∨ L ≤ (a4 + ((2 : Int32))).toNatClampNeg then none else (if (a4 + ((3 : Int32))) < 0 ∨ L ≤ (a4 + ((3 : Int32))).toNatClampNeg then none else (if (a4 + ((4 : Int32))) < 0 ∨ L ≤ (a4 + ((4 : Int32))).toNatClampNeg then none else (ob2 (f_L_order (xs (a4 + ((1 : Int32))).toNatClampNeg) (xs (a4 + ((2 : Int32))).toNatClampNeg) (xs (a4 + ((3 : Int32))).toNatClampNeg) (xs (a4 + ((4 : Int32))).toNatClampNeg) g) (fun r30 g31 => (if (a4 + ((1 : Int32))) < 0 ∨ L ≤ (a4 + ((1 : Int32))).toNatClampNeg then none else (if (a4 + ((2 : Int32))) < 0 ∨ L ≤ (a4 + ((2 : Int32))).toNatClampNeg then none else (if (a4 + ((3 : Int32))) < 0 ∨ L ≤ (a4 + ((3 : Int32))).toNatClampNeg then none else (if (a4 + ((4 : Int32))) < 0 ∨ L ≤ (a4 + ((4 : Int32))).toNatClampNeg then none else (ob2 (f_M_order (xs (a4 + ((1 : Int32))).toNatClampNeg) (xs (a4 + ((2 : Int32))).toNatClampNeg) (xs (a4 + ((3 : Int32))).toNatClampNeg) (xs (a4 + ((4 : Int32))).toNatClampNeg) g31) (fun r37 g38 => (ob2 (f_M_thrown g38) (fun r40 g41 => (if r40 = r30 then (if r30 = 0 then (if (lg_cmp (g41 68 0).toInt64 r37.toInt64) = 0 then f_L_law fu L xs n (a4 + (5 : Int32)) g41 else none) else f_L_law fu L xs n (a4 + (5 : Int32)) g41) else none))))))))))))))) else (if ((xs a4.toNatClampNeg) &&& ((31 : Int32))) = (2 : Int32) then (if (a4 + ((1 : Int32))) < 0 ∨ L ≤ (a4 + ((1 : Int32))).toNatClampNeg then none else (if (a4 + ((2 : Int32))) < 0 ∨ L ≤ (a4 + ((2 : Int32))).toNatClampNeg then none else (if (a4 + ((3 : Int32))) < 0 ∨ L ≤ (a4 + ((3 : Int32))).toNatClampNeg then none else (ob2 (f_L_wants (xs (a4 + ((1 : Int32))).toNatClampNeg) (xs (a4 + ((2 : Int32))).toNatClampNeg) (xs (a4 + ((3 : Int32))).toNatClampNeg) g) (fun r50 g51 => (if (a4 + ((1 : Int32))) < 0 ∨ L ≤ (a4 + ((1 : Int32))).toNatClampNeg then none else (if (a4 + ((2 : Int32))) < 0 ∨ L ≤ (a4 + ((2 : Int32))).toNatClampNeg then none else (if (a4 + ((3 : Int32))) < 0 ∨ L ≤ (a4 + ((3 : Int32))).toNatClampNeg then none else (Option.bind (f_M_wants (xs (a4 + ((1 : Int32))).toNatClampNeg) (xs (a4 + ((2 : Int32))).toNatClampNeg) (xs (a4 + ((3 : Int32))).toNatClampNeg) g51) (fun g57 => (ob2 (f_M_thrown g57) (fun r59 g60 => (if r59 = r50 then f_L_law fu L xs n (a4 + (5 : Int32)) g60 else none))))))))))))) else (if ((xs a4.toNatClampNeg) &&& ((31 : Int32))) = (3 : Int32) then (if (a4 + ((1 : Int32))) < 0 ∨ L ≤ (a4 + ((1 : Int32))).toNatClampNeg then none else (if (a4 + ((2 : Int32))) < 0 ∨ L ≤ (a4 + ((2 : Int32))).toNatClampNeg then none else (ob2 (f_L_promised fu (xs (a4 + ((1 : Int32))).toNatClampNeg) (xs (a4 + ((2 : Int32))).toNatClampNeg) g) (fun r66 g67 => (if (a4 + ((1 : Int32))) < 0 ∨ L ≤ (a4 + ((1 : Int32))).toNatClampNeg then none else (if (a4 + ((2 : Int32))) < 0 ∨ L ≤ (a4 + ((2 : Int32))).toNatClampNeg then none else (Option.bind (f_M_promised fu (xs (a4 + ((1 : Int32))).toNatClampNeg) (xs (a4 + ((2 : Int32))).toNatClampNeg) g67) (fun g72 => (ob2 (f_M_thrown g72) (fun r74 g75 => (if r74 = r66 then f_L_law fu L xs n (a4 + (5 : Int32)) g75 else none))))))))))) else (if ((xs a4.toNatClampNeg) &&& ((31 : Int32))) = (4 : Int32) then (if (a4 + ((1 : Int32))) < 0 ∨ L ≤ (a4 + ((1 : Int32))).toNatClampNeg then none else (if (a4 + ((2 : Int32))) < 0 ∨ L ≤ (a4 + ((2 : Int32))).toNatClampNeg then none else (if (a4 + ((3 : Int32))) < 0 ∨ L ≤ (a4 + ((3 : Int32))).toNatClampNeg then none else (if (xs (a4 + ((3 : Int32))).toNatClampNeg) = 0 then (ob2 (f_L_rule (xs (a4 + ((1 : Int32))).toNatClampNeg) (xs (a4 + ((2 : Int32))).toNatClampNeg) ((0 : Int32)) g) (fun r83 g84 => (if (a4 + ((1 : Int32))) < 0 ∨ L ≤ (a4 + ((1 : Int32))).toNatClampNeg then none else (if (a4 + ((2 : Int32))) < 0 ∨ L ≤ (a4 + ((2 : Int32))).toNatClampNeg then none else (if (a4 + ((3 : Int32))) < 0 ∨ L ≤ (a4 + ((3 : Int32))).toNatClampNeg then none else (if (xs (a4 + ((3 : Int32))).toNatClampNeg) = 0 then (ob2 (f_M_rule (xs (a4 + ((1 : Int32))).toNatClampNeg) (xs (a4 + ((2 : Int32))).toNatClampNeg) ((0 : Int32)) g84) (fun r90 g91 => (ob2 (f_M_thrown g91) (fun r93 g94 => (if r93 = r83 then (if r83 = 0 then (if r90 = 0 then (if (lg_cmp (g94 68 0).toInt64 ((0 : Int32)).toInt64) = 0 then f_L_law fu L xs n (a4 + (5 : Int32)) g94 else none) else (if (lg_cmp (g94 68 0).toInt64 ((1 : Int32)).toInt64) = 0 then f_L_law fu L xs n (a4 + (5 : Int32)) g94 else none)) else f_L_law fu L xs n (a4 + (5 : Int32)) g94) else none))))) else (ob2 (f_M_rule (xs (a4 + ((1 : Int32))).toNatClampNeg) (xs (a4 + ((2 : Int32))).toNatClampNeg) ((1 : Int32)) g84) (fun r101 g102 => (ob2 (f_M_thrown g102) (fun r104 g105 => (if r104 = r83 then (if r83 = 0 then (if r101 = 0 then (if (lg_cmp (g105 68 0).toInt64 ((0 : Int32)).toInt64) = 0 then f_L_law fu L xs n (a4 + (5 : Int32)) g105 else none) else (if (lg_cmp (g105 68 0).toInt64 ((1 : Int32)).toInt64) = 0 then f_L_law fu L xs n (a4 + (5 : Int32)) g105 else none)) else f_L_law fu L xs n (a4 + (5 : Int32)) g105) else none))))))))))) else (ob2 (f_L_rule (xs (a4 + ((1 : Int32))).toNatClampNeg) (xs (a4 + ((2 : Int32))).toNatClampNeg) ((1 : Int32)) g) (fun r112 g113 => (if (a4 + ((1 : Int32))) < 0 ∨ L ≤ (a4 + ((1 : Int32))).toNatClampNeg then none else (if (a4 + ((2 : Int32))) < 0 ∨ L ≤ (a4 + ((2 : Int32))).toNatClampNeg then none else (if (a4 + ((3 : Int32))) < 0 ∨ L ≤ (a4 + ((3 : Int32))).toNatClampNeg then none else (if (xs (a4 + ((3 : Int32))).toNatClampNeg) = 0 then (ob2 (f_M_rule (xs (a4 + ((1 : Int32))).toNatClampNeg) (xs (a4 + ((2 : Int32))).toNatClampNeg) ((0 : Int32)) g113) (fun r119 g120 => (ob2 (f_M_thrown g120) (fun r122 g123 => (if r122 = r112 then (if r112 = 0 then (if r119 = 0 then (if (lg_cmp (g123 68 0).toInt64 ((0 : Int32)).toInt64) = 0 then f_L_law fu L xs n (a4 + (5 : Int32)) g123 else none) else (if (lg_cmp (g123 68 0).toInt64 ((1 : Int32)).toInt64) = 0 then f_L_law fu L xs n (a4 + (5 : Int32)) g123 else none)) else f_L_law fu L xs n (a4 + (5 : Int32)) g123) else none))))) else (ob2 (f_M_rule (xs (a4 + ((1 : Int32))).toNatClampNeg) (xs (a4 + ((2 : Int32))).toNatClampNeg) ((1 : Int32)) g113) (fun r130 g131 => (ob2 (f_M_thrown g131) (fun r133 g134 => (if r133 = r112 then (if r112 = 0 then (if r130 = 0 then (if (lg_cmp (g134 68 0).toInt64 ((0 : Int32)).toInt64) = 0 then f_L_law fu L xs n (a4 + (5 : Int32)) g134 else none) else (if (lg_cmp (g134 68 0).toInt64 ((1 : Int32)).toInt64) = 0 then f_L_law fu L xs n (a4 + (5 : Int32)) g134 else none)) else f_L_law fu L xs n (a4 + (5 : Int32)) g134) else none))))))))))))))) else (if ((xs a4.toNatClampNeg) &&& ((31 : Int32))) = (5 : Int32) then (if (a4 + ((1 : Int32))) < 0 ∨ L ≤ (a4 + ((1 : Int32))).toNatClampNeg then none else (if (a4 + ((2 : Int32))) < 0 ∨ L ≤ (a4 + ((2 : Int32))).toNatClampNeg then none else (if (xs (a4 + ((2 : Int32))).toNatClampNeg) = 0 then (ob2 (f_L_full fu (xs (a4 + ((1 : Int32))).toNatClampNeg) ((0 : Int32)) g) (fun r145 g146 => (if (a4 + ((1 : Int32))) < 0 ∨ L ≤ (a4 + ((1 : Int32))).toNatClampNeg then none else (if (a4 + ((2 : Int32))) < 0 ∨ L ≤ (a4 + ((2 : Int32))).toNatClampNeg then none else (if (xs (a4 + ((2 : Int32))).toNatClampNeg) = 0 then (ob2 (f_M_full fu (xs (a4 + ((1 : Int32))).toNatClampNeg) ((0 : Int32)) g146) (fun r151 g152 => (ob2 (f_M_thrown g152) (fun r154 g155 => (if r154 = r145 then (if r145 = 0 then (if (lg_cmp (g155 68 0).toInt64 r151.toInt64) = 0 then f_L_law fu L xs n (a4 + (5 : Int32)) g155 else none) else f_L_law fu L xs n (a4 + (5 : Int32)) g155) else none))))) else (ob2 (f_M_full fu (xs (a4 + ((1 : Int32))).toNatClampNeg) ((1 : Int32)) g146) (fun r160 g161 => (ob2 (f_M_thrown g161) (fun r163 g164 => (if r163 = r145 then (if r145 = 0 then (if (lg_cmp (g164 68 0).toInt64 r160.toInt64) = 0 then f_L_law fu L xs n (a4 + (5 : Int32)) g164 else none) else f_L_law fu L xs n (a4 + (5 : Int32)) g164) else none)))))))))) else (ob2 (f_L_full fu (xs (a4 + ((1 : Int32))).toNatClampNeg) ((1 : Int32)) g) (fun r169 g170 => (if (a4 + ((1 : Int32))) < 0 ∨ L ≤ (a4 + ((1 : Int32))).toNatClampNeg then none else (if (a4 + ((2 : Int32))) < 0 ∨ L ≤ (a4 + ((2 : Int32))).toNatClampNeg then none else (if (xs (a4 + ((2 : Int32))).toNatClampNeg) = 0 then (ob2 (f_M_full fu (xs (a4 + ((1 : Int32))).toNatClampNeg) ((0 : Int32)) g170) (fun r175 g176 => (ob2 (f_M_thrown g176) (fun r178 g179 => (if r178 = r169 then (if r169 = 0 then (if (lg_cmp (g179 68 0).toInt64 r175.toInt64) = 0 then f_L_law fu L xs n (a4 + (5 : Int32)) g179 else none) else f_L_law fu L xs n (a4 + (5 : Int32)) g179) else none))))) else (ob2 (f_M_full fu (xs (a4 + ((1 : Int32))).toNatClampNeg) ((1 : Int32)) g170) (fun r184 g185 => (ob2 (f_M_thrown g185) (fun r187 g188 => (if r187 = r169 then (if r169 = 0 then (if (lg_cmp (g188 68 0).toInt64 r184.toInt64) = 0 then f_L_law fu L xs n (a4 + (5 : Int32)) g188 else none) else f_L_law fu L xs n (a4 + (5 : Int32)) g188) else none))))))))))))) else (if ((xs a4.toNatClampNeg) &&& ((31 : Int32))) = (6 : Int32) then (if (a4 + ((1 : Int32))) < 0 ∨ L ≤ (a4 + ((1 : Int32))).toNatClampNeg then none else (ob2 (f_L_match fu (xs (a4 + ((1 : Int32))).toNatClampNeg) g) (fun r195 g196 => (if (a4 + ((1 : Int32))) < 0 ∨ L ≤ (a4 + ((1 : Int32))).toNatClampNeg then none else (ob2 (f_M_match fu (xs (a4 + ((1 : Int32))).toNatClampNeg) g196) (fun r199 g200 => (ob2 (f_M_thrown g200) (fun r202 g203 => (if r202 = r195 then (if r195 = 0 then (if (lg_cmp (g203 68 0).toInt64 r199.toInt64) = 0 then f_L_law fu L xs n (a4 + (5 : Int32)) g203 else none) else f_L_law fu L xs n (a4 + (5 : Int32)) g203) else none))))))))) else (if ((xs a4.toNatClampNeg) &&& ((31 : Int32))) = (7 : Int32) then (ob2 (f_D_exact g) (fun r209 g210 => (ob2 (f_M_exact g210) (fun r212 g213 => (if r209 = r212 then f_L_law fu L xs n (a4 + (5 : Int32)) g213 else none))))) else (if ((xs a4.toNatClampNeg) &&& ((31 : Int32))) = (8 : Int32) then (ob2 (f_D_bound fu g) (fun r217 g218 => (ob2 (f_M_bound fu g218) (fun r220 g221 => (if r217 = r220 then f_L_law fu L xs n (a4 + (5 : Int32)) g221 else none))))) else (if ((xs a4.toNatClampNeg) &&& ((31 : Int32))) = (9 : Int32) then (ob2 (f_D_steps g) (fun r225 g226 => (ob2 (f_M_steps g226) (fun r228 g229 => (if r225 = r228 then f_L_law fu L xs n (a4 + (5 : Int32)) g229 else none))))) else (if ((xs a4.toNatClampNeg) &&& ((31 : Int32))) = (10 : Int32) then (if (a4 + ((1 : Int32))) < 0 ∨ L ≤ (a4 + ((1 : Int32))).toNatClampNeg then none else (if (a4 + ((2 : Int32))) < 0 ∨ L ≤ (a4 + ((2 : Int32))).toNatClampNeg then none else (ob2 (f_L_pair (xs (a4 + ((1 : Int32))).toNatClampNeg) (xs (a4 + ((2 : Int32))).toNatClampNeg) g) (fun r235 g236 => (if (a4 + ((1 : Int32))) < 0 ∨ L ≤ (a4 + ((1 : Int32))).toNatClampNeg then none else (if (a4 + ((2 : Int32))) < 0 ∨ L ≤ (a4 + ((2 : Int32))).toNatClampNeg then none else (ob2 (f_M_pair (xs (a4 + ((1 : Int32))).toNatClampNeg) (xs (a4 + ((2 : Int32))).toNatClampNeg) g236) (fun r240 g241 => (ob2 (f_M_thrown g241) (fun r243 g244 => (if r243 = r235 then (if r235 = 0 then (if (lg_cmp (g244 68 0).toInt64 r240.toInt64) = 0 then f_L_law fu L xs n (a4 + (5 : Int32)) g244 else none) else f_L_law fu L xs n (a4 + (5 : Int32)) g244) else none))))))))))) else (if ((xs a4.toNatClampNeg) &&& ((31 : Int32))) = (11 : Int32) then (if (a4 + ((1 : Int32))) < 0 ∨ L ≤ (a4 + ((1 : Int32))).toNatClampNeg then none else (ob2 (f_L_undo fu (xs (a4 + ((1 : Int32))).toNatClampNeg) g) (fun r251 g252 => (if (a4 + ((1 : Int32))) < 0 ∨ L ≤ (a4 + ((1 : Int32))).toNatClampNeg then none else (ob2 (f_M_undo fu (xs (a4 + ((1 : Int32))).toNatClampNeg) g252) (fun r255 g256 => (ob2 (f_M_thrown g256) (fun r258 g259 => (if r258 = r251 then (if r251 = 0 then (if (lg_cmp (g259 68 0).toInt64 r255.toInt64) = 0 then f_L_law fu L xs n (a4 + (5 : Int32)) g259 else none) else f_L_law fu L xs n (a4 + (5 : Int32)) g259) else none))))))))) else (if ((xs a4.toNatClampNeg) &&& ((31 : Int32))) = (12 : Int32) then (if (a4 + ((1 : Int32))) < 0 ∨ L ≤ (a4 + ((1 : Int32))).toNatClampNeg then none else (if (a4 + ((2 : Int32))) < 0 ∨ L ≤ (a4 + ((2 : Int32))).toNatClampNeg then none else (ob2 (f_L_split fu (xs (a4 + ((1 : Int32))).toNatClampNeg) (xs (a4 + ((2 : Int32))).toNatClampNeg) g) (fun r267 g268 => (if (a4 + ((1 : Int32))) < 0 ∨ L ≤ (a4 + ((1 : Int32))).toNatClampNeg then none else (if (a4 + ((2 : Int32))) < 0 ∨ L ≤ (a4 + ((2 : Int32))).toNatClampNeg then none else (ob2 (f_M_split fu (xs (a4 + ((1 : Int32))).toNatClampNeg) (xs (a4 + ((2 : Int32))).toNatClampNeg) g268) (fun r272 g273 => (ob2 (f_M_thrown g273) (fun r275 g276 => (if r275 = r267 then (if r267 = 0 then (if (lg_cmp (g276 68 0).toInt64 r272.toInt64) = 0 then f_L_law fu L xs n (a4 + (5 : Int32)) g276 else none) else f_L_law fu L xs n (a4 + (5 : Int32)) g276) else none))))))))))) else (if ((xs a4.toNatClampNeg) &&& ((31 : Int32))) = (13 : Int32) then (if (a4 + ((1 : Int32))) < 0 ∨ L ≤ (a4 + ((1 : Int32))).toNatClampNeg then none else (if (a4 + ((2 : Int32))) < 0 ∨ L ≤ (a4 + ((2 : Int32))).toNatClampNeg then none else (ob2 (f_L_late fu (xs (a4 + ((1 : Int32))).toNatClampNeg) (xs (a4 + ((2 : Int32))).toNatClampNeg) g) (fun r284 g285 => (if (a4 + ((1 : Int32))) < 0 ∨ L ≤ (a4 + ((1 : Int32))).toNatClampNeg then none else (if (a4 + ((2 : Int32))) < 0 ∨ L ≤ (a4 + ((2 : Int32))).toNatClampNeg then none else (ob2 (f_M_late fu (xs (a4 + ((1 : Int32))).toNatClampNeg) (xs (a4 + ((2 : Int32))).toNatClampNeg) g285) (fun r289 g290 => (ob2 (f_M_thrown g290) (fun r292 g293 => (if r292 = r284 then (if r284 = 0 then (if (lg_cmp (g293 68 0).toInt64 r289.toInt64) = 0 then f_L_law fu L xs n (a4 + (5 : Int32)) g293 else none) else f_L_law fu L xs n (a4 + (5 : Int32)) g293) else none))))))))))) else (if ((xs a4.toNatClampNeg) &&& ((31 : Int32))) = (14 : Int32) then (if (a4 + ((1 : Int32))) < 0 ∨ L ≤ (a4 + ((1 : Int32))).toNatClampNeg then none else (if (a4 + ((2 : Int32))) < 0 ∨ L ≤ (a4 + ((2 : Int32))).toNatClampNeg then none else (ob2 (f_L_arrival fu (xs (a4 + ((1 : Int32))).toNatClampNeg) (xs (a4 + ((2 : Int32))).toNatClampNeg) g) (fun r301 g302 => (if (a4 + ((1 : Int32))) < 0 ∨ L ≤ (a4 + ((1 : Int32))).toNatClampNeg then none else (if (a4 + ((2 : Int32))) < 0 ∨ L ≤ (a4 + ((2 : Int32))).toNatClampNeg then none else (ob2 (f_M_arrival fu (xs (a4 + ((1 : Int32))).toNatClampNeg) (xs (a4 + ((2 : Int32))).toNatClampNeg) g302) (fun r306 g307 => (ob2 (f_M_thrown g307) (fun r309 g310 => (if r309 = r301 then (if r301 = 0 then (if (lg_cmp (g310 68 0).toInt64 r306.toInt64) = 0 then f_L_law fu L xs n (a4 + (5 : Int32)) g310 else none) else f_L_law fu L xs n (a4 + (5 : Int32)) g310) else none))))))))))) else (if ((xs a4.toNatClampNeg) &&& ((31 : Int32))) = (15 : Int32) then (if (a4 + ((1 : Int32))) < 0 ∨ L ≤ (a4 + ((1 : Int32))).toNatClampNeg then none else (if (a4 + ((2 : Int32))) < 0 ∨ L ≤ (a4 + ((2 : Int32))).toNatClampNeg then none else (ob2 (f_L_wanted fu (xs (a4 + ((1 : Int32))).toNatClampNeg) (xs (a4 + ((2 : Int32))).toNatClampNeg) g) (fun r318 g319 => (if (a4 + ((1 : Int32))) < 0 ∨ L ≤ (a4 + ((1 : Int32))).toNatClampNeg then none else (if (a4 + ((2 : Int32))) < 0 ∨ L ≤ (a4 + ((2 : Int32))).toNatClampNeg then none else (ob2 (f_M_wanted fu (xs (a4 + ((1 : Int32))).toNatClampNeg) (xs (a4 + ((2 : Int32))).toNatClampNeg) g319) (fun r323 g324 => (ob2 (f_M_thrown g324) (fun r326 g327 => (if r326 = r318 then (if r318 = 0 then (if (lg_cmp (g327 68 0).toInt64 r323.toInt64) = 0 then f_L_law fu L xs n (a4 + (5 : Int32)) g327 else none) else f_L_law fu L xs n (a4 + (5 : Int32)) g327) else none))))))))))) else (if ((xs a4.toNatClampNeg) &&& ((31 : Int32))) = (16 : Int32) then (ob2 (f_D_saved fu g) (fun r333 g334 => (ob2 (f_M_saved fu g334) (fun r336 g337 => (if r333 = r336 then f_L_law fu L xs n (a4 + (5 : Int32)) g337 else none))))) else (if ((xs a4.toNatClampNeg) &&& ((31 : Int32))) = (17 : Int32) then (if (a4 + ((1 : Int32))) < 0 ∨ L ≤ (a4 + ((1 : Int32))).toNatClampNeg then none else (ob2 (f_D_count fu (xs (a4 + ((1 : Int32))).toNatClampNeg) g) (fun r342 g343 => (if (a4 + ((1 : Int32))) < 0 ∨ L ≤ (a4 + ((1 : Int32))).toNatClampNeg then none else (ob2 (f_M_count fu (xs (a4 + ((1 : Int32))).toNatClampNeg) g343) (fun r346 g347 => (if r342 = r346 then f_L_law fu L xs n (a4 + (5 : Int32)) g347 else none))))))) else f_L_law fu L xs n (a4 + (5 : Int32)) g))))))))))))))))))))
theorem law_end {p : Program} {l : Launch} {e : Env} {s : State} {m : MethodId} {below : List Frame} {meth : Method} {c : Code} {D : va_G} {ad : Nat → Nat} {ca : Nat → ClassId} {b : Nat} (X : xX p s m #[Value.ref b] meth c code "CrossDockLaw" 7 ret D ad ca) (hnew : ∀ q : Nat, xA (wX ad ca) s.heap.size q → s.heap.size ≤ q) {cells slots : Nat} {g : xSt} {pc : Nat} {lv : List (Nat × Value)} {k1 k2 : Nat} (hcc : cells + k1 ≤ 610214) (hss : slots + k2 ≤ 7265461) (hdg : decode code pc = .ok (.ireturn, 1)) :
    xV p l e room_1 s m #[Value.ref b] below meth c D xcl (wX ad ca) (xA (wX ad ca) s.heap.size) 7 cells slots (lw_Z below #[Value.ref b] s) g pc lv [.int 1] :=
  fun H locs ls hP hS hl => va_forget (fun q hq => hnew _ (hS.2.2 q hq)) (W.widen (k := 610214) (n := 7265461) (by omega) (by omega) (lw_ret X.1.1 X.1.2.1 X.2.2.1 X.2.2.2.1 hdg))
set_option maxRecDepth 100000 in
set_option maxHeartbeats 8000000 in
theorem l_L_law {p : Program} {e : Env} {s : State} {m : MethodId} {below : List Frame} {meth : Method} {c : Code} {D : va_G} {ad : Nat → Nat} {ca : Nat → ClassId} (l : Launch) (hfl : l.stackTraces = false) (fu : Nat) {b L : Nat} {xs : Nat → Int32} (X : xX p s m #[Value.ref b] meth c code "CrossDockLaw" 7 ret D ad ca) (hbx : va_X b L xs s s.heap ∧ b < s.heap.size ∧ ¬ xA (wX ad ca) s.heap.size b) (hnew : ∀ q : Nat, xA (wX ad ca) s.heap.size q → s.heap.size ≤ q) :
    ∀ (n : Nat) (a4 : Int32) (g g' : xSt) (cells slots : Nat), f_L_law fu L xs n a4 g = some g' → cells + 5 * n ≤ 610214 → slots + 30 * n ≤ 7265461 → xV p l e room_1 s m #[Value.ref b] below meth c D xcl (wX ad ca) (xA (wX ad ca) s.heap.size) 7 cells slots (lw_Z below #[Value.ref b] s) g 23 [(4, .int a4), (3, .ref (ad 58)), (2, .ref (ad 36)), (1, .ref (ad 0)), (0, .ref b)] [] := by
  intro n
  induction n with
  | zero =>
    intro a4 g g' cells slots hf
    rw [f_L_law] at hf
    cases hf
  | succ n ih =>
    intro a4 g g' cells slots hf hcc hss
    rw [f_L_law] at hf
    refine v_iload X.1 d_L_law_23 0 rfl ?_
    refine v_aload_n X.1 d_L_law_25 rfl 4 rfl ?_
    refine v_slen X hbx d_L_law_26 ?_
    refine v_iconst X.1 (v := (5 : Int32)) d_L_law_27 (by decide) ?_
    refine v_isub X.1 d_L_law_28 ?_
    refine v_icmp_gt X.1 (tgt := 1138) d_L_law_29 (by decide) (fun c1 => ?_) (fun c1 => ?_)
    · rw [if_pos c1] at hf
      refine v_iconst X.1 (v := (1 : Int32)) d_L_law_1138 (by decide) ?_
      cases hf
      exact law_end X hnew hcc hss d_L_law_1139
    · rw [if_neg c1] at hf
      refine v_aload_n X.1 d_L_law_32 rfl 4 rfl ?_
      refine v_iload X.1 d_L_law_33 0 rfl ?_
      obtain ⟨hb2, hf⟩ := oi_none hf
      refine v_sld X hbx hb2 d_L_law_35 ?_
      refine v_bipush X.1 (v := (31 : Int32)) d_L_law_36 (by decide) ?_
      refine v_iand X.1 d_L_law_38 ?_
      by_cases c3 : ((xs a4.toNatClampNeg) &&& ((31 : Int32))) = (0 : Int32)
      · rw [if_pos c3] at hf
        refine v_tin X (tgt := 124) d_L_law_39 (by rw [c3]; decide) (by rw [c3]; decide) (by rw [c3]; rfl) (by decide) ?_
        refine v_aload_n X.1 d_L_law_124 rfl 3 rfl ?_
        refine v_aload_n X.1 d_L_law_125 rfl 4 rfl ?_
        refine v_iload X.1 d_L_law_126 0 rfl ?_
        refine v_iconst X.1 (v := (1 : Int32)) d_L_law_128 (by decide) ?_
        refine v_iadd X.1 d_L_law_129 ?_
        obtain ⟨hb4, hf⟩ := oi_none hf
        refine v_sld X hbx hb4 d_L_law_130 ?_
        refine v_aload_n X.1 d_L_law_131 rfl 4 rfl ?_
        refine v_iload X.1 d_L_law_132 0 rfl ?_
        refine v_iconst X.1 (v := (2 : Int32)) d_L_law_134 (by decide) ?_
        refine v_iadd X.1 d_L_law_135 ?_
        obtain ⟨hb5, hf⟩ := oi_none hf
        refine v_sld X hbx hb5 d_L_law_136 ?_
        refine v_aload_n X.1 d_L_law_137 rfl 4 rfl ?_
        refine v_iload X.1 d_L_law_138 0 rfl ?_
        refine v_iconst X.1 (v := (3 : Int32)) d_L_law_140 (by decide) ?_
        refine v_iadd X.1 d_L_law_141 ?_
        obtain ⟨hb6, hf⟩ := oi_none hf
        refine v_sld X hbx hb6 d_L_law_142 ?_
        refine v_aload_n X.1 d_L_law_143 rfl 4 rfl ?_
        refine v_iload X.1 d_L_law_144 0 rfl ?_
        refine v_iconst X.1 (v := (4 : Int32)) d_L_law_146 (by decide) ?_
        refine v_iadd X.1 d_L_law_147 ?_
        obtain ⟨hb7, hf⟩ := oi_none hf
        refine v_sld X hbx hb7 d_L_law_148 ?_
        refine v_aload_n X.1 d_L_law_149 rfl 1 rfl ?_
        obtain ⟨r9, g10, hc8, hf⟩ := ob2_some hf
        refine v_backI X.1 (x_runH X (c_L_arrive l hfl (xs (a4 + ((1 : Int32))).toNatClampNeg) (xs (a4 + ((2 : Int32))).toNatClampNeg) (xs (a4 + ((3 : Int32))).toNatClampNeg) (xs (a4 + ((4 : Int32))).toNatClampNeg) _ _ _ hc8) tw_312 tw_51 tw_310 tw_311 ⟨rfl, rfl, by decide, by decide⟩ ⟨by decide, by show _ = some 6; decide⟩ (rest := []) rfl (Nat.le_of_ble_eq_true rfl) d_L_law_150 (by show _ ≤ 610214; omega) (by show _ ≤ 7265461; omega)) ?_
        refine v_istore X.1 (lv' := [(5, .int r9), (4, .int a4), (3, .ref (ad 58)), (2, .ref (ad 36)), (1, .ref (ad 0)), (0, .ref b)]) d_L_law_153 (by decide) rfl ?_
        refine v_aload_n X.1 d_L_law_155 rfl 3 rfl ?_
        refine v_aload_n X.1 d_L_law_156 rfl 5 rfl ?_
        refine v_iload X.1 d_L_law_157 1 rfl ?_
        refine v_iconst X.1 (v := (1 : Int32)) d_L_law_159 (by decide) ?_
        refine v_iadd X.1 d_L_law_160 ?_
        obtain ⟨hb11, hf⟩ := oi_none hf
        refine v_sld X hbx hb11 d_L_law_161 ?_
        refine v_aload_n X.1 d_L_law_162 rfl 5 rfl ?_
        refine v_iload X.1 d_L_law_163 1 rfl ?_
        refine v_iconst X.1 (v := (2 : Int32)) d_L_law_165 (by decide) ?_
        refine v_iadd X.1 d_L_law_166 ?_
        obtain ⟨hb12, hf⟩ := oi_none hf
        refine v_sld X hbx hb12 d_L_law_167 ?_
        refine v_aload_n X.1 d_L_law_168 rfl 5 rfl ?_
        refine v_iload X.1 d_L_law_169 1 rfl ?_
        refine v_iconst X.1 (v := (3 : Int32)) d_L_law_171 (by decide) ?_
        refine v_iadd X.1 d_L_law_172 ?_
        obtain ⟨hb13, hf⟩ := oi_none hf
        refine v_sld X hbx hb13 d_L_law_173 ?_
        refine v_aload_n X.1 d_L_law_174 rfl 5 rfl ?_
        refine v_iload X.1 d_L_law_175 1 rfl ?_
        refine v_iconst X.1 (v := (4 : Int32)) d_L_law_177 (by decide) ?_
        refine v_iadd X.1 d_L_law_178 ?_
        obtain ⟨hb14, hf⟩ := oi_none hf
        refine v_sld X hbx hb14 d_L_law_179 ?_
        obtain ⟨r16, g17, hc15, hf⟩ := ob2_some hf
        refine v_backI X.1 (x_runV X (c_M_arrive l (xs (a4 + ((1 : Int32))).toNatClampNeg) (xs (a4 + ((2 : Int32))).toNatClampNeg) (xs (a4 + ((3 : Int32))).toNatClampNeg) (xs (a4 + ((4 : Int32))).toNatClampNeg) _ _ _ hc15) rfl tw_720 tw_57 tw_717 tw_718 tw_719 36 5 rfl rfl rfl ⟨rfl, rfl, by decide, by decide⟩ ⟨by decide, by show _ = some 4; decide⟩ (rest := []) rfl (Nat.le_of_ble_eq_true rfl) d_L_law_180 (by show _ ≤ 610214; omega) (by show _ ≤ 7265461; omega)) ?_
        refine v_istore X.1 (lv' := [(6, .int r16), (5, .int r9), (4, .int a4), (3, .ref (ad 58)), (2, .ref (ad 36)), (1, .ref (ad 0)), (0, .ref b)]) d_L_law_183 (by decide) rfl ?_
        refine v_aload_n X.1 d_L_law_185 rfl 4 rfl ?_
        obtain ⟨r19, g20, hc18, hf⟩ := ob2_some hf
        refine v_backI X.1 (x_runV X (c_M_thrown l _ _ _ hc18) rfl tw_716 tw_57 tw_713 tw_714 tw_715 36 5 rfl rfl rfl ⟨rfl, rfl, by decide, by decide⟩ ⟨by decide, by show _ = some 0; decide⟩ (rest := []) rfl (Nat.le_of_ble_eq_true rfl) d_L_law_186 (by show _ ≤ 610214; omega) (by show _ ≤ 7265461; omega)) ?_
        refine v_iload X.1 d_L_law_189 1 rfl ?_
        refine v_icmp_eq X.1 (tgt := 196) d_L_law_191 (by decide) (fun c21 => ?_) (fun c21 => ?_)
        · rw [if_pos c21] at hf
          refine v_iload X.1 d_L_law_196 1 rfl ?_
          refine v_if_ne X.1 (tgt := 213) d_L_law_198 (by decide) (fun c22 => ?_) (fun c22 => ?_)
          · rw [if_neg c22] at hf
            refine v_goto X.1 (tgt := 1132) d_L_law_213 (by decide) ?_
            refine v_iinc X.1 (k0 := 2) (v := a4 + (5 : Int32)) (lv' := [(4, .int (a4 + (5 : Int32))), (6, .int r16), (5, .int r9), (3, .ref (ad 58)), (2, .ref (ad 36)), (1, .ref (ad 0)), (0, .ref b)]) d_L_law_1132 rfl rfl (by decide) rfl ?_
            refine v_goto X.1 (tgt := 23) d_L_law_1135 (by decide) ?_
            refine v_sub [0, 3, 4, 5, 6] rfl ?_
            exact ih _ _ _ _ _ hf (by omega) (by omega)
          · rw [if_pos c22] at hf
            refine v_aload_n X.1 d_L_law_201 rfl 3 rfl ?_
            refine v_iconst X.1 (v := (0 : Int32)) d_L_law_202 (by decide) ?_
            refine v_lald X d_L_law_203 ?_
            refine v_iload X.1 d_L_law_204 0 rfl ?_
            refine v_i2l X.1 d_L_law_206 rfl ?_
            refine v_lcmp X d_L_law_207 ?_
            refine v_if_eq X.1 (tgt := 213) d_L_law_208 (by decide) (fun c23 => ?_) (fun c23 => ?_)
            · rw [if_pos c23] at hf
              refine v_goto X.1 (tgt := 1132) d_L_law_213 (by decide) ?_
              refine v_iinc X.1 (k0 := 2) (v := a4 + (5 : Int32)) (lv' := [(4, .int (a4 + (5 : Int32))), (6, .int r16), (5, .int r9), (3, .ref (ad 58)), (2, .ref (ad 36)), (1, .ref (ad 0)), (0, .ref b)]) d_L_law_1132 rfl rfl (by decide) rfl ?_
              refine v_goto X.1 (tgt := 23) d_L_law_1135 (by decide) ?_
              refine v_sub [0, 3, 4, 5, 6] rfl ?_
              exact ih _ _ _ _ _ hf (by omega) (by omega)
            · rw [if_neg c23] at hf
              refine v_iconst X.1 (v := (0 : Int32)) d_L_law_211 (by decide) ?_
              cases hf
        · rw [if_neg c21] at hf
          refine v_iconst X.1 (v := (0 : Int32)) d_L_law_194 (by decide) ?_
          cases hf
      rw [if_neg c3] at hf
      by_cases c24 : ((xs a4.toNatClampNeg) &&& ((31 : Int32))) = (1 : Int32)
      · rw [if_pos c24] at hf
        refine v_tin X (tgt := 216) d_L_law_39 (by rw [c24]; decide) (by rw [c24]; decide) (by rw [c24]; rfl) (by decide) ?_
        refine v_aload_n X.1 d_L_law_216 rfl 3 rfl ?_
        refine v_aload_n X.1 d_L_law_217 rfl 4 rfl ?_
        refine v_iload X.1 d_L_law_218 0 rfl ?_
        refine v_iconst X.1 (v := (1 : Int32)) d_L_law_220 (by decide) ?_
        refine v_iadd X.1 d_L_law_221 ?_
        obtain ⟨hb25, hf⟩ := oi_none hf
        refine v_sld X hbx hb25 d_L_law_222 ?_
        refine v_aload_n X.1 d_L_law_223 rfl 4 rfl ?_
        refine v_iload X.1 d_L_law_224 0 rfl ?_
        refine v_iconst X.1 (v := (2 : Int32)) d_L_law_226 (by decide) ?_
        refine v_iadd X.1 d_L_law_227 ?_
        obtain ⟨hb26, hf⟩ := oi_none hf
        refine v_sld X hbx hb26 d_L_law_228 ?_
        refine v_aload_n X.1 d_L_law_229 rfl 4 rfl ?_
        refine v_iload X.1 d_L_law_230 0 rfl ?_
        refine v_iconst X.1 (v := (3 : Int32)) d_L_law_232 (by decide) ?_
        refine v_iadd X.1 d_L_law_233 ?_
        obtain ⟨hb27, hf⟩ := oi_none hf
        refine v_sld X hbx hb27 d_L_law_234 ?_
        refine v_aload_n X.1 d_L_law_235 rfl 4 rfl ?_
        refine v_iload X.1 d_L_law_236 0 rfl ?_
        refine v_iconst X.1 (v := (4 : Int32)) d_L_law_238 (by decide) ?_
        refine v_iadd X.1 d_L_law_239 ?_
        obtain ⟨hb28, hf⟩ := oi_none hf
        refine v_sld X hbx hb28 d_L_law_240 ?_
        refine v_aload_n X.1 d_L_law_241 rfl 1 rfl ?_
        obtain ⟨r30, g31, hc29, hf⟩ := ob2_some hf
        refine v_backI X.1 (x_runH X (c_L_order l hfl (xs (a4 + ((1 : Int32))).toNatClampNeg) (xs (a4 + ((2 : Int32))).toNatClampNeg) (xs (a4 + ((3 : Int32))).toNatClampNeg) (xs (a4 + ((4 : Int32))).toNatClampNeg) _ _ _ hc29) tw_412 tw_51 tw_410 tw_411 ⟨rfl, rfl, by decide, by decide⟩ ⟨by decide, by show _ = some 6; decide⟩ (rest := []) rfl (Nat.le_of_ble_eq_true rfl) d_L_law_242 (by show _ ≤ 610214; omega) (by show _ ≤ 7265461; omega)) ?_
        refine v_istore X.1 (lv' := [(5, .int r30), (4, .int a4), (3, .ref (ad 58)), (2, .ref (ad 36)), (1, .ref (ad 0)), (0, .ref b)]) d_L_law_245 (by decide) rfl ?_
        refine v_aload_n X.1 d_L_law_247 rfl 3 rfl ?_
        refine v_aload_n X.1 d_L_law_248 rfl 5 rfl ?_
        refine v_iload X.1 d_L_law_249 1 rfl ?_
        refine v_iconst X.1 (v := (1 : Int32)) d_L_law_251 (by decide) ?_
        refine v_iadd X.1 d_L_law_252 ?_
        obtain ⟨hb32, hf⟩ := oi_none hf
        refine v_sld X hbx hb32 d_L_law_253 ?_
        refine v_aload_n X.1 d_L_law_254 rfl 5 rfl ?_
        refine v_iload X.1 d_L_law_255 1 rfl ?_
        refine v_iconst X.1 (v := (2 : Int32)) d_L_law_257 (by decide) ?_
        refine v_iadd X.1 d_L_law_258 ?_
        obtain ⟨hb33, hf⟩ := oi_none hf
        refine v_sld X hbx hb33 d_L_law_259 ?_
        refine v_aload_n X.1 d_L_law_260 rfl 5 rfl ?_
        refine v_iload X.1 d_L_law_261 1 rfl ?_
        refine v_iconst X.1 (v := (3 : Int32)) d_L_law_263 (by decide) ?_
        refine v_iadd X.1 d_L_law_264 ?_
        obtain ⟨hb34, hf⟩ := oi_none hf
        refine v_sld X hbx hb34 d_L_law_265 ?_
        refine v_aload_n X.1 d_L_law_266 rfl 5 rfl ?_
        refine v_iload X.1 d_L_law_267 1 rfl ?_
        refine v_iconst X.1 (v := (4 : Int32)) d_L_law_269 (by decide) ?_
        refine v_iadd X.1 d_L_law_270 ?_
        obtain ⟨hb35, hf⟩ := oi_none hf
        refine v_sld X hbx hb35 d_L_law_271 ?_
        obtain ⟨r37, g38, hc36, hf⟩ := ob2_some hf
        refine v_backI X.1 (x_runV X (c_M_order l (xs (a4 + ((1 : Int32))).toNatClampNeg) (xs (a4 + ((2 : Int32))).toNatClampNeg) (xs (a4 + ((3 : Int32))).toNatClampNeg) (xs (a4 + ((4 : Int32))).toNatClampNeg) _ _ _ hc36) rfl tw_727 tw_57 tw_724 tw_725 tw_726 36 5 rfl rfl rfl ⟨rfl, rfl, by decide, by decide⟩ ⟨by decide, by show _ = some 4; decide⟩ (rest := []) rfl (Nat.le_of_ble_eq_true rfl) d_L_law_272 (by show _ ≤ 610214; omega) (by show _ ≤ 7265461; omega)) ?_
        refine v_istore X.1 (lv' := [(6, .int r37), (5, .int r30), (4, .int a4), (3, .ref (ad 58)), (2, .ref (ad 36)), (1, .ref (ad 0)), (0, .ref b)]) d_L_law_275 (by decide) rfl ?_
        refine v_aload_n X.1 d_L_law_277 rfl 4 rfl ?_
        obtain ⟨r40, g41, hc39, hf⟩ := ob2_some hf
        refine v_backI X.1 (x_runV X (c_M_thrown l _ _ _ hc39) rfl tw_716 tw_57 tw_713 tw_714 tw_715 36 5 rfl rfl rfl ⟨rfl, rfl, by decide, by decide⟩ ⟨by decide, by show _ = some 0; decide⟩ (rest := []) rfl (Nat.le_of_ble_eq_true rfl) d_L_law_278 (by show _ ≤ 610214; omega) (by show _ ≤ 7265461; omega)) ?_
        refine v_iload X.1 d_L_law_281 1 rfl ?_
        refine v_icmp_eq X.1 (tgt := 288) d_L_law_283 (by decide) (fun c42 => ?_) (fun c42 => ?_)
        · rw [if_pos c42] at hf
          refine v_iload X.1 d_L_law_288 1 rfl ?_
          refine v_if_ne X.1 (tgt := 305) d_L_law_290 (by decide) (fun c43 => ?_) (fun c43 => ?_)
          · rw [if_neg c43] at hf
            refine v_goto X.1 (tgt := 1132) d_L_law_305 (by decide) ?_
            refine v_iinc X.1 (k0 := 2) (v := a4 + (5 : Int32)) (lv' := [(4, .int (a4 + (5 : Int32))), (6, .int r37), (5, .int r30), (3, .ref (ad 58)), (2, .ref (ad 36)), (1, .ref (ad 0)), (0, .ref b)]) d_L_law_1132 rfl rfl (by decide) rfl ?_
            refine v_goto X.1 (tgt := 23) d_L_law_1135 (by decide) ?_
            refine v_sub [0, 3, 4, 5, 6] rfl ?_
            exact ih _ _ _ _ _ hf (by omega) (by omega)
          · rw [if_pos c43] at hf
            refine v_aload_n X.1 d_L_law_293 rfl 3 rfl ?_
            refine v_iconst X.1 (v := (0 : Int32)) d_L_law_294 (by decide) ?_
            refine v_lald X d_L_law_295 ?_
            refine v_iload X.1 d_L_law_296 0 rfl ?_
            refine v_i2l X.1 d_L_law_298 rfl ?_
            refine v_lcmp X d_L_law_299 ?_
            refine v_if_eq X.1 (tgt := 305) d_L_law_300 (by decide) (fun c44 => ?_) (fun c44 => ?_)
            · rw [if_pos c44] at hf
              refine v_goto X.1 (tgt := 1132) d_L_law_305 (by decide) ?_
              refine v_iinc X.1 (k0 := 2) (v := a4 + (5 : Int32)) (lv' := [(4, .int (a4 + (5 : Int32))), (6, .int r37), (5, .int r30), (3, .ref (ad 58)), (2, .ref (ad 36)), (1, .ref (ad 0)), (0, .ref b)]) d_L_law_1132 rfl rfl (by decide) rfl ?_
              refine v_goto X.1 (tgt := 23) d_L_law_1135 (by decide) ?_
              refine v_sub [0, 3, 4, 5, 6] rfl ?_
              exact ih _ _ _ _ _ hf (by omega) (by omega)
            · rw [if_neg c44] at hf
              refine v_iconst X.1 (v := (0 : Int32)) d_L_law_303 (by decide) ?_
              cases hf
        · rw [if_neg c42] at hf
          refine v_iconst X.1 (v := (0 : Int32)) d_L_law_286 (by decide) ?_
          cases hf
      rw [if_neg c24] at hf
      by_cases c45 : ((xs a4.toNatClampNeg) &&& ((31 : Int32))) = (2 : Int32)
      · rw [if_pos c45] at hf
        refine v_tin X (tgt := 308) d_L_law_39 (by rw [c45]; decide) (by rw [c45]; decide) (by rw [c45]; rfl) (by decide) ?_
        refine v_aload_n X.1 d_L_law_308 rfl 3 rfl ?_
        refine v_aload_n X.1 d_L_law_309 rfl 4 rfl ?_
        refine v_iload X.1 d_L_law_310 0 rfl ?_
        refine v_iconst X.1 (v := (1 : Int32)) d_L_law_312 (by decide) ?_
        refine v_iadd X.1 d_L_law_313 ?_
        obtain ⟨hb46, hf⟩ := oi_none hf
        refine v_sld X hbx hb46 d_L_law_314 ?_
        refine v_aload_n X.1 d_L_law_315 rfl 4 rfl ?_
        refine v_iload X.1 d_L_law_316 0 rfl ?_
        refine v_iconst X.1 (v := (2 : Int32)) d_L_law_318 (by decide) ?_
        refine v_iadd X.1 d_L_law_319 ?_
        obtain ⟨hb47, hf⟩ := oi_none hf
        refine v_sld X hbx hb47 d_L_law_320 ?_
        refine v_aload_n X.1 d_L_law_321 rfl 4 rfl ?_
        refine v_iload X.1 d_L_law_322 0 rfl ?_
        refine v_iconst X.1 (v := (3 : Int32)) d_L_law_324 (by decide) ?_
        refine v_iadd X.1 d_L_law_325 ?_
        obtain ⟨hb48, hf⟩ := oi_none hf
        refine v_sld X hbx hb48 d_L_law_326 ?_
        obtain ⟨r50, g51, hc49, hf⟩ := ob2_some hf
        refine v_backI X.1 (x_runH X (c_L_wants l hfl (xs (a4 + ((1 : Int32))).toNatClampNeg) (xs (a4 + ((2 : Int32))).toNatClampNeg) (xs (a4 + ((3 : Int32))).toNatClampNeg) _ _ _ hc49) tw_419 tw_51 tw_417 tw_418 ⟨rfl, rfl, by decide, by decide⟩ ⟨by decide, by show _ = some 4; decide⟩ (rest := []) rfl (Nat.le_of_ble_eq_true rfl) d_L_law_327 (by show _ ≤ 610214; omega) (by show _ ≤ 7265461; omega)) ?_
        refine v_istore X.1 (lv' := [(5, .int r50), (4, .int a4), (3, .ref (ad 58)), (2, .ref (ad 36)), (1, .ref (ad 0)), (0, .ref b)]) d_L_law_330 (by decide) rfl ?_
        refine v_aload_n X.1 d_L_law_332 rfl 3 rfl ?_
        refine v_aload_n X.1 d_L_law_333 rfl 5 rfl ?_
        refine v_iload X.1 d_L_law_334 1 rfl ?_
        refine v_iconst X.1 (v := (1 : Int32)) d_L_law_336 (by decide) ?_
        refine v_iadd X.1 d_L_law_337 ?_
        obtain ⟨hb52, hf⟩ := oi_none hf
        refine v_sld X hbx hb52 d_L_law_338 ?_
        refine v_aload_n X.1 d_L_law_339 rfl 5 rfl ?_
        refine v_iload X.1 d_L_law_340 1 rfl ?_
        refine v_iconst X.1 (v := (2 : Int32)) d_L_law_342 (by decide) ?_
        refine v_iadd X.1 d_L_law_343 ?_
        obtain ⟨hb53, hf⟩ := oi_none hf
        refine v_sld X hbx hb53 d_L_law_344 ?_
        refine v_aload_n X.1 d_L_law_345 rfl 5 rfl ?_
        refine v_iload X.1 d_L_law_346 1 rfl ?_
        refine v_iconst X.1 (v := (3 : Int32)) d_L_law_348 (by decide) ?_
        refine v_iadd X.1 d_L_law_349 ?_
        obtain ⟨hb54, hf⟩ := oi_none hf
        refine v_sld X hbx hb54 d_L_law_350 ?_
        obtain ⟨g57, hc55, hf⟩ := ob_some hf
        refine v_backV X.1 (x_runV X (c_M_wants l (xs (a4 + ((1 : Int32))).toNatClampNeg) (xs (a4 + ((2 : Int32))).toNatClampNeg) (xs (a4 + ((3 : Int32))).toNatClampNeg) _ _ hc55) rfl tw_731 tw_57 tw_728 tw_729 tw_730 36 5 rfl rfl rfl ⟨rfl, rfl, by decide, by decide⟩ ⟨by decide, by show _ = some 3; decide⟩ (rest := []) rfl (Nat.le_of_ble_eq_true rfl) d_L_law_351 (by show _ ≤ 610214; omega) (by show _ ≤ 7265461; omega)) ?_
        refine v_aload_n X.1 d_L_law_354 rfl 3 rfl ?_
        obtain ⟨r59, g60, hc58, hf⟩ := ob2_some hf
        refine v_backI X.1 (x_runV X (c_M_thrown l _ _ _ hc58) rfl tw_716 tw_57 tw_713 tw_714 tw_715 36 5 rfl rfl rfl ⟨rfl, rfl, by decide, by decide⟩ ⟨by decide, by show _ = some 0; decide⟩ (rest := []) rfl (Nat.le_of_ble_eq_true rfl) d_L_law_355 (by show _ ≤ 610214; omega) (by show _ ≤ 7265461; omega)) ?_
        refine v_iload X.1 d_L_law_358 0 rfl ?_
        refine v_icmp_eq X.1 (tgt := 365) d_L_law_360 (by decide) (fun c61 => ?_) (fun c61 => ?_)
        · rw [if_pos c61] at hf
          refine v_goto X.1 (tgt := 1132) d_L_law_365 (by decide) ?_
          refine v_iinc X.1 (k0 := 1) (v := a4 + (5 : Int32)) (lv' := [(4, .int (a4 + (5 : Int32))), (5, .int r50), (3, .ref (ad 58)), (2, .ref (ad 36)), (1, .ref (ad 0)), (0, .ref b)]) d_L_law_1132 rfl rfl (by decide) rfl ?_
          refine v_goto X.1 (tgt := 23) d_L_law_1135 (by decide) ?_
          refine v_sub [0, 2, 3, 4, 5] rfl ?_
          exact ih _ _ _ _ _ hf (by omega) (by omega)
        · rw [if_neg c61] at hf
          refine v_iconst X.1 (v := (0 : Int32)) d_L_law_363 (by decide) ?_
          cases hf
      rw [if_neg c45] at hf
      by_cases c62 : ((xs a4.toNatClampNeg) &&& ((31 : Int32))) = (3 : Int32)
      · rw [if_pos c62] at hf
        refine v_tin X (tgt := 368) d_L_law_39 (by rw [c62]; decide) (by rw [c62]; decide) (by rw [c62]; rfl) (by decide) ?_
        refine v_aload_n X.1 d_L_law_368 rfl 3 rfl ?_
        refine v_aload_n X.1 d_L_law_369 rfl 4 rfl ?_
        refine v_iload X.1 d_L_law_370 0 rfl ?_
        refine v_iconst X.1 (v := (1 : Int32)) d_L_law_372 (by decide) ?_
        refine v_iadd X.1 d_L_law_373 ?_
        obtain ⟨hb63, hf⟩ := oi_none hf
        refine v_sld X hbx hb63 d_L_law_374 ?_
        refine v_aload_n X.1 d_L_law_375 rfl 4 rfl ?_
        refine v_iload X.1 d_L_law_376 0 rfl ?_
        refine v_iconst X.1 (v := (2 : Int32)) d_L_law_378 (by decide) ?_
        refine v_iadd X.1 d_L_law_379 ?_
        obtain ⟨hb64, hf⟩ := oi_none hf
        refine v_sld X hbx hb64 d_L_law_380 ?_
        obtain ⟨r66, g67, hc65, hf⟩ := ob2_some hf
        refine v_backI X.1 (x_runH X (c_L_promised l hfl fu (xs (a4 + ((1 : Int32))).toNatClampNeg) (xs (a4 + ((2 : Int32))).toNatClampNeg) _ _ _ hc65) tw_446 tw_51 tw_444 tw_445 ⟨rfl, rfl, by decide, by decide⟩ ⟨by decide, by show _ = some 3; decide⟩ (rest := []) rfl (Nat.le_of_ble_eq_true rfl) d_L_law_381 (by show _ ≤ 610214; omega) (by show _ ≤ 7265461; omega)) ?_
        refine v_istore X.1 (lv' := [(5, .int r66), (4, .int a4), (3, .ref (ad 58)), (2, .ref (ad 36)), (1, .ref (ad 0)), (0, .ref b)]) d_L_law_384 (by decide) rfl ?_
        refine v_aload_n X.1 d_L_law_386 rfl 3 rfl ?_
        refine v_aload_n X.1 d_L_law_387 rfl 5 rfl ?_
        refine v_iload X.1 d_L_law_388 1 rfl ?_
        refine v_iconst X.1 (v := (1 : Int32)) d_L_law_390 (by decide) ?_
        refine v_iadd X.1 d_L_law_391 ?_
        obtain ⟨hb68, hf⟩ := oi_none hf
        refine v_sld X hbx hb68 d_L_law_392 ?_
        refine v_aload_n X.1 d_L_law_393 rfl 5 rfl ?_
        refine v_iload X.1 d_L_law_394 1 rfl ?_
        refine v_iconst X.1 (v := (2 : Int32)) d_L_law_396 (by decide) ?_
        refine v_iadd X.1 d_L_law_397 ?_
        obtain ⟨hb69, hf⟩ := oi_none hf
        refine v_sld X hbx hb69 d_L_law_398 ?_
        obtain ⟨g72, hc70, hf⟩ := ob_some hf
        refine v_backV X.1 (x_runV X (c_M_promised l fu (xs (a4 + ((1 : Int32))).toNatClampNeg) (xs (a4 + ((2 : Int32))).toNatClampNeg) _ _ hc70) rfl tw_739 tw_57 tw_736 tw_737 tw_738 36 5 rfl rfl rfl ⟨rfl, rfl, by decide, by decide⟩ ⟨by decide, by show _ = some 2; decide⟩ (rest := []) rfl (Nat.le_of_ble_eq_true rfl) d_L_law_399 (by show _ ≤ 610214; omega) (by show _ ≤ 7265461; omega)) ?_
        refine v_aload_n X.1 d_L_law_402 rfl 3 rfl ?_
        obtain ⟨r74, g75, hc73, hf⟩ := ob2_some hf
        refine v_backI X.1 (x_runV X (c_M_thrown l _ _ _ hc73) rfl tw_716 tw_57 tw_713 tw_714 tw_715 36 5 rfl rfl rfl ⟨rfl, rfl, by decide, by decide⟩ ⟨by decide, by show _ = some 0; decide⟩ (rest := []) rfl (Nat.le_of_ble_eq_true rfl) d_L_law_403 (by show _ ≤ 610214; omega) (by show _ ≤ 7265461; omega)) ?_
        refine v_iload X.1 d_L_law_406 0 rfl ?_
        refine v_icmp_eq X.1 (tgt := 413) d_L_law_408 (by decide) (fun c76 => ?_) (fun c76 => ?_)
        · rw [if_pos c76] at hf
          refine v_goto X.1 (tgt := 1132) d_L_law_413 (by decide) ?_
          refine v_iinc X.1 (k0 := 1) (v := a4 + (5 : Int32)) (lv' := [(4, .int (a4 + (5 : Int32))), (5, .int r66), (3, .ref (ad 58)), (2, .ref (ad 36)), (1, .ref (ad 0)), (0, .ref b)]) d_L_law_1132 rfl rfl (by decide) rfl ?_
          refine v_goto X.1 (tgt := 23) d_L_law_1135 (by decide) ?_
          refine v_sub [0, 2, 3, 4, 5] rfl ?_
          exact ih _ _ _ _ _ hf (by omega) (by omega)
        · rw [if_neg c76] at hf
          refine v_iconst X.1 (v := (0 : Int32)) d_L_law_411 (by decide) ?_
          cases hf
      rw [if_neg c62] at hf
      by_cases c77 : ((xs a4.toNatClampNeg) &&& ((31 : Int32))) = (4 : Int32)
      · rw [if_pos c77] at hf
        refine v_tin X (tgt := 416) d_L_law_39 (by rw [c77]; decide) (by rw [c77]; decide) (by rw [c77]; rfl) (by decide) ?_
        refine v_aload_n X.1 d_L_law_416 rfl 3 rfl ?_
        refine v_aload_n X.1 d_L_law_417 rfl 4 rfl ?_
        refine v_iload X.1 d_L_law_418 0 rfl ?_
        refine v_iconst X.1 (v := (1 : Int32)) d_L_law_420 (by decide) ?_
        refine v_iadd X.1 d_L_law_421 ?_
        obtain ⟨hb78, hf⟩ := oi_none hf
        refine v_sld X hbx hb78 d_L_law_422 ?_
        refine v_aload_n X.1 d_L_law_423 rfl 4 rfl ?_
        refine v_iload X.1 d_L_law_424 0 rfl ?_
        refine v_iconst X.1 (v := (2 : Int32)) d_L_law_426 (by decide) ?_
        refine v_iadd X.1 d_L_law_427 ?_
        obtain ⟨hb79, hf⟩ := oi_none hf
        refine v_sld X hbx hb79 d_L_law_428 ?_
        refine v_aload_n X.1 d_L_law_429 rfl 4 rfl ?_
        refine v_iload X.1 d_L_law_430 0 rfl ?_
        refine v_iconst X.1 (v := (3 : Int32)) d_L_law_432 (by decide) ?_
        refine v_iadd X.1 d_L_law_433 ?_
        obtain ⟨hb80, hf⟩ := oi_none hf
        refine v_sld X hbx hb80 d_L_law_434 ?_
        refine v_if_eq X.1 (tgt := 442) d_L_law_435 (by decide) (fun c81 => ?_) (fun c81 => ?_)
        · rw [if_pos c81] at hf
          refine v_iconst X.1 (v := (0 : Int32)) d_L_law_442 (by decide) ?_
          refine v_aload_n X.1 d_L_law_443 rfl 1 rfl ?_
          obtain ⟨r83, g84, hc82, hf⟩ := ob2_some hf
          refine v_backI X.1 (x_runH X (c_L_rule l hfl (xs (a4 + ((1 : Int32))).toNatClampNeg) (xs (a4 + ((2 : Int32))).toNatClampNeg) ((0 : Int32)) _ _ _ hc82) tw_474 tw_51 tw_472 tw_473 ⟨rfl, rfl, by decide, by decide⟩ ⟨by decide, by show _ = some 5; decide⟩ (rest := []) rfl (Nat.le_of_ble_eq_true rfl) d_L_law_444 (by show _ ≤ 610214; omega) (by show _ ≤ 7265461; omega)) ?_
          refine v_istore X.1 (lv' := [(5, .int r83), (4, .int a4), (3, .ref (ad 58)), (2, .ref (ad 36)), (1, .ref (ad 0)), (0, .ref b)]) d_L_law_447 (by decide) rfl ?_
          refine v_aload_n X.1 d_L_law_449 rfl 3 rfl ?_
          refine v_aload_n X.1 d_L_law_450 rfl 5 rfl ?_
          refine v_iload X.1 d_L_law_451 1 rfl ?_
          refine v_iconst X.1 (v := (1 : Int32)) d_L_law_453 (by decide) ?_
          refine v_iadd X.1 d_L_law_454 ?_
          obtain ⟨hb85, hf⟩ := oi_none hf
          refine v_sld X hbx hb85 d_L_law_455 ?_
          refine v_aload_n X.1 d_L_law_456 rfl 5 rfl ?_
          refine v_iload X.1 d_L_law_457 1 rfl ?_
          refine v_iconst X.1 (v := (2 : Int32)) d_L_law_459 (by decide) ?_
          refine v_iadd X.1 d_L_law_460 ?_
          obtain ⟨hb86, hf⟩ := oi_none hf
          refine v_sld X hbx hb86 d_L_law_461 ?_
          refine v_aload_n X.1 d_L_law_462 rfl 5 rfl ?_
          refine v_iload X.1 d_L_law_463 1 rfl ?_
          refine v_iconst X.1 (v := (3 : Int32)) d_L_law_465 (by decide) ?_
          refine v_iadd X.1 d_L_law_466 ?_
          obtain ⟨hb87, hf⟩ := oi_none hf
          refine v_sld X hbx hb87 d_L_law_467 ?_
          refine v_if_eq X.1 (tgt := 475) d_L_law_468 (by decide) (fun c88 => ?_) (fun c88 => ?_)
          · rw [if_pos c88] at hf
            refine v_iconst X.1 (v := (0 : Int32)) d_L_law_475 (by decide) ?_
            obtain ⟨r90, g91, hc89, hf⟩ := ob2_some hf
            refine v_backI X.1 (x_runV X (c_M_rule l (xs (a4 + ((1 : Int32))).toNatClampNeg) (xs (a4 + ((2 : Int32))).toNatClampNeg) ((0 : Int32)) _ _ _ hc89) rfl tw_751 tw_57 tw_748 tw_749 tw_750 36 5 rfl rfl rfl ⟨rfl, rfl, by decide, by decide⟩ ⟨by decide, by show _ = some 3; decide⟩ (rest := []) rfl (Nat.le_of_ble_eq_true rfl) d_L_law_476 (by show _ ≤ 610214; omega) (by show _ ≤ 7265461; omega)) ?_
            refine v_istore X.1 (lv' := [(6, .int r90), (5, .int r83), (4, .int a4), (3, .ref (ad 58)), (2, .ref (ad 36)), (1, .ref (ad 0)), (0, .ref b)]) d_L_law_479 (by decide) rfl ?_
            refine v_aload_n X.1 d_L_law_481 rfl 4 rfl ?_
            obtain ⟨r93, g94, hc92, hf⟩ := ob2_some hf
            refine v_backI X.1 (x_runV X (c_M_thrown l _ _ _ hc92) rfl tw_716 tw_57 tw_713 tw_714 tw_715 36 5 rfl rfl rfl ⟨rfl, rfl, by decide, by decide⟩ ⟨by decide, by show _ = some 0; decide⟩ (rest := []) rfl (Nat.le_of_ble_eq_true rfl) d_L_law_482 (by show _ ≤ 610214; omega) (by show _ ≤ 7265461; omega)) ?_
            refine v_iload X.1 d_L_law_485 1 rfl ?_
            refine v_icmp_eq X.1 (tgt := 492) d_L_law_487 (by decide) (fun c95 => ?_) (fun c95 => ?_)
            · rw [if_pos c95] at hf
              refine v_iload X.1 d_L_law_492 1 rfl ?_
              refine v_if_ne X.1 (tgt := 516) d_L_law_494 (by decide) (fun c96 => ?_) (fun c96 => ?_)
              · rw [if_neg c96] at hf
                refine v_goto X.1 (tgt := 1132) d_L_law_516 (by decide) ?_
                refine v_iinc X.1 (k0 := 2) (v := a4 + (5 : Int32)) (lv' := [(4, .int (a4 + (5 : Int32))), (6, .int r90), (5, .int r83), (3, .ref (ad 58)), (2, .ref (ad 36)), (1, .ref (ad 0)), (0, .ref b)]) d_L_law_1132 rfl rfl (by decide) rfl ?_
                refine v_goto X.1 (tgt := 23) d_L_law_1135 (by decide) ?_
                refine v_sub [0, 3, 4, 5, 6] rfl ?_
                exact ih _ _ _ _ _ hf (by omega) (by omega)
              · rw [if_pos c96] at hf
                refine v_aload_n X.1 d_L_law_497 rfl 3 rfl ?_
                refine v_iconst X.1 (v := (0 : Int32)) d_L_law_498 (by decide) ?_
                refine v_lald X d_L_law_499 ?_
                refine v_iload X.1 d_L_law_500 0 rfl ?_
                refine v_if_eq X.1 (tgt := 509) d_L_law_502 (by decide) (fun c97 => ?_) (fun c97 => ?_)
                · rw [if_pos c97] at hf
                  refine v_lconst X (v := (0 : Int32).toInt64) d_L_law_509 (by decide) ?_
                  refine v_lcmp X d_L_law_510 ?_
                  refine v_if_eq X.1 (tgt := 516) d_L_law_511 (by decide) (fun c98 => ?_) (fun c98 => ?_)
                  · rw [if_pos c98] at hf
                    refine v_goto X.1 (tgt := 1132) d_L_law_516 (by decide) ?_
                    refine v_iinc X.1 (k0 := 2) (v := a4 + (5 : Int32)) (lv' := [(4, .int (a4 + (5 : Int32))), (6, .int r90), (5, .int r83), (3, .ref (ad 58)), (2, .ref (ad 36)), (1, .ref (ad 0)), (0, .ref b)]) d_L_law_1132 rfl rfl (by decide) rfl ?_
                    refine v_goto X.1 (tgt := 23) d_L_law_1135 (by decide) ?_
                    refine v_sub [0, 3, 4, 5, 6] rfl ?_
                    exact ih _ _ _ _ _ hf (by omega) (by omega)
                  · rw [if_neg c98] at hf
                    refine v_iconst X.1 (v := (0 : Int32)) d_L_law_514 (by decide) ?_
                    cases hf
                · rw [if_neg c97] at hf
                  refine v_lconst X (v := (1 : Int32).toInt64) d_L_law_505 (by decide) ?_
                  refine v_goto X.1 (tgt := 510) d_L_law_506 (by decide) ?_
                  refine v_lcmp X d_L_law_510 ?_
                  refine v_if_eq X.1 (tgt := 516) d_L_law_511 (by decide) (fun c99 => ?_) (fun c99 => ?_)
                  · rw [if_pos c99] at hf
                    refine v_goto X.1 (tgt := 1132) d_L_law_516 (by decide) ?_
                    refine v_iinc X.1 (k0 := 2) (v := a4 + (5 : Int32)) (lv' := [(4, .int (a4 + (5 : Int32))), (6, .int r90), (5, .int r83), (3, .ref (ad 58)), (2, .ref (ad 36)), (1, .ref (ad 0)), (0, .ref b)]) d_L_law_1132 rfl rfl (by decide) rfl ?_
                    refine v_goto X.1 (tgt := 23) d_L_law_1135 (by decide) ?_
                    refine v_sub [0, 3, 4, 5, 6] rfl ?_
                    exact ih _ _ _ _ _ hf (by omega) (by omega)
                  · rw [if_neg c99] at hf
                    refine v_iconst X.1 (v := (0 : Int32)) d_L_law_514 (by decide) ?_
                    cases hf
            · rw [if_neg c95] at hf
              refine v_iconst X.1 (v := (0 : Int32)) d_L_law_490 (by decide) ?_
              cases hf
          · rw [if_neg c88] at hf
            refine v_iconst X.1 (v := (1 : Int32)) d_L_law_471 (by decide) ?_
            refine v_goto X.1 (tgt := 476) d_L_law_472 (by decide) ?_
            obtain ⟨r101, g102, hc100, hf⟩ := ob2_some hf
            refine v_backI X.1 (x_runV X (c_M_rule l (xs (a4 + ((1 : Int32))).toNatClampNeg) (xs (a4 + ((2 : Int32))).toNatClampNeg) ((1 : Int32)) _ _ _ hc100) rfl tw_751 tw_57 tw_748 tw_749 tw_750 36 5 rfl rfl rfl ⟨rfl, rfl, by decide, by decide⟩ ⟨by decide, by show _ = some 3; decide⟩ (rest := []) rfl (Nat.le_of_ble_eq_true rfl) d_L_law_476 (by show _ ≤ 610214; omega) (by show _ ≤ 7265461; omega)) ?_
            refine v_istore X.1 (lv' := [(6, .int r101), (5, .int r83), (4, .int a4), (3, .ref (ad 58)), (2, .ref (ad 36)), (1, .ref (ad 0)), (0, .ref b)]) d_L_law_479 (by decide) rfl ?_
            refine v_aload_n X.1 d_L_law_481 rfl 4 rfl ?_
            obtain ⟨r104, g105, hc103, hf⟩ := ob2_some hf
            refine v_backI X.1 (x_runV X (c_M_thrown l _ _ _ hc103) rfl tw_716 tw_57 tw_713 tw_714 tw_715 36 5 rfl rfl rfl ⟨rfl, rfl, by decide, by decide⟩ ⟨by decide, by show _ = some 0; decide⟩ (rest := []) rfl (Nat.le_of_ble_eq_true rfl) d_L_law_482 (by show _ ≤ 610214; omega) (by show _ ≤ 7265461; omega)) ?_
            refine v_iload X.1 d_L_law_485 1 rfl ?_
            refine v_icmp_eq X.1 (tgt := 492) d_L_law_487 (by decide) (fun c106 => ?_) (fun c106 => ?_)
            · rw [if_pos c106] at hf
              refine v_iload X.1 d_L_law_492 1 rfl ?_
              refine v_if_ne X.1 (tgt := 516) d_L_law_494 (by decide) (fun c107 => ?_) (fun c107 => ?_)
              · rw [if_neg c107] at hf
                refine v_goto X.1 (tgt := 1132) d_L_law_516 (by decide) ?_
                refine v_iinc X.1 (k0 := 2) (v := a4 + (5 : Int32)) (lv' := [(4, .int (a4 + (5 : Int32))), (6, .int r101), (5, .int r83), (3, .ref (ad 58)), (2, .ref (ad 36)), (1, .ref (ad 0)), (0, .ref b)]) d_L_law_1132 rfl rfl (by decide) rfl ?_
                refine v_goto X.1 (tgt := 23) d_L_law_1135 (by decide) ?_
                refine v_sub [0, 3, 4, 5, 6] rfl ?_
                exact ih _ _ _ _ _ hf (by omega) (by omega)
              · rw [if_pos c107] at hf
                refine v_aload_n X.1 d_L_law_497 rfl 3 rfl ?_
                refine v_iconst X.1 (v := (0 : Int32)) d_L_law_498 (by decide) ?_
                refine v_lald X d_L_law_499 ?_
                refine v_iload X.1 d_L_law_500 0 rfl ?_
                refine v_if_eq X.1 (tgt := 509) d_L_law_502 (by decide) (fun c108 => ?_) (fun c108 => ?_)
                · rw [if_pos c108] at hf
                  refine v_lconst X (v := (0 : Int32).toInt64) d_L_law_509 (by decide) ?_
                  refine v_lcmp X d_L_law_510 ?_
                  refine v_if_eq X.1 (tgt := 516) d_L_law_511 (by decide) (fun c109 => ?_) (fun c109 => ?_)
                  · rw [if_pos c109] at hf
                    refine v_goto X.1 (tgt := 1132) d_L_law_516 (by decide) ?_
                    refine v_iinc X.1 (k0 := 2) (v := a4 + (5 : Int32)) (lv' := [(4, .int (a4 + (5 : Int32))), (6, .int r101), (5, .int r83), (3, .ref (ad 58)), (2, .ref (ad 36)), (1, .ref (ad 0)), (0, .ref b)]) d_L_law_1132 rfl rfl (by decide) rfl ?_
                    refine v_goto X.1 (tgt := 23) d_L_law_1135 (by decide) ?_
                    refine v_sub [0, 3, 4, 5, 6] rfl ?_
                    exact ih _ _ _ _ _ hf (by omega) (by omega)
                  · rw [if_neg c109] at hf
                    refine v_iconst X.1 (v := (0 : Int32)) d_L_law_514 (by decide) ?_
                    cases hf
                · rw [if_neg c108] at hf
                  refine v_lconst X (v := (1 : Int32).toInt64) d_L_law_505 (by decide) ?_
                  refine v_goto X.1 (tgt := 510) d_L_law_506 (by decide) ?_
                  refine v_lcmp X d_L_law_510 ?_
                  refine v_if_eq X.1 (tgt := 516) d_L_law_511 (by decide) (fun c110 => ?_) (fun c110 => ?_)
                  · rw [if_pos c110] at hf
                    refine v_goto X.1 (tgt := 1132) d_L_law_516 (by decide) ?_
                    refine v_iinc X.1 (k0 := 2) (v := a4 + (5 : Int32)) (lv' := [(4, .int (a4 + (5 : Int32))), (6, .int r101), (5, .int r83), (3, .ref (ad 58)), (2, .ref (ad 36)), (1, .ref (ad 0)), (0, .ref b)]) d_L_law_1132 rfl rfl (by decide) rfl ?_
                    refine v_goto X.1 (tgt := 23) d_L_law_1135 (by decide) ?_
                    refine v_sub [0, 3, 4, 5, 6] rfl ?_
                    exact ih _ _ _ _ _ hf (by omega) (by omega)
                  · rw [if_neg c110] at hf
                    refine v_iconst X.1 (v := (0 : Int32)) d_L_law_514 (by decide) ?_
                    cases hf
            · rw [if_neg c106] at hf
              refine v_iconst X.1 (v := (0 : Int32)) d_L_law_490 (by decide) ?_
              cases hf
        · rw [if_neg c81] at hf
          refine v_iconst X.1 (v := (1 : Int32)) d_L_law_438 (by decide) ?_
          refine v_goto X.1 (tgt := 443) d_L_law_439 (by decide) ?_
          refine v_aload_n X.1 d_L_law_443 rfl 1 rfl ?_
          obtain ⟨r112, g113, hc111, hf⟩ := ob2_some hf
          refine v_backI X.1 (x_runH X (c_L_rule l hfl (xs (a4 + ((1 : Int32))).toNatClampNeg) (xs (a4 + ((2 : Int32))).toNatClampNeg) ((1 : Int32)) _ _ _ hc111) tw_474 tw_51 tw_472 tw_473 ⟨rfl, rfl, by decide, by decide⟩ ⟨by decide, by show _ = some 5; decide⟩ (rest := []) rfl (Nat.le_of_ble_eq_true rfl) d_L_law_444 (by show _ ≤ 610214; omega) (by show _ ≤ 7265461; omega)) ?_
          refine v_istore X.1 (lv' := [(5, .int r112), (4, .int a4), (3, .ref (ad 58)), (2, .ref (ad 36)), (1, .ref (ad 0)), (0, .ref b)]) d_L_law_447 (by decide) rfl ?_
          refine v_aload_n X.1 d_L_law_449 rfl 3 rfl ?_
          refine v_aload_n X.1 d_L_law_450 rfl 5 rfl ?_
          refine v_iload X.1 d_L_law_451 1 rfl ?_
          refine v_iconst X.1 (v := (1 : Int32)) d_L_law_453 (by decide) ?_
          refine v_iadd X.1 d_L_law_454 ?_
          obtain ⟨hb114, hf⟩ := oi_none hf
          refine v_sld X hbx hb114 d_L_law_455 ?_
          refine v_aload_n X.1 d_L_law_456 rfl 5 rfl ?_
          refine v_iload X.1 d_L_law_457 1 rfl ?_
          refine v_iconst X.1 (v := (2 : Int32)) d_L_law_459 (by decide) ?_
          refine v_iadd X.1 d_L_law_460 ?_
          obtain ⟨hb115, hf⟩ := oi_none hf
          refine v_sld X hbx hb115 d_L_law_461 ?_
          refine v_aload_n X.1 d_L_law_462 rfl 5 rfl ?_
          refine v_iload X.1 d_L_law_463 1 rfl ?_
          refine v_iconst X.1 (v := (3 : Int32)) d_L_law_465 (by decide) ?_
          refine v_iadd X.1 d_L_law_466 ?_
          obtain ⟨hb116, hf⟩ := oi_none hf
          refine v_sld X hbx hb116 d_L_law_467 ?_
          refine v_if_eq X.1 (tgt := 475) d_L_law_468 (by decide) (fun c117 => ?_) (fun c117 => ?_)
          · rw [if_pos c117] at hf
            refine v_iconst X.1 (v := (0 : Int32)) d_L_law_475 (by decide) ?_
            obtain ⟨r119, g120, hc118, hf⟩ := ob2_some hf
            refine v_backI X.1 (x_runV X (c_M_rule l (xs (a4 + ((1 : Int32))).toNatClampNeg) (xs (a4 + ((2 : Int32))).toNatClampNeg) ((0 : Int32)) _ _ _ hc118) rfl tw_751 tw_57 tw_748 tw_749 tw_750 36 5 rfl rfl rfl ⟨rfl, rfl, by decide, by decide⟩ ⟨by decide, by show _ = some 3; decide⟩ (rest := []) rfl (Nat.le_of_ble_eq_true rfl) d_L_law_476 (by show _ ≤ 610214; omega) (by show _ ≤ 7265461; omega)) ?_
            refine v_istore X.1 (lv' := [(6, .int r119), (5, .int r112), (4, .int a4), (3, .ref (ad 58)), (2, .ref (ad 36)), (1, .ref (ad 0)), (0, .ref b)]) d_L_law_479 (by decide) rfl ?_
            refine v_aload_n X.1 d_L_law_481 rfl 4 rfl ?_
            obtain ⟨r122, g123, hc121, hf⟩ := ob2_some hf
            refine v_backI X.1 (x_runV X (c_M_thrown l _ _ _ hc121) rfl tw_716 tw_57 tw_713 tw_714 tw_715 36 5 rfl rfl rfl ⟨rfl, rfl, by decide, by decide⟩ ⟨by decide, by show _ = some 0; decide⟩ (rest := []) rfl (Nat.le_of_ble_eq_true rfl) d_L_law_482 (by show _ ≤ 610214; omega) (by show _ ≤ 7265461; omega)) ?_
            refine v_iload X.1 d_L_law_485 1 rfl ?_
            refine v_icmp_eq X.1 (tgt := 492) d_L_law_487 (by decide) (fun c124 => ?_) (fun c124 => ?_)
            · rw [if_pos c124] at hf
              refine v_iload X.1 d_L_law_492 1 rfl ?_
              refine v_if_ne X.1 (tgt := 516) d_L_law_494 (by decide) (fun c125 => ?_) (fun c125 => ?_)
              · rw [if_neg c125] at hf
                refine v_goto X.1 (tgt := 1132) d_L_law_516 (by decide) ?_
                refine v_iinc X.1 (k0 := 2) (v := a4 + (5 : Int32)) (lv' := [(4, .int (a4 + (5 : Int32))), (6, .int r119), (5, .int r112), (3, .ref (ad 58)), (2, .ref (ad 36)), (1, .ref (ad 0)), (0, .ref b)]) d_L_law_1132 rfl rfl (by decide) rfl ?_
                refine v_goto X.1 (tgt := 23) d_L_law_1135 (by decide) ?_
                refine v_sub [0, 3, 4, 5, 6] rfl ?_
                exact ih _ _ _ _ _ hf (by omega) (by omega)
              · rw [if_pos c125] at hf
                refine v_aload_n X.1 d_L_law_497 rfl 3 rfl ?_
                refine v_iconst X.1 (v := (0 : Int32)) d_L_law_498 (by decide) ?_
                refine v_lald X d_L_law_499 ?_
                refine v_iload X.1 d_L_law_500 0 rfl ?_
                refine v_if_eq X.1 (tgt := 509) d_L_law_502 (by decide) (fun c126 => ?_) (fun c126 => ?_)
                · rw [if_pos c126] at hf
                  refine v_lconst X (v := (0 : Int32).toInt64) d_L_law_509 (by decide) ?_
                  refine v_lcmp X d_L_law_510 ?_
                  refine v_if_eq X.1 (tgt := 516) d_L_law_511 (by decide) (fun c127 => ?_) (fun c127 => ?_)
                  · rw [if_pos c127] at hf
                    refine v_goto X.1 (tgt := 1132) d_L_law_516 (by decide) ?_
                    refine v_iinc X.1 (k0 := 2) (v := a4 + (5 : Int32)) (lv' := [(4, .int (a4 + (5 : Int32))), (6, .int r119), (5, .int r112), (3, .ref (ad 58)), (2, .ref (ad 36)), (1, .ref (ad 0)), (0, .ref b)]) d_L_law_1132 rfl rfl (by decide) rfl ?_
                    refine v_goto X.1 (tgt := 23) d_L_law_1135 (by decide) ?_
                    refine v_sub [0, 3, 4, 5, 6] rfl ?_
                    exact ih _ _ _ _ _ hf (by omega) (by omega)
                  · rw [if_neg c127] at hf
                    refine v_iconst X.1 (v := (0 : Int32)) d_L_law_514 (by decide) ?_
                    cases hf
                · rw [if_neg c126] at hf
                  refine v_lconst X (v := (1 : Int32).toInt64) d_L_law_505 (by decide) ?_
                  refine v_goto X.1 (tgt := 510) d_L_law_506 (by decide) ?_
                  refine v_lcmp X d_L_law_510 ?_
                  refine v_if_eq X.1 (tgt := 516) d_L_law_511 (by decide) (fun c128 => ?_) (fun c128 => ?_)
                  · rw [if_pos c128] at hf
                    refine v_goto X.1 (tgt := 1132) d_L_law_516 (by decide) ?_
                    refine v_iinc X.1 (k0 := 2) (v := a4 + (5 : Int32)) (lv' := [(4, .int (a4 + (5 : Int32))), (6, .int r119), (5, .int r112), (3, .ref (ad 58)), (2, .ref (ad 36)), (1, .ref (ad 0)), (0, .ref b)]) d_L_law_1132 rfl rfl (by decide) rfl ?_
                    refine v_goto X.1 (tgt := 23) d_L_law_1135 (by decide) ?_
                    refine v_sub [0, 3, 4, 5, 6] rfl ?_
                    exact ih _ _ _ _ _ hf (by omega) (by omega)
                  · rw [if_neg c128] at hf
                    refine v_iconst X.1 (v := (0 : Int32)) d_L_law_514 (by decide) ?_
                    cases hf
            · rw [if_neg c124] at hf
              refine v_iconst X.1 (v := (0 : Int32)) d_L_law_490 (by decide) ?_
              cases hf
          · rw [if_neg c117] at hf
            refine v_iconst X.1 (v := (1 : Int32)) d_L_law_471 (by decide) ?_
            refine v_goto X.1 (tgt := 476) d_L_law_472 (by decide) ?_
            obtain ⟨r130, g131, hc129, hf⟩ := ob2_some hf
            refine v_backI X.1 (x_runV X (c_M_rule l (xs (a4 + ((1 : Int32))).toNatClampNeg) (xs (a4 + ((2 : Int32))).toNatClampNeg) ((1 : Int32)) _ _ _ hc129) rfl tw_751 tw_57 tw_748 tw_749 tw_750 36 5 rfl rfl rfl ⟨rfl, rfl, by decide, by decide⟩ ⟨by decide, by show _ = some 3; decide⟩ (rest := []) rfl (Nat.le_of_ble_eq_true rfl) d_L_law_476 (by show _ ≤ 610214; omega) (by show _ ≤ 7265461; omega)) ?_
            refine v_istore X.1 (lv' := [(6, .int r130), (5, .int r112), (4, .int a4), (3, .ref (ad 58)), (2, .ref (ad 36)), (1, .ref (ad 0)), (0, .ref b)]) d_L_law_479 (by decide) rfl ?_
            refine v_aload_n X.1 d_L_law_481 rfl 4 rfl ?_
            obtain ⟨r133, g134, hc132, hf⟩ := ob2_some hf
            refine v_backI X.1 (x_runV X (c_M_thrown l _ _ _ hc132) rfl tw_716 tw_57 tw_713 tw_714 tw_715 36 5 rfl rfl rfl ⟨rfl, rfl, by decide, by decide⟩ ⟨by decide, by show _ = some 0; decide⟩ (rest := []) rfl (Nat.le_of_ble_eq_true rfl) d_L_law_482 (by show _ ≤ 610214; omega) (by show _ ≤ 7265461; omega)) ?_
            refine v_iload X.1 d_L_law_485 1 rfl ?_
            refine v_icmp_eq X.1 (tgt := 492) d_L_law_487 (by decide) (fun c135 => ?_) (fun c135 => ?_)
            · rw [if_pos c135] at hf
              refine v_iload X.1 d_L_law_492 1 rfl ?_
              refine v_if_ne X.1 (tgt := 516) d_L_law_494 (by decide) (fun c136 => ?_) (fun c136 => ?_)
              · rw [if_neg c136] at hf
                refine v_goto X.1 (tgt := 1132) d_L_law_516 (by decide) ?_
                refine v_iinc X.1 (k0 := 2) (v := a4 + (5 : Int32)) (lv' := [(4, .int (a4 + (5 : Int32))), (6, .int r130), (5, .int r112), (3, .ref (ad 58)), (2, .ref (ad 36)), (1, .ref (ad 0)), (0, .ref b)]) d_L_law_1132 rfl rfl (by decide) rfl ?_
                refine v_goto X.1 (tgt := 23) d_L_law_1135 (by decide) ?_
                refine v_sub [0, 3, 4, 5, 6] rfl ?_
                exact ih _ _ _ _ _ hf (by omega) (by omega)
              · rw [if_pos c136] at hf
                refine v_aload_n X.1 d_L_law_497 rfl 3 rfl ?_
                refine v_iconst X.1 (v := (0 : Int32)) d_L_law_498 (by decide) ?_
                refine v_lald X d_L_law_499 ?_
                refine v_iload X.1 d_L_law_500 0 rfl ?_
                refine v_if_eq X.1 (tgt := 509) d_L_law_502 (by decide) (fun c137 => ?_) (fun c137 => ?_)
                · rw [if_pos c137] at hf
                  refine v_lconst X (v := (0 : Int32).toInt64) d_L_law_509 (by decide) ?_
                  refine v_lcmp X d_L_law_510 ?_
                  refine v_if_eq X.1 (tgt := 516) d_L_law_511 (by decide) (fun c138 => ?_) (fun c138 => ?_)
                  · rw [if_pos c138] at hf
                    refine v_goto X.1 (tgt := 1132) d_L_law_516 (by decide) ?_
                    refine v_iinc X.1 (k0 := 2) (v := a4 + (5 : Int32)) (lv' := [(4, .int (a4 + (5 : Int32))), (6, .int r130), (5, .int r112), (3, .ref (ad 58)), (2, .ref (ad 36)), (1, .ref (ad 0)), (0, .ref b)]) d_L_law_1132 rfl rfl (by decide) rfl ?_
                    refine v_goto X.1 (tgt := 23) d_L_law_1135 (by decide) ?_
                    refine v_sub [0, 3, 4, 5, 6] rfl ?_
                    exact ih _ _ _ _ _ hf (by omega) (by omega)
                  · rw [if_neg c138] at hf
                    refine v_iconst X.1 (v := (0 : Int32)) d_L_law_514 (by decide) ?_
                    cases hf
                · rw [if_neg c137] at hf
                  refine v_lconst X (v := (1 : Int32).toInt64) d_L_law_505 (by decide) ?_
                  refine v_goto X.1 (tgt := 510) d_L_law_506 (by decide) ?_
                  refine v_lcmp X d_L_law_510 ?_
                  refine v_if_eq X.1 (tgt := 516) d_L_law_511 (by decide) (fun c139 => ?_) (fun c139 => ?_)
                  · rw [if_pos c139] at hf
                    refine v_goto X.1 (tgt := 1132) d_L_law_516 (by decide) ?_
                    refine v_iinc X.1 (k0 := 2) (v := a4 + (5 : Int32)) (lv' := [(4, .int (a4 + (5 : Int32))), (6, .int r130), (5, .int r112), (3, .ref (ad 58)), (2, .ref (ad 36)), (1, .ref (ad 0)), (0, .ref b)]) d_L_law_1132 rfl rfl (by decide) rfl ?_
                    refine v_goto X.1 (tgt := 23) d_L_law_1135 (by decide) ?_
                    refine v_sub [0, 3, 4, 5, 6] rfl ?_
                    exact ih _ _ _ _ _ hf (by omega) (by omega)
                  · rw [if_neg c139] at hf
                    refine v_iconst X.1 (v := (0 : Int32)) d_L_law_514 (by decide) ?_
                    cases hf
            · rw [if_neg c135] at hf
              refine v_iconst X.1 (v := (0 : Int32)) d_L_law_490 (by decide) ?_
              cases hf
      rw [if_neg c77] at hf
      by_cases c140 : ((xs a4.toNatClampNeg) &&& ((31 : Int32))) = (5 : Int32)
      · rw [if_pos c140] at hf
        refine v_tin X (tgt := 519) d_L_law_39 (by rw [c140]; decide) (by rw [c140]; decide) (by rw [c140]; rfl) (by decide) ?_
        refine v_aload_n X.1 d_L_law_519 rfl 3 rfl ?_
        refine v_aload_n X.1 d_L_law_520 rfl 4 rfl ?_
        refine v_iload X.1 d_L_law_521 0 rfl ?_
        refine v_iconst X.1 (v := (1 : Int32)) d_L_law_523 (by decide) ?_
        refine v_iadd X.1 d_L_law_524 ?_
        obtain ⟨hb141, hf⟩ := oi_none hf
        refine v_sld X hbx hb141 d_L_law_525 ?_
        refine v_aload_n X.1 d_L_law_526 rfl 4 rfl ?_
        refine v_iload X.1 d_L_law_527 0 rfl ?_
        refine v_iconst X.1 (v := (2 : Int32)) d_L_law_529 (by decide) ?_
        refine v_iadd X.1 d_L_law_530 ?_
        obtain ⟨hb142, hf⟩ := oi_none hf
        refine v_sld X hbx hb142 d_L_law_531 ?_
        refine v_if_eq X.1 (tgt := 539) d_L_law_532 (by decide) (fun c143 => ?_) (fun c143 => ?_)
        · rw [if_pos c143] at hf
          refine v_iconst X.1 (v := (0 : Int32)) d_L_law_539 (by decide) ?_
          refine v_aload_n X.1 d_L_law_540 rfl 1 rfl ?_
          obtain ⟨r145, g146, hc144, hf⟩ := ob2_some hf
          refine v_backI X.1 (x_runH X (c_L_full l hfl fu (xs (a4 + ((1 : Int32))).toNatClampNeg) ((0 : Int32)) _ _ _ hc144) tw_485 tw_51 tw_483 tw_484 ⟨rfl, rfl, by decide, by decide⟩ ⟨by decide, by show _ = some 4; decide⟩ (rest := []) rfl (Nat.le_of_ble_eq_true rfl) d_L_law_541 (by show _ ≤ 610214; omega) (by show _ ≤ 7265461; omega)) ?_
          refine v_istore X.1 (lv' := [(5, .int r145), (4, .int a4), (3, .ref (ad 58)), (2, .ref (ad 36)), (1, .ref (ad 0)), (0, .ref b)]) d_L_law_544 (by decide) rfl ?_
          refine v_aload_n X.1 d_L_law_546 rfl 3 rfl ?_
          refine v_aload_n X.1 d_L_law_547 rfl 5 rfl ?_
          refine v_iload X.1 d_L_law_548 1 rfl ?_
          refine v_iconst X.1 (v := (1 : Int32)) d_L_law_550 (by decide) ?_
          refine v_iadd X.1 d_L_law_551 ?_
          obtain ⟨hb147, hf⟩ := oi_none hf
          refine v_sld X hbx hb147 d_L_law_552 ?_
          refine v_aload_n X.1 d_L_law_553 rfl 5 rfl ?_
          refine v_iload X.1 d_L_law_554 1 rfl ?_
          refine v_iconst X.1 (v := (2 : Int32)) d_L_law_556 (by decide) ?_
          refine v_iadd X.1 d_L_law_557 ?_
          obtain ⟨hb148, hf⟩ := oi_none hf
          refine v_sld X hbx hb148 d_L_law_558 ?_
          refine v_if_eq X.1 (tgt := 566) d_L_law_559 (by decide) (fun c149 => ?_) (fun c149 => ?_)
          · rw [if_pos c149] at hf
            refine v_iconst X.1 (v := (0 : Int32)) d_L_law_566 (by decide) ?_
            obtain ⟨r151, g152, hc150, hf⟩ := ob2_some hf
            refine v_backI X.1 (x_runV X (c_M_full l fu (xs (a4 + ((1 : Int32))).toNatClampNeg) ((0 : Int32)) _ _ _ hc150) rfl tw_763 tw_57 tw_760 tw_761 tw_762 36 5 rfl rfl rfl ⟨rfl, rfl, by decide, by decide⟩ ⟨by decide, by show _ = some 2; decide⟩ (rest := []) rfl (Nat.le_of_ble_eq_true rfl) d_L_law_567 (by show _ ≤ 610214; omega) (by show _ ≤ 7265461; omega)) ?_
            refine v_istore X.1 (lv' := [(6, .int r151), (5, .int r145), (4, .int a4), (3, .ref (ad 58)), (2, .ref (ad 36)), (1, .ref (ad 0)), (0, .ref b)]) d_L_law_570 (by decide) rfl ?_
            refine v_aload_n X.1 d_L_law_572 rfl 4 rfl ?_
            obtain ⟨r154, g155, hc153, hf⟩ := ob2_some hf
            refine v_backI X.1 (x_runV X (c_M_thrown l _ _ _ hc153) rfl tw_716 tw_57 tw_713 tw_714 tw_715 36 5 rfl rfl rfl ⟨rfl, rfl, by decide, by decide⟩ ⟨by decide, by show _ = some 0; decide⟩ (rest := []) rfl (Nat.le_of_ble_eq_true rfl) d_L_law_573 (by show _ ≤ 610214; omega) (by show _ ≤ 7265461; omega)) ?_
            refine v_iload X.1 d_L_law_576 1 rfl ?_
            refine v_icmp_eq X.1 (tgt := 583) d_L_law_578 (by decide) (fun c156 => ?_) (fun c156 => ?_)
            · rw [if_pos c156] at hf
              refine v_iload X.1 d_L_law_583 1 rfl ?_
              refine v_if_ne X.1 (tgt := 600) d_L_law_585 (by decide) (fun c157 => ?_) (fun c157 => ?_)
              · rw [if_neg c157] at hf
                refine v_goto X.1 (tgt := 1132) d_L_law_600 (by decide) ?_
                refine v_iinc X.1 (k0 := 2) (v := a4 + (5 : Int32)) (lv' := [(4, .int (a4 + (5 : Int32))), (6, .int r151), (5, .int r145), (3, .ref (ad 58)), (2, .ref (ad 36)), (1, .ref (ad 0)), (0, .ref b)]) d_L_law_1132 rfl rfl (by decide) rfl ?_
                refine v_goto X.1 (tgt := 23) d_L_law_1135 (by decide) ?_
                refine v_sub [0, 3, 4, 5, 6] rfl ?_
                exact ih _ _ _ _ _ hf (by omega) (by omega)
              · rw [if_pos c157] at hf
                refine v_aload_n X.1 d_L_law_588 rfl 3 rfl ?_
                refine v_iconst X.1 (v := (0 : Int32)) d_L_law_589 (by decide) ?_
                refine v_lald X d_L_law_590 ?_
                refine v_iload X.1 d_L_law_591 0 rfl ?_
                refine v_i2l X.1 d_L_law_593 rfl ?_
                refine v_lcmp X d_L_law_594 ?_
                refine v_if_eq X.1 (tgt := 600) d_L_law_595 (by decide) (fun c158 => ?_) (fun c158 => ?_)
                · rw [if_pos c158] at hf
                  refine v_goto X.1 (tgt := 1132) d_L_law_600 (by decide) ?_
                  refine v_iinc X.1 (k0 := 2) (v := a4 + (5 : Int32)) (lv' := [(4, .int (a4 + (5 : Int32))), (6, .int r151), (5, .int r145), (3, .ref (ad 58)), (2, .ref (ad 36)), (1, .ref (ad 0)), (0, .ref b)]) d_L_law_1132 rfl rfl (by decide) rfl ?_
                  refine v_goto X.1 (tgt := 23) d_L_law_1135 (by decide) ?_
                  refine v_sub [0, 3, 4, 5, 6] rfl ?_
                  exact ih _ _ _ _ _ hf (by omega) (by omega)
                · rw [if_neg c158] at hf
                  refine v_iconst X.1 (v := (0 : Int32)) d_L_law_598 (by decide) ?_
                  cases hf
            · rw [if_neg c156] at hf
              refine v_iconst X.1 (v := (0 : Int32)) d_L_law_581 (by decide) ?_
              cases hf
          · rw [if_neg c149] at hf
            refine v_iconst X.1 (v := (1 : Int32)) d_L_law_562 (by decide) ?_
            refine v_goto X.1 (tgt := 567) d_L_law_563 (by decide) ?_
            obtain ⟨r160, g161, hc159, hf⟩ := ob2_some hf
            refine v_backI X.1 (x_runV X (c_M_full l fu (xs (a4 + ((1 : Int32))).toNatClampNeg) ((1 : Int32)) _ _ _ hc159) rfl tw_763 tw_57 tw_760 tw_761 tw_762 36 5 rfl rfl rfl ⟨rfl, rfl, by decide, by decide⟩ ⟨by decide, by show _ = some 2; decide⟩ (rest := []) rfl (Nat.le_of_ble_eq_true rfl) d_L_law_567 (by show _ ≤ 610214; omega) (by show _ ≤ 7265461; omega)) ?_
            refine v_istore X.1 (lv' := [(6, .int r160), (5, .int r145), (4, .int a4), (3, .ref (ad 58)), (2, .ref (ad 36)), (1, .ref (ad 0)), (0, .ref b)]) d_L_law_570 (by decide) rfl ?_
            refine v_aload_n X.1 d_L_law_572 rfl 4 rfl ?_
            obtain ⟨r163, g164, hc162, hf⟩ := ob2_some hf
            refine v_backI X.1 (x_runV X (c_M_thrown l _ _ _ hc162) rfl tw_716 tw_57 tw_713 tw_714 tw_715 36 5 rfl rfl rfl ⟨rfl, rfl, by decide, by decide⟩ ⟨by decide, by show _ = some 0; decide⟩ (rest := []) rfl (Nat.le_of_ble_eq_true rfl) d_L_law_573 (by show _ ≤ 610214; omega) (by show _ ≤ 7265461; omega)) ?_
            refine v_iload X.1 d_L_law_576 1 rfl ?_
            refine v_icmp_eq X.1 (tgt := 583) d_L_law_578 (by decide) (fun c165 => ?_) (fun c165 => ?_)
            · rw [if_pos c165] at hf
              refine v_iload X.1 d_L_law_583 1 rfl ?_
              refine v_if_ne X.1 (tgt := 600) d_L_law_585 (by decide) (fun c166 => ?_) (fun c166 => ?_)
              · rw [if_neg c166] at hf
                refine v_goto X.1 (tgt := 1132) d_L_law_600 (by decide) ?_
                refine v_iinc X.1 (k0 := 2) (v := a4 + (5 : Int32)) (lv' := [(4, .int (a4 + (5 : Int32))), (6, .int r160), (5, .int r145), (3, .ref (ad 58)), (2, .ref (ad 36)), (1, .ref (ad 0)), (0, .ref b)]) d_L_law_1132 rfl rfl (by decide) rfl ?_
                refine v_goto X.1 (tgt := 23) d_L_law_1135 (by decide) ?_
                refine v_sub [0, 3, 4, 5, 6] rfl ?_
                exact ih _ _ _ _ _ hf (by omega) (by omega)
              · rw [if_pos c166] at hf
                refine v_aload_n X.1 d_L_law_588 rfl 3 rfl ?_
                refine v_iconst X.1 (v := (0 : Int32)) d_L_law_589 (by decide) ?_
                refine v_lald X d_L_law_590 ?_
                refine v_iload X.1 d_L_law_591 0 rfl ?_
                refine v_i2l X.1 d_L_law_593 rfl ?_
                refine v_lcmp X d_L_law_594 ?_
                refine v_if_eq X.1 (tgt := 600) d_L_law_595 (by decide) (fun c167 => ?_) (fun c167 => ?_)
                · rw [if_pos c167] at hf
                  refine v_goto X.1 (tgt := 1132) d_L_law_600 (by decide) ?_
                  refine v_iinc X.1 (k0 := 2) (v := a4 + (5 : Int32)) (lv' := [(4, .int (a4 + (5 : Int32))), (6, .int r160), (5, .int r145), (3, .ref (ad 58)), (2, .ref (ad 36)), (1, .ref (ad 0)), (0, .ref b)]) d_L_law_1132 rfl rfl (by decide) rfl ?_
                  refine v_goto X.1 (tgt := 23) d_L_law_1135 (by decide) ?_
                  refine v_sub [0, 3, 4, 5, 6] rfl ?_
                  exact ih _ _ _ _ _ hf (by omega) (by omega)
                · rw [if_neg c167] at hf
                  refine v_iconst X.1 (v := (0 : Int32)) d_L_law_598 (by decide) ?_
                  cases hf
            · rw [if_neg c165] at hf
              refine v_iconst X.1 (v := (0 : Int32)) d_L_law_581 (by decide) ?_
              cases hf
        · rw [if_neg c143] at hf
          refine v_iconst X.1 (v := (1 : Int32)) d_L_law_535 (by decide) ?_
          refine v_goto X.1 (tgt := 540) d_L_law_536 (by decide) ?_
          refine v_aload_n X.1 d_L_law_540 rfl 1 rfl ?_
          obtain ⟨r169, g170, hc168, hf⟩ := ob2_some hf
          refine v_backI X.1 (x_runH X (c_L_full l hfl fu (xs (a4 + ((1 : Int32))).toNatClampNeg) ((1 : Int32)) _ _ _ hc168) tw_485 tw_51 tw_483 tw_484 ⟨rfl, rfl, by decide, by decide⟩ ⟨by decide, by show _ = some 4; decide⟩ (rest := []) rfl (Nat.le_of_ble_eq_true rfl) d_L_law_541 (by show _ ≤ 610214; omega) (by show _ ≤ 7265461; omega)) ?_
          refine v_istore X.1 (lv' := [(5, .int r169), (4, .int a4), (3, .ref (ad 58)), (2, .ref (ad 36)), (1, .ref (ad 0)), (0, .ref b)]) d_L_law_544 (by decide) rfl ?_
          refine v_aload_n X.1 d_L_law_546 rfl 3 rfl ?_
          refine v_aload_n X.1 d_L_law_547 rfl 5 rfl ?_
          refine v_iload X.1 d_L_law_548 1 rfl ?_
          refine v_iconst X.1 (v := (1 : Int32)) d_L_law_550 (by decide) ?_
          refine v_iadd X.1 d_L_law_551 ?_
          obtain ⟨hb171, hf⟩ := oi_none hf
          refine v_sld X hbx hb171 d_L_law_552 ?_
          refine v_aload_n X.1 d_L_law_553 rfl 5 rfl ?_
          refine v_iload X.1 d_L_law_554 1 rfl ?_
          refine v_iconst X.1 (v := (2 : Int32)) d_L_law_556 (by decide) ?_
          refine v_iadd X.1 d_L_law_557 ?_
          obtain ⟨hb172, hf⟩ := oi_none hf
          refine v_sld X hbx hb172 d_L_law_558 ?_
          refine v_if_eq X.1 (tgt := 566) d_L_law_559 (by decide) (fun c173 => ?_) (fun c173 => ?_)
          · rw [if_pos c173] at hf
            refine v_iconst X.1 (v := (0 : Int32)) d_L_law_566 (by decide) ?_
            obtain ⟨r175, g176, hc174, hf⟩ := ob2_some hf
            refine v_backI X.1 (x_runV X (c_M_full l fu (xs (a4 + ((1 : Int32))).toNatClampNeg) ((0 : Int32)) _ _ _ hc174) rfl tw_763 tw_57 tw_760 tw_761 tw_762 36 5 rfl rfl rfl ⟨rfl, rfl, by decide, by decide⟩ ⟨by decide, by show _ = some 2; decide⟩ (rest := []) rfl (Nat.le_of_ble_eq_true rfl) d_L_law_567 (by show _ ≤ 610214; omega) (by show _ ≤ 7265461; omega)) ?_
            refine v_istore X.1 (lv' := [(6, .int r175), (5, .int r169), (4, .int a4), (3, .ref (ad 58)), (2, .ref (ad 36)), (1, .ref (ad 0)), (0, .ref b)]) d_L_law_570 (by decide) rfl ?_
            refine v_aload_n X.1 d_L_law_572 rfl 4 rfl ?_
            obtain ⟨r178, g179, hc177, hf⟩ := ob2_some hf
            refine v_backI X.1 (x_runV X (c_M_thrown l _ _ _ hc177) rfl tw_716 tw_57 tw_713 tw_714 tw_715 36 5 rfl rfl rfl ⟨rfl, rfl, by decide, by decide⟩ ⟨by decide, by show _ = some 0; decide⟩ (rest := []) rfl (Nat.le_of_ble_eq_true rfl) d_L_law_573 (by show _ ≤ 610214; omega) (by show _ ≤ 7265461; omega)) ?_
            refine v_iload X.1 d_L_law_576 1 rfl ?_
            refine v_icmp_eq X.1 (tgt := 583) d_L_law_578 (by decide) (fun c180 => ?_) (fun c180 => ?_)
            · rw [if_pos c180] at hf
              refine v_iload X.1 d_L_law_583 1 rfl ?_
              refine v_if_ne X.1 (tgt := 600) d_L_law_585 (by decide) (fun c181 => ?_) (fun c181 => ?_)
              · rw [if_neg c181] at hf
                refine v_goto X.1 (tgt := 1132) d_L_law_600 (by decide) ?_
                refine v_iinc X.1 (k0 := 2) (v := a4 + (5 : Int32)) (lv' := [(4, .int (a4 + (5 : Int32))), (6, .int r175), (5, .int r169), (3, .ref (ad 58)), (2, .ref (ad 36)), (1, .ref (ad 0)), (0, .ref b)]) d_L_law_1132 rfl rfl (by decide) rfl ?_
                refine v_goto X.1 (tgt := 23) d_L_law_1135 (by decide) ?_
                refine v_sub [0, 3, 4, 5, 6] rfl ?_
                exact ih _ _ _ _ _ hf (by omega) (by omega)
              · rw [if_pos c181] at hf
                refine v_aload_n X.1 d_L_law_588 rfl 3 rfl ?_
                refine v_iconst X.1 (v := (0 : Int32)) d_L_law_589 (by decide) ?_
                refine v_lald X d_L_law_590 ?_
                refine v_iload X.1 d_L_law_591 0 rfl ?_
                refine v_i2l X.1 d_L_law_593 rfl ?_
                refine v_lcmp X d_L_law_594 ?_
                refine v_if_eq X.1 (tgt := 600) d_L_law_595 (by decide) (fun c182 => ?_) (fun c182 => ?_)
                · rw [if_pos c182] at hf
                  refine v_goto X.1 (tgt := 1132) d_L_law_600 (by decide) ?_
                  refine v_iinc X.1 (k0 := 2) (v := a4 + (5 : Int32)) (lv' := [(4, .int (a4 + (5 : Int32))), (6, .int r175), (5, .int r169), (3, .ref (ad 58)), (2, .ref (ad 36)), (1, .ref (ad 0)), (0, .ref b)]) d_L_law_1132 rfl rfl (by decide) rfl ?_
                  refine v_goto X.1 (tgt := 23) d_L_law_1135 (by decide) ?_
                  refine v_sub [0, 3, 4, 5, 6] rfl ?_
                  exact ih _ _ _ _ _ hf (by omega) (by omega)
                · rw [if_neg c182] at hf
                  refine v_iconst X.1 (v := (0 : Int32)) d_L_law_598 (by decide) ?_
                  cases hf
            · rw [if_neg c180] at hf
              refine v_iconst X.1 (v := (0 : Int32)) d_L_law_581 (by decide) ?_
              cases hf
          · rw [if_neg c173] at hf
            refine v_iconst X.1 (v := (1 : Int32)) d_L_law_562 (by decide) ?_
            refine v_goto X.1 (tgt := 567) d_L_law_563 (by decide) ?_
            obtain ⟨r184, g185, hc183, hf⟩ := ob2_some hf
            refine v_backI X.1 (x_runV X (c_M_full l fu (xs (a4 + ((1 : Int32))).toNatClampNeg) ((1 : Int32)) _ _ _ hc183) rfl tw_763 tw_57 tw_760 tw_761 tw_762 36 5 rfl rfl rfl ⟨rfl, rfl, by decide, by decide⟩ ⟨by decide, by show _ = some 2; decide⟩ (rest := []) rfl (Nat.le_of_ble_eq_true rfl) d_L_law_567 (by show _ ≤ 610214; omega) (by show _ ≤ 7265461; omega)) ?_
            refine v_istore X.1 (lv' := [(6, .int r184), (5, .int r169), (4, .int a4), (3, .ref (ad 58)), (2, .ref (ad 36)), (1, .ref (ad 0)), (0, .ref b)]) d_L_law_570 (by decide) rfl ?_
            refine v_aload_n X.1 d_L_law_572 rfl 4 rfl ?_
            obtain ⟨r187, g188, hc186, hf⟩ := ob2_some hf
            refine v_backI X.1 (x_runV X (c_M_thrown l _ _ _ hc186) rfl tw_716 tw_57 tw_713 tw_714 tw_715 36 5 rfl rfl rfl ⟨rfl, rfl, by decide, by decide⟩ ⟨by decide, by show _ = some 0; decide⟩ (rest := []) rfl (Nat.le_of_ble_eq_true rfl) d_L_law_573 (by show _ ≤ 610214; omega) (by show _ ≤ 7265461; omega)) ?_
            refine v_iload X.1 d_L_law_576 1 rfl ?_
            refine v_icmp_eq X.1 (tgt := 583) d_L_law_578 (by decide) (fun c189 => ?_) (fun c189 => ?_)
            · rw [if_pos c189] at hf
              refine v_iload X.1 d_L_law_583 1 rfl ?_
              refine v_if_ne X.1 (tgt := 600) d_L_law_585 (by decide) (fun c190 => ?_) (fun c190 => ?_)
              · rw [if_neg c190] at hf
                refine v_goto X.1 (tgt := 1132) d_L_law_600 (by decide) ?_
                refine v_iinc X.1 (k0 := 2) (v := a4 + (5 : Int32)) (lv' := [(4, .int (a4 + (5 : Int32))), (6, .int r184), (5, .int r169), (3, .ref (ad 58)), (2, .ref (ad 36)), (1, .ref (ad 0)), (0, .ref b)]) d_L_law_1132 rfl rfl (by decide) rfl ?_
                refine v_goto X.1 (tgt := 23) d_L_law_1135 (by decide) ?_
                refine v_sub [0, 3, 4, 5, 6] rfl ?_
                exact ih _ _ _ _ _ hf (by omega) (by omega)
              · rw [if_pos c190] at hf
                refine v_aload_n X.1 d_L_law_588 rfl 3 rfl ?_
                refine v_iconst X.1 (v := (0 : Int32)) d_L_law_589 (by decide) ?_
                refine v_lald X d_L_law_590 ?_
                refine v_iload X.1 d_L_law_591 0 rfl ?_
                refine v_i2l X.1 d_L_law_593 rfl ?_
                refine v_lcmp X d_L_law_594 ?_
                refine v_if_eq X.1 (tgt := 600) d_L_law_595 (by decide) (fun c191 => ?_) (fun c191 => ?_)
                · rw [if_pos c191] at hf
                  refine v_goto X.1 (tgt := 1132) d_L_law_600 (by decide) ?_
                  refine v_iinc X.1 (k0 := 2) (v := a4 + (5 : Int32)) (lv' := [(4, .int (a4 + (5 : Int32))), (6, .int r184), (5, .int r169), (3, .ref (ad 58)), (2, .ref (ad 36)), (1, .ref (ad 0)), (0, .ref b)]) d_L_law_1132 rfl rfl (by decide) rfl ?_
                  refine v_goto X.1 (tgt := 23) d_L_law_1135 (by decide) ?_
                  refine v_sub [0, 3, 4, 5, 6] rfl ?_
                  exact ih _ _ _ _ _ hf (by omega) (by omega)
                · rw [if_neg c191] at hf
                  refine v_iconst X.1 (v := (0 : Int32)) d_L_law_598 (by decide) ?_
                  cases hf
            · rw [if_neg c189] at hf
              refine v_iconst X.1 (v := (0 : Int32)) d_L_law_581 (by decide) ?_
              cases hf
      rw [if_neg c140] at hf
      by_cases c192 : ((xs a4.toNatClampNeg) &&& ((31 : Int32))) = (6 : Int32)
      · rw [if_pos c192] at hf
        refine v_tin X (tgt := 603) d_L_law_39 (by rw [c192]; decide) (by rw [c192]; decide) (by rw [c192]; rfl) (by decide) ?_
        refine v_aload_n X.1 d_L_law_603 rfl 3 rfl ?_
        refine v_aload_n X.1 d_L_law_604 rfl 4 rfl ?_
        refine v_iload X.1 d_L_law_605 0 rfl ?_
        refine v_iconst X.1 (v := (1 : Int32)) d_L_law_607 (by decide) ?_
        refine v_iadd X.1 d_L_law_608 ?_
        obtain ⟨hb193, hf⟩ := oi_none hf
        refine v_sld X hbx hb193 d_L_law_609 ?_
        refine v_aload_n X.1 d_L_law_610 rfl 1 rfl ?_
        obtain ⟨r195, g196, hc194, hf⟩ := ob2_some hf
        refine v_backI X.1 (x_runH X (c_L_match l hfl fu (xs (a4 + ((1 : Int32))).toNatClampNeg) _ _ _ hc194) tw_492 tw_51 tw_490 tw_491 ⟨rfl, rfl, by decide, by decide⟩ ⟨by decide, by show _ = some 3; decide⟩ (rest := []) rfl (Nat.le_of_ble_eq_true rfl) d_L_law_611 (by show _ ≤ 610214; omega) (by show _ ≤ 7265461; omega)) ?_
        refine v_istore X.1 (lv' := [(5, .int r195), (4, .int a4), (3, .ref (ad 58)), (2, .ref (ad 36)), (1, .ref (ad 0)), (0, .ref b)]) d_L_law_614 (by decide) rfl ?_
        refine v_aload_n X.1 d_L_law_616 rfl 3 rfl ?_
        refine v_aload_n X.1 d_L_law_617 rfl 5 rfl ?_
        refine v_iload X.1 d_L_law_618 1 rfl ?_
        refine v_iconst X.1 (v := (1 : Int32)) d_L_law_620 (by decide) ?_
        refine v_iadd X.1 d_L_law_621 ?_
        obtain ⟨hb197, hf⟩ := oi_none hf
        refine v_sld X hbx hb197 d_L_law_622 ?_
        obtain ⟨r199, g200, hc198, hf⟩ := ob2_some hf
        refine v_backI X.1 (x_runV X (c_M_match l fu (xs (a4 + ((1 : Int32))).toNatClampNeg) _ _ _ hc198) rfl tw_767 tw_57 tw_764 tw_765 tw_766 36 5 rfl rfl rfl ⟨rfl, rfl, by decide, by decide⟩ ⟨by decide, by show _ = some 1; decide⟩ (rest := []) rfl (Nat.le_of_ble_eq_true rfl) d_L_law_623 (by show _ ≤ 610214; omega) (by show _ ≤ 7265461; omega)) ?_
        refine v_istore X.1 (lv' := [(6, .int r199), (5, .int r195), (4, .int a4), (3, .ref (ad 58)), (2, .ref (ad 36)), (1, .ref (ad 0)), (0, .ref b)]) d_L_law_626 (by decide) rfl ?_
        refine v_aload_n X.1 d_L_law_628 rfl 4 rfl ?_
        obtain ⟨r202, g203, hc201, hf⟩ := ob2_some hf
        refine v_backI X.1 (x_runV X (c_M_thrown l _ _ _ hc201) rfl tw_716 tw_57 tw_713 tw_714 tw_715 36 5 rfl rfl rfl ⟨rfl, rfl, by decide, by decide⟩ ⟨by decide, by show _ = some 0; decide⟩ (rest := []) rfl (Nat.le_of_ble_eq_true rfl) d_L_law_629 (by show _ ≤ 610214; omega) (by show _ ≤ 7265461; omega)) ?_
        refine v_iload X.1 d_L_law_632 1 rfl ?_
        refine v_icmp_eq X.1 (tgt := 639) d_L_law_634 (by decide) (fun c204 => ?_) (fun c204 => ?_)
        · rw [if_pos c204] at hf
          refine v_iload X.1 d_L_law_639 1 rfl ?_
          refine v_if_ne X.1 (tgt := 656) d_L_law_641 (by decide) (fun c205 => ?_) (fun c205 => ?_)
          · rw [if_neg c205] at hf
            refine v_goto X.1 (tgt := 1132) d_L_law_656 (by decide) ?_
            refine v_iinc X.1 (k0 := 2) (v := a4 + (5 : Int32)) (lv' := [(4, .int (a4 + (5 : Int32))), (6, .int r199), (5, .int r195), (3, .ref (ad 58)), (2, .ref (ad 36)), (1, .ref (ad 0)), (0, .ref b)]) d_L_law_1132 rfl rfl (by decide) rfl ?_
            refine v_goto X.1 (tgt := 23) d_L_law_1135 (by decide) ?_
            refine v_sub [0, 3, 4, 5, 6] rfl ?_
            exact ih _ _ _ _ _ hf (by omega) (by omega)
          · rw [if_pos c205] at hf
            refine v_aload_n X.1 d_L_law_644 rfl 3 rfl ?_
            refine v_iconst X.1 (v := (0 : Int32)) d_L_law_645 (by decide) ?_
            refine v_lald X d_L_law_646 ?_
            refine v_iload X.1 d_L_law_647 0 rfl ?_
            refine v_i2l X.1 d_L_law_649 rfl ?_
            refine v_lcmp X d_L_law_650 ?_
            refine v_if_eq X.1 (tgt := 656) d_L_law_651 (by decide) (fun c206 => ?_) (fun c206 => ?_)
            · rw [if_pos c206] at hf
              refine v_goto X.1 (tgt := 1132) d_L_law_656 (by decide) ?_
              refine v_iinc X.1 (k0 := 2) (v := a4 + (5 : Int32)) (lv' := [(4, .int (a4 + (5 : Int32))), (6, .int r199), (5, .int r195), (3, .ref (ad 58)), (2, .ref (ad 36)), (1, .ref (ad 0)), (0, .ref b)]) d_L_law_1132 rfl rfl (by decide) rfl ?_
              refine v_goto X.1 (tgt := 23) d_L_law_1135 (by decide) ?_
              refine v_sub [0, 3, 4, 5, 6] rfl ?_
              exact ih _ _ _ _ _ hf (by omega) (by omega)
            · rw [if_neg c206] at hf
              refine v_iconst X.1 (v := (0 : Int32)) d_L_law_654 (by decide) ?_
              cases hf
        · rw [if_neg c204] at hf
          refine v_iconst X.1 (v := (0 : Int32)) d_L_law_637 (by decide) ?_
          cases hf
      rw [if_neg c192] at hf
      by_cases c207 : ((xs a4.toNatClampNeg) &&& ((31 : Int32))) = (7 : Int32)
      · rw [if_pos c207] at hf
        refine v_tin X (tgt := 659) d_L_law_39 (by rw [c207]; decide) (by rw [c207]; decide) (by rw [c207]; rfl) (by decide) ?_
        refine v_aload_n X.1 d_L_law_659 rfl 3 rfl ?_
        obtain ⟨r209, g210, hc208, hf⟩ := ob2_some hf
        refine v_backI X.1 (x_runV X (c_D_exact l _ _ _ hc208) rfl tw_249 tw_52 tw_246 tw_247 tw_248 0 0 rfl rfl rfl ⟨rfl, rfl, by decide, by decide⟩ ⟨by decide, by show _ = some 0; decide⟩ (rest := []) rfl (Nat.le_of_ble_eq_true rfl) d_L_law_660 (by show _ ≤ 610214; omega) (by show _ ≤ 7265461; omega)) ?_
        refine v_aload_n X.1 d_L_law_663 rfl 2 rfl ?_
        obtain ⟨r212, g213, hc211, hf⟩ := ob2_some hf
        refine v_backI X.1 (x_runV X (c_M_exact l _ _ _ hc211) rfl tw_819 tw_57 tw_816 tw_817 tw_818 36 5 rfl rfl rfl ⟨rfl, rfl, by decide, by decide⟩ ⟨by decide, by show _ = some 0; decide⟩ (rest := [.int r209]) rfl (Nat.le_of_ble_eq_true rfl) d_L_law_664 (by show _ ≤ 610214; omega) (by show _ ≤ 7265461; omega)) ?_
        refine v_icmp_eq X.1 (tgt := 1132) d_L_law_667 (by decide) (fun c214 => ?_) (fun c214 => ?_)
        · rw [if_pos c214] at hf
          refine v_iinc X.1 (k0 := 0) (v := a4 + (5 : Int32)) (lv' := [(4, .int (a4 + (5 : Int32))), (3, .ref (ad 58)), (2, .ref (ad 36)), (1, .ref (ad 0)), (0, .ref b)]) d_L_law_1132 rfl rfl (by decide) rfl ?_
          refine v_goto X.1 (tgt := 23) d_L_law_1135 (by decide) ?_
          refine v_sub [0, 1, 2, 3, 4] rfl ?_
          exact ih _ _ _ _ _ hf (by omega) (by omega)
        · rw [if_neg c214] at hf
          refine v_iconst X.1 (v := (0 : Int32)) d_L_law_670 (by decide) ?_
          cases hf
      rw [if_neg c207] at hf
      by_cases c215 : ((xs a4.toNatClampNeg) &&& ((31 : Int32))) = (8 : Int32)
      · rw [if_pos c215] at hf
        refine v_tin X (tgt := 672) d_L_law_39 (by rw [c215]; decide) (by rw [c215]; decide) (by rw [c215]; rfl) (by decide) ?_
        refine v_aload_n X.1 d_L_law_672 rfl 3 rfl ?_
        obtain ⟨r217, g218, hc216, hf⟩ := ob2_some hf
        refine v_backI X.1 (x_runV X (c_D_bound l fu _ _ _ hc216) rfl tw_253 tw_52 tw_250 tw_251 tw_252 0 0 rfl rfl rfl ⟨rfl, rfl, by decide, by decide⟩ ⟨by decide, by show _ = some 0; decide⟩ (rest := []) rfl (Nat.le_of_ble_eq_true rfl) d_L_law_673 (by show _ ≤ 610214; omega) (by show _ ≤ 7265461; omega)) ?_
        refine v_aload_n X.1 d_L_law_676 rfl 2 rfl ?_
        obtain ⟨r220, g221, hc219, hf⟩ := ob2_some hf
        refine v_backI X.1 (x_runV X (c_M_bound l fu _ _ _ hc219) rfl tw_823 tw_57 tw_820 tw_821 tw_822 36 5 rfl rfl rfl ⟨rfl, rfl, by decide, by decide⟩ ⟨by decide, by show _ = some 0; decide⟩ (rest := [.int r217]) rfl (Nat.le_of_ble_eq_true rfl) d_L_law_677 (by show _ ≤ 610214; omega) (by show _ ≤ 7265461; omega)) ?_
        refine v_icmp_eq X.1 (tgt := 1132) d_L_law_680 (by decide) (fun c222 => ?_) (fun c222 => ?_)
        · rw [if_pos c222] at hf
          refine v_iinc X.1 (k0 := 0) (v := a4 + (5 : Int32)) (lv' := [(4, .int (a4 + (5 : Int32))), (3, .ref (ad 58)), (2, .ref (ad 36)), (1, .ref (ad 0)), (0, .ref b)]) d_L_law_1132 rfl rfl (by decide) rfl ?_
          refine v_goto X.1 (tgt := 23) d_L_law_1135 (by decide) ?_
          refine v_sub [0, 1, 2, 3, 4] rfl ?_
          exact ih _ _ _ _ _ hf (by omega) (by omega)
        · rw [if_neg c222] at hf
          refine v_iconst X.1 (v := (0 : Int32)) d_L_law_683 (by decide) ?_
          cases hf
      rw [if_neg c215] at hf
      by_cases c223 : ((xs a4.toNatClampNeg) &&& ((31 : Int32))) = (9 : Int32)
      · rw [if_pos c223] at hf
        refine v_tin X (tgt := 685) d_L_law_39 (by rw [c223]; decide) (by rw [c223]; decide) (by rw [c223]; rfl) (by decide) ?_
        refine v_aload_n X.1 d_L_law_685 rfl 3 rfl ?_
        obtain ⟨r225, g226, hc224, hf⟩ := ob2_some hf
        refine v_backI X.1 (x_runV X (c_D_steps l _ _ _ hc224) rfl tw_281 tw_52 tw_278 tw_279 tw_280 0 0 rfl rfl rfl ⟨rfl, rfl, by decide, by decide⟩ ⟨by decide, by show _ = some 0; decide⟩ (rest := []) rfl (Nat.le_of_ble_eq_true rfl) d_L_law_686 (by show _ ≤ 610214; omega) (by show _ ≤ 7265461; omega)) ?_
        refine v_aload_n X.1 d_L_law_689 rfl 2 rfl ?_
        obtain ⟨r228, g229, hc227, hf⟩ := ob2_some hf
        refine v_backI X.1 (x_runV X (c_M_steps l _ _ _ hc227) rfl tw_827 tw_57 tw_824 tw_825 tw_826 36 5 rfl rfl rfl ⟨rfl, rfl, by decide, by decide⟩ ⟨by decide, by show _ = some 0; decide⟩ (rest := [.int r225]) rfl (Nat.le_of_ble_eq_true rfl) d_L_law_690 (by show _ ≤ 610214; omega) (by show _ ≤ 7265461; omega)) ?_
        refine v_icmp_eq X.1 (tgt := 1132) d_L_law_693 (by decide) (fun c230 => ?_) (fun c230 => ?_)
        · rw [if_pos c230] at hf
          refine v_iinc X.1 (k0 := 0) (v := a4 + (5 : Int32)) (lv' := [(4, .int (a4 + (5 : Int32))), (3, .ref (ad 58)), (2, .ref (ad 36)), (1, .ref (ad 0)), (0, .ref b)]) d_L_law_1132 rfl rfl (by decide) rfl ?_
          refine v_goto X.1 (tgt := 23) d_L_law_1135 (by decide) ?_
          refine v_sub [0, 1, 2, 3, 4] rfl ?_
          exact ih _ _ _ _ _ hf (by omega) (by omega)
        · rw [if_neg c230] at hf
          refine v_iconst X.1 (v := (0 : Int32)) d_L_law_696 (by decide) ?_
          cases hf
      rw [if_neg c223] at hf
      by_cases c231 : ((xs a4.toNatClampNeg) &&& ((31 : Int32))) = (10 : Int32)
      · rw [if_pos c231] at hf
        refine v_tin X (tgt := 698) d_L_law_39 (by rw [c231]; decide) (by rw [c231]; decide) (by rw [c231]; rfl) (by decide) ?_
        refine v_aload_n X.1 d_L_law_698 rfl 3 rfl ?_
        refine v_aload_n X.1 d_L_law_699 rfl 4 rfl ?_
        refine v_iload X.1 d_L_law_700 0 rfl ?_
        refine v_iconst X.1 (v := (1 : Int32)) d_L_law_702 (by decide) ?_
        refine v_iadd X.1 d_L_law_703 ?_
        obtain ⟨hb232, hf⟩ := oi_none hf
        refine v_sld X hbx hb232 d_L_law_704 ?_
        refine v_aload_n X.1 d_L_law_705 rfl 4 rfl ?_
        refine v_iload X.1 d_L_law_706 0 rfl ?_
        refine v_iconst X.1 (v := (2 : Int32)) d_L_law_708 (by decide) ?_
        refine v_iadd X.1 d_L_law_709 ?_
        obtain ⟨hb233, hf⟩ := oi_none hf
        refine v_sld X hbx hb233 d_L_law_710 ?_
        refine v_aload_n X.1 d_L_law_711 rfl 1 rfl ?_
        obtain ⟨r235, g236, hc234, hf⟩ := ob2_some hf
        refine v_backI X.1 (x_runH X (c_L_pair l hfl (xs (a4 + ((1 : Int32))).toNatClampNeg) (xs (a4 + ((2 : Int32))).toNatClampNeg) _ _ _ hc234) tw_561 tw_51 tw_559 tw_560 ⟨rfl, rfl, by decide, by decide⟩ ⟨by decide, by show _ = some 4; decide⟩ (rest := []) rfl (Nat.le_of_ble_eq_true rfl) d_L_law_712 (by show _ ≤ 610214; omega) (by show _ ≤ 7265461; omega)) ?_
        refine v_istore X.1 (lv' := [(5, .int r235), (4, .int a4), (3, .ref (ad 58)), (2, .ref (ad 36)), (1, .ref (ad 0)), (0, .ref b)]) d_L_law_715 (by decide) rfl ?_
        refine v_aload_n X.1 d_L_law_717 rfl 3 rfl ?_
        refine v_aload_n X.1 d_L_law_718 rfl 5 rfl ?_
        refine v_iload X.1 d_L_law_719 1 rfl ?_
        refine v_iconst X.1 (v := (1 : Int32)) d_L_law_721 (by decide) ?_
        refine v_iadd X.1 d_L_law_722 ?_
        obtain ⟨hb237, hf⟩ := oi_none hf
        refine v_sld X hbx hb237 d_L_law_723 ?_
        refine v_aload_n X.1 d_L_law_724 rfl 5 rfl ?_
        refine v_iload X.1 d_L_law_725 1 rfl ?_
        refine v_iconst X.1 (v := (2 : Int32)) d_L_law_727 (by decide) ?_
        refine v_iadd X.1 d_L_law_728 ?_
        obtain ⟨hb238, hf⟩ := oi_none hf
        refine v_sld X hbx hb238 d_L_law_729 ?_
        obtain ⟨r240, g241, hc239, hf⟩ := ob2_some hf
        refine v_backI X.1 (x_runV X (c_M_pair l (xs (a4 + ((1 : Int32))).toNatClampNeg) (xs (a4 + ((2 : Int32))).toNatClampNeg) _ _ _ hc239) rfl tw_831 tw_57 tw_828 tw_829 tw_830 36 5 rfl rfl rfl ⟨rfl, rfl, by decide, by decide⟩ ⟨by decide, by show _ = some 2; decide⟩ (rest := []) rfl (Nat.le_of_ble_eq_true rfl) d_L_law_730 (by show _ ≤ 610214; omega) (by show _ ≤ 7265461; omega)) ?_
        refine v_istore X.1 (lv' := [(6, .int r240), (5, .int r235), (4, .int a4), (3, .ref (ad 58)), (2, .ref (ad 36)), (1, .ref (ad 0)), (0, .ref b)]) d_L_law_733 (by decide) rfl ?_
        refine v_aload_n X.1 d_L_law_735 rfl 4 rfl ?_
        obtain ⟨r243, g244, hc242, hf⟩ := ob2_some hf
        refine v_backI X.1 (x_runV X (c_M_thrown l _ _ _ hc242) rfl tw_716 tw_57 tw_713 tw_714 tw_715 36 5 rfl rfl rfl ⟨rfl, rfl, by decide, by decide⟩ ⟨by decide, by show _ = some 0; decide⟩ (rest := []) rfl (Nat.le_of_ble_eq_true rfl) d_L_law_736 (by show _ ≤ 610214; omega) (by show _ ≤ 7265461; omega)) ?_
        refine v_iload X.1 d_L_law_739 1 rfl ?_
        refine v_icmp_eq X.1 (tgt := 746) d_L_law_741 (by decide) (fun c245 => ?_) (fun c245 => ?_)
        · rw [if_pos c245] at hf
          refine v_iload X.1 d_L_law_746 1 rfl ?_
          refine v_if_ne X.1 (tgt := 763) d_L_law_748 (by decide) (fun c246 => ?_) (fun c246 => ?_)
          · rw [if_neg c246] at hf
            refine v_goto X.1 (tgt := 1132) d_L_law_763 (by decide) ?_
            refine v_iinc X.1 (k0 := 2) (v := a4 + (5 : Int32)) (lv' := [(4, .int (a4 + (5 : Int32))), (6, .int r240), (5, .int r235), (3, .ref (ad 58)), (2, .ref (ad 36)), (1, .ref (ad 0)), (0, .ref b)]) d_L_law_1132 rfl rfl (by decide) rfl ?_
            refine v_goto X.1 (tgt := 23) d_L_law_1135 (by decide) ?_
            refine v_sub [0, 3, 4, 5, 6] rfl ?_
            exact ih _ _ _ _ _ hf (by omega) (by omega)
          · rw [if_pos c246] at hf
            refine v_aload_n X.1 d_L_law_751 rfl 3 rfl ?_
            refine v_iconst X.1 (v := (0 : Int32)) d_L_law_752 (by decide) ?_
            refine v_lald X d_L_law_753 ?_
            refine v_iload X.1 d_L_law_754 0 rfl ?_
            refine v_i2l X.1 d_L_law_756 rfl ?_
            refine v_lcmp X d_L_law_757 ?_
            refine v_if_eq X.1 (tgt := 763) d_L_law_758 (by decide) (fun c247 => ?_) (fun c247 => ?_)
            · rw [if_pos c247] at hf
              refine v_goto X.1 (tgt := 1132) d_L_law_763 (by decide) ?_
              refine v_iinc X.1 (k0 := 2) (v := a4 + (5 : Int32)) (lv' := [(4, .int (a4 + (5 : Int32))), (6, .int r240), (5, .int r235), (3, .ref (ad 58)), (2, .ref (ad 36)), (1, .ref (ad 0)), (0, .ref b)]) d_L_law_1132 rfl rfl (by decide) rfl ?_
              refine v_goto X.1 (tgt := 23) d_L_law_1135 (by decide) ?_
              refine v_sub [0, 3, 4, 5, 6] rfl ?_
              exact ih _ _ _ _ _ hf (by omega) (by omega)
            · rw [if_neg c247] at hf
              refine v_iconst X.1 (v := (0 : Int32)) d_L_law_761 (by decide) ?_
              cases hf
        · rw [if_neg c245] at hf
          refine v_iconst X.1 (v := (0 : Int32)) d_L_law_744 (by decide) ?_
          cases hf
      rw [if_neg c231] at hf
      by_cases c248 : ((xs a4.toNatClampNeg) &&& ((31 : Int32))) = (11 : Int32)
      · rw [if_pos c248] at hf
        refine v_tin X (tgt := 766) d_L_law_39 (by rw [c248]; decide) (by rw [c248]; decide) (by rw [c248]; rfl) (by decide) ?_
        refine v_aload_n X.1 d_L_law_766 rfl 3 rfl ?_
        refine v_aload_n X.1 d_L_law_767 rfl 4 rfl ?_
        refine v_iload X.1 d_L_law_768 0 rfl ?_
        refine v_iconst X.1 (v := (1 : Int32)) d_L_law_770 (by decide) ?_
        refine v_iadd X.1 d_L_law_771 ?_
        obtain ⟨hb249, hf⟩ := oi_none hf
        refine v_sld X hbx hb249 d_L_law_772 ?_
        refine v_aload_n X.1 d_L_law_773 rfl 1 rfl ?_
        obtain ⟨r251, g252, hc250, hf⟩ := ob2_some hf
        refine v_backI X.1 (x_runH X (c_L_undo l hfl fu (xs (a4 + ((1 : Int32))).toNatClampNeg) _ _ _ hc250) tw_568 tw_51 tw_566 tw_567 ⟨rfl, rfl, by decide, by decide⟩ ⟨by decide, by show _ = some 3; decide⟩ (rest := []) rfl (Nat.le_of_ble_eq_true rfl) d_L_law_774 (by show _ ≤ 610214; omega) (by show _ ≤ 7265461; omega)) ?_
        refine v_istore X.1 (lv' := [(5, .int r251), (4, .int a4), (3, .ref (ad 58)), (2, .ref (ad 36)), (1, .ref (ad 0)), (0, .ref b)]) d_L_law_777 (by decide) rfl ?_
        refine v_aload_n X.1 d_L_law_779 rfl 3 rfl ?_
        refine v_aload_n X.1 d_L_law_780 rfl 5 rfl ?_
        refine v_iload X.1 d_L_law_781 1 rfl ?_
        refine v_iconst X.1 (v := (1 : Int32)) d_L_law_783 (by decide) ?_
        refine v_iadd X.1 d_L_law_784 ?_
        obtain ⟨hb253, hf⟩ := oi_none hf
        refine v_sld X hbx hb253 d_L_law_785 ?_
        obtain ⟨r255, g256, hc254, hf⟩ := ob2_some hf
        refine v_backI X.1 (x_runV X (c_M_undo l fu (xs (a4 + ((1 : Int32))).toNatClampNeg) _ _ _ hc254) rfl tw_835 tw_57 tw_832 tw_833 tw_834 36 5 rfl rfl rfl ⟨rfl, rfl, by decide, by decide⟩ ⟨by decide, by show _ = some 1; decide⟩ (rest := []) rfl (Nat.le_of_ble_eq_true rfl) d_L_law_786 (by show _ ≤ 610214; omega) (by show _ ≤ 7265461; omega)) ?_
        refine v_istore X.1 (lv' := [(6, .int r255), (5, .int r251), (4, .int a4), (3, .ref (ad 58)), (2, .ref (ad 36)), (1, .ref (ad 0)), (0, .ref b)]) d_L_law_789 (by decide) rfl ?_
        refine v_aload_n X.1 d_L_law_791 rfl 4 rfl ?_
        obtain ⟨r258, g259, hc257, hf⟩ := ob2_some hf
        refine v_backI X.1 (x_runV X (c_M_thrown l _ _ _ hc257) rfl tw_716 tw_57 tw_713 tw_714 tw_715 36 5 rfl rfl rfl ⟨rfl, rfl, by decide, by decide⟩ ⟨by decide, by show _ = some 0; decide⟩ (rest := []) rfl (Nat.le_of_ble_eq_true rfl) d_L_law_792 (by show _ ≤ 610214; omega) (by show _ ≤ 7265461; omega)) ?_
        refine v_iload X.1 d_L_law_795 1 rfl ?_
        refine v_icmp_eq X.1 (tgt := 802) d_L_law_797 (by decide) (fun c260 => ?_) (fun c260 => ?_)
        · rw [if_pos c260] at hf
          refine v_iload X.1 d_L_law_802 1 rfl ?_
          refine v_if_ne X.1 (tgt := 819) d_L_law_804 (by decide) (fun c261 => ?_) (fun c261 => ?_)
          · rw [if_neg c261] at hf
            refine v_goto X.1 (tgt := 1132) d_L_law_819 (by decide) ?_
            refine v_iinc X.1 (k0 := 2) (v := a4 + (5 : Int32)) (lv' := [(4, .int (a4 + (5 : Int32))), (6, .int r255), (5, .int r251), (3, .ref (ad 58)), (2, .ref (ad 36)), (1, .ref (ad 0)), (0, .ref b)]) d_L_law_1132 rfl rfl (by decide) rfl ?_
            refine v_goto X.1 (tgt := 23) d_L_law_1135 (by decide) ?_
            refine v_sub [0, 3, 4, 5, 6] rfl ?_
            exact ih _ _ _ _ _ hf (by omega) (by omega)
          · rw [if_pos c261] at hf
            refine v_aload_n X.1 d_L_law_807 rfl 3 rfl ?_
            refine v_iconst X.1 (v := (0 : Int32)) d_L_law_808 (by decide) ?_
            refine v_lald X d_L_law_809 ?_
            refine v_iload X.1 d_L_law_810 0 rfl ?_
            refine v_i2l X.1 d_L_law_812 rfl ?_
            refine v_lcmp X d_L_law_813 ?_
            refine v_if_eq X.1 (tgt := 819) d_L_law_814 (by decide) (fun c262 => ?_) (fun c262 => ?_)
            · rw [if_pos c262] at hf
              refine v_goto X.1 (tgt := 1132) d_L_law_819 (by decide) ?_
              refine v_iinc X.1 (k0 := 2) (v := a4 + (5 : Int32)) (lv' := [(4, .int (a4 + (5 : Int32))), (6, .int r255), (5, .int r251), (3, .ref (ad 58)), (2, .ref (ad 36)), (1, .ref (ad 0)), (0, .ref b)]) d_L_law_1132 rfl rfl (by decide) rfl ?_
              refine v_goto X.1 (tgt := 23) d_L_law_1135 (by decide) ?_
              refine v_sub [0, 3, 4, 5, 6] rfl ?_
              exact ih _ _ _ _ _ hf (by omega) (by omega)
            · rw [if_neg c262] at hf
              refine v_iconst X.1 (v := (0 : Int32)) d_L_law_817 (by decide) ?_
              cases hf
        · rw [if_neg c260] at hf
          refine v_iconst X.1 (v := (0 : Int32)) d_L_law_800 (by decide) ?_
          cases hf
      rw [if_neg c248] at hf
      by_cases c263 : ((xs a4.toNatClampNeg) &&& ((31 : Int32))) = (12 : Int32)
      · rw [if_pos c263] at hf
        refine v_tin X (tgt := 822) d_L_law_39 (by rw [c263]; decide) (by rw [c263]; decide) (by rw [c263]; rfl) (by decide) ?_
        refine v_aload_n X.1 d_L_law_822 rfl 3 rfl ?_
        refine v_aload_n X.1 d_L_law_823 rfl 4 rfl ?_
        refine v_iload X.1 d_L_law_824 0 rfl ?_
        refine v_iconst X.1 (v := (1 : Int32)) d_L_law_826 (by decide) ?_
        refine v_iadd X.1 d_L_law_827 ?_
        obtain ⟨hb264, hf⟩ := oi_none hf
        refine v_sld X hbx hb264 d_L_law_828 ?_
        refine v_aload_n X.1 d_L_law_829 rfl 4 rfl ?_
        refine v_iload X.1 d_L_law_830 0 rfl ?_
        refine v_iconst X.1 (v := (2 : Int32)) d_L_law_832 (by decide) ?_
        refine v_iadd X.1 d_L_law_833 ?_
        obtain ⟨hb265, hf⟩ := oi_none hf
        refine v_sld X hbx hb265 d_L_law_834 ?_
        refine v_aload_n X.1 d_L_law_835 rfl 1 rfl ?_
        obtain ⟨r267, g268, hc266, hf⟩ := ob2_some hf
        refine v_backI X.1 (x_runH X (c_L_split l hfl fu (xs (a4 + ((1 : Int32))).toNatClampNeg) (xs (a4 + ((2 : Int32))).toNatClampNeg) _ _ _ hc266) tw_579 tw_51 tw_577 tw_578 ⟨rfl, rfl, by decide, by decide⟩ ⟨by decide, by show _ = some 4; decide⟩ (rest := []) rfl (Nat.le_of_ble_eq_true rfl) d_L_law_836 (by show _ ≤ 610214; omega) (by show _ ≤ 7265461; omega)) ?_
        refine v_istore X.1 (lv' := [(5, .int r267), (4, .int a4), (3, .ref (ad 58)), (2, .ref (ad 36)), (1, .ref (ad 0)), (0, .ref b)]) d_L_law_839 (by decide) rfl ?_
        refine v_aload_n X.1 d_L_law_841 rfl 3 rfl ?_
        refine v_aload_n X.1 d_L_law_842 rfl 5 rfl ?_
        refine v_iload X.1 d_L_law_843 1 rfl ?_
        refine v_iconst X.1 (v := (1 : Int32)) d_L_law_845 (by decide) ?_
        refine v_iadd X.1 d_L_law_846 ?_
        obtain ⟨hb269, hf⟩ := oi_none hf
        refine v_sld X hbx hb269 d_L_law_847 ?_
        refine v_aload_n X.1 d_L_law_848 rfl 5 rfl ?_
        refine v_iload X.1 d_L_law_849 1 rfl ?_
        refine v_iconst X.1 (v := (2 : Int32)) d_L_law_851 (by decide) ?_
        refine v_iadd X.1 d_L_law_852 ?_
        obtain ⟨hb270, hf⟩ := oi_none hf
        refine v_sld X hbx hb270 d_L_law_853 ?_
        obtain ⟨r272, g273, hc271, hf⟩ := ob2_some hf
        refine v_backI X.1 (x_runV X (c_M_split l fu (xs (a4 + ((1 : Int32))).toNatClampNeg) (xs (a4 + ((2 : Int32))).toNatClampNeg) _ _ _ hc271) rfl tw_843 tw_57 tw_840 tw_841 tw_842 36 5 rfl rfl rfl ⟨rfl, rfl, by decide, by decide⟩ ⟨by decide, by show _ = some 2; decide⟩ (rest := []) rfl (Nat.le_of_ble_eq_true rfl) d_L_law_854 (by show _ ≤ 610214; omega) (by show _ ≤ 7265461; omega)) ?_
        refine v_istore X.1 (lv' := [(6, .int r272), (5, .int r267), (4, .int a4), (3, .ref (ad 58)), (2, .ref (ad 36)), (1, .ref (ad 0)), (0, .ref b)]) d_L_law_857 (by decide) rfl ?_
        refine v_aload_n X.1 d_L_law_859 rfl 4 rfl ?_
        obtain ⟨r275, g276, hc274, hf⟩ := ob2_some hf
        refine v_backI X.1 (x_runV X (c_M_thrown l _ _ _ hc274) rfl tw_716 tw_57 tw_713 tw_714 tw_715 36 5 rfl rfl rfl ⟨rfl, rfl, by decide, by decide⟩ ⟨by decide, by show _ = some 0; decide⟩ (rest := []) rfl (Nat.le_of_ble_eq_true rfl) d_L_law_860 (by show _ ≤ 610214; omega) (by show _ ≤ 7265461; omega)) ?_
        refine v_iload X.1 d_L_law_863 1 rfl ?_
        refine v_icmp_eq X.1 (tgt := 870) d_L_law_865 (by decide) (fun c277 => ?_) (fun c277 => ?_)
        · rw [if_pos c277] at hf
          refine v_iload X.1 d_L_law_870 1 rfl ?_
          refine v_if_ne X.1 (tgt := 887) d_L_law_872 (by decide) (fun c278 => ?_) (fun c278 => ?_)
          · rw [if_neg c278] at hf
            refine v_goto X.1 (tgt := 1132) d_L_law_887 (by decide) ?_
            refine v_iinc X.1 (k0 := 2) (v := a4 + (5 : Int32)) (lv' := [(4, .int (a4 + (5 : Int32))), (6, .int r272), (5, .int r267), (3, .ref (ad 58)), (2, .ref (ad 36)), (1, .ref (ad 0)), (0, .ref b)]) d_L_law_1132 rfl rfl (by decide) rfl ?_
            refine v_goto X.1 (tgt := 23) d_L_law_1135 (by decide) ?_
            refine v_sub [0, 3, 4, 5, 6] rfl ?_
            exact ih _ _ _ _ _ hf (by omega) (by omega)
          · rw [if_pos c278] at hf
            refine v_aload_n X.1 d_L_law_875 rfl 3 rfl ?_
            refine v_iconst X.1 (v := (0 : Int32)) d_L_law_876 (by decide) ?_
            refine v_lald X d_L_law_877 ?_
            refine v_iload X.1 d_L_law_878 0 rfl ?_
            refine v_i2l X.1 d_L_law_880 rfl ?_
            refine v_lcmp X d_L_law_881 ?_
            refine v_if_eq X.1 (tgt := 887) d_L_law_882 (by decide) (fun c279 => ?_) (fun c279 => ?_)
            · rw [if_pos c279] at hf
              refine v_goto X.1 (tgt := 1132) d_L_law_887 (by decide) ?_
              refine v_iinc X.1 (k0 := 2) (v := a4 + (5 : Int32)) (lv' := [(4, .int (a4 + (5 : Int32))), (6, .int r272), (5, .int r267), (3, .ref (ad 58)), (2, .ref (ad 36)), (1, .ref (ad 0)), (0, .ref b)]) d_L_law_1132 rfl rfl (by decide) rfl ?_
              refine v_goto X.1 (tgt := 23) d_L_law_1135 (by decide) ?_
              refine v_sub [0, 3, 4, 5, 6] rfl ?_
              exact ih _ _ _ _ _ hf (by omega) (by omega)
            · rw [if_neg c279] at hf
              refine v_iconst X.1 (v := (0 : Int32)) d_L_law_885 (by decide) ?_
              cases hf
        · rw [if_neg c277] at hf
          refine v_iconst X.1 (v := (0 : Int32)) d_L_law_868 (by decide) ?_
          cases hf
      rw [if_neg c263] at hf
      by_cases c280 : ((xs a4.toNatClampNeg) &&& ((31 : Int32))) = (13 : Int32)
      · rw [if_pos c280] at hf
        refine v_tin X (tgt := 890) d_L_law_39 (by rw [c280]; decide) (by rw [c280]; decide) (by rw [c280]; rfl) (by decide) ?_
        refine v_aload_n X.1 d_L_law_890 rfl 3 rfl ?_
        refine v_aload_n X.1 d_L_law_891 rfl 4 rfl ?_
        refine v_iload X.1 d_L_law_892 0 rfl ?_
        refine v_iconst X.1 (v := (1 : Int32)) d_L_law_894 (by decide) ?_
        refine v_iadd X.1 d_L_law_895 ?_
        obtain ⟨hb281, hf⟩ := oi_none hf
        refine v_sld X hbx hb281 d_L_law_896 ?_
        refine v_aload_n X.1 d_L_law_897 rfl 4 rfl ?_
        refine v_iload X.1 d_L_law_898 0 rfl ?_
        refine v_iconst X.1 (v := (2 : Int32)) d_L_law_900 (by decide) ?_
        refine v_iadd X.1 d_L_law_901 ?_
        obtain ⟨hb282, hf⟩ := oi_none hf
        refine v_sld X hbx hb282 d_L_law_902 ?_
        refine v_aload_n X.1 d_L_law_903 rfl 1 rfl ?_
        obtain ⟨r284, g285, hc283, hf⟩ := ob2_some hf
        refine v_backI X.1 (x_runH X (c_L_late l hfl fu (xs (a4 + ((1 : Int32))).toNatClampNeg) (xs (a4 + ((2 : Int32))).toNatClampNeg) _ _ _ hc283) tw_592 tw_51 tw_590 tw_591 ⟨rfl, rfl, by decide, by decide⟩ ⟨by decide, by show _ = some 4; decide⟩ (rest := []) rfl (Nat.le_of_ble_eq_true rfl) d_L_law_904 (by show _ ≤ 610214; omega) (by show _ ≤ 7265461; omega)) ?_
        refine v_istore X.1 (lv' := [(5, .int r284), (4, .int a4), (3, .ref (ad 58)), (2, .ref (ad 36)), (1, .ref (ad 0)), (0, .ref b)]) d_L_law_907 (by decide) rfl ?_
        refine v_aload_n X.1 d_L_law_909 rfl 3 rfl ?_
        refine v_aload_n X.1 d_L_law_910 rfl 5 rfl ?_
        refine v_iload X.1 d_L_law_911 1 rfl ?_
        refine v_iconst X.1 (v := (1 : Int32)) d_L_law_913 (by decide) ?_
        refine v_iadd X.1 d_L_law_914 ?_
        obtain ⟨hb286, hf⟩ := oi_none hf
        refine v_sld X hbx hb286 d_L_law_915 ?_
        refine v_aload_n X.1 d_L_law_916 rfl 5 rfl ?_
        refine v_iload X.1 d_L_law_917 1 rfl ?_
        refine v_iconst X.1 (v := (2 : Int32)) d_L_law_919 (by decide) ?_
        refine v_iadd X.1 d_L_law_920 ?_
        obtain ⟨hb287, hf⟩ := oi_none hf
        refine v_sld X hbx hb287 d_L_law_921 ?_
        obtain ⟨r289, g290, hc288, hf⟩ := ob2_some hf
        refine v_backI X.1 (x_runV X (c_M_late l fu (xs (a4 + ((1 : Int32))).toNatClampNeg) (xs (a4 + ((2 : Int32))).toNatClampNeg) _ _ _ hc288) rfl tw_847 tw_57 tw_844 tw_845 tw_846 36 5 rfl rfl rfl ⟨rfl, rfl, by decide, by decide⟩ ⟨by decide, by show _ = some 2; decide⟩ (rest := []) rfl (Nat.le_of_ble_eq_true rfl) d_L_law_922 (by show _ ≤ 610214; omega) (by show _ ≤ 7265461; omega)) ?_
        refine v_istore X.1 (lv' := [(6, .int r289), (5, .int r284), (4, .int a4), (3, .ref (ad 58)), (2, .ref (ad 36)), (1, .ref (ad 0)), (0, .ref b)]) d_L_law_925 (by decide) rfl ?_
        refine v_aload_n X.1 d_L_law_927 rfl 4 rfl ?_
        obtain ⟨r292, g293, hc291, hf⟩ := ob2_some hf
        refine v_backI X.1 (x_runV X (c_M_thrown l _ _ _ hc291) rfl tw_716 tw_57 tw_713 tw_714 tw_715 36 5 rfl rfl rfl ⟨rfl, rfl, by decide, by decide⟩ ⟨by decide, by show _ = some 0; decide⟩ (rest := []) rfl (Nat.le_of_ble_eq_true rfl) d_L_law_928 (by show _ ≤ 610214; omega) (by show _ ≤ 7265461; omega)) ?_
        refine v_iload X.1 d_L_law_931 1 rfl ?_
        refine v_icmp_eq X.1 (tgt := 938) d_L_law_933 (by decide) (fun c294 => ?_) (fun c294 => ?_)
        · rw [if_pos c294] at hf
          refine v_iload X.1 d_L_law_938 1 rfl ?_
          refine v_if_ne X.1 (tgt := 955) d_L_law_940 (by decide) (fun c295 => ?_) (fun c295 => ?_)
          · rw [if_neg c295] at hf
            refine v_goto X.1 (tgt := 1132) d_L_law_955 (by decide) ?_
            refine v_iinc X.1 (k0 := 2) (v := a4 + (5 : Int32)) (lv' := [(4, .int (a4 + (5 : Int32))), (6, .int r289), (5, .int r284), (3, .ref (ad 58)), (2, .ref (ad 36)), (1, .ref (ad 0)), (0, .ref b)]) d_L_law_1132 rfl rfl (by decide) rfl ?_
            refine v_goto X.1 (tgt := 23) d_L_law_1135 (by decide) ?_
            refine v_sub [0, 3, 4, 5, 6] rfl ?_
            exact ih _ _ _ _ _ hf (by omega) (by omega)
          · rw [if_pos c295] at hf
            refine v_aload_n X.1 d_L_law_943 rfl 3 rfl ?_
            refine v_iconst X.1 (v := (0 : Int32)) d_L_law_944 (by decide) ?_
            refine v_lald X d_L_law_945 ?_
            refine v_iload X.1 d_L_law_946 0 rfl ?_
            refine v_i2l X.1 d_L_law_948 rfl ?_
            refine v_lcmp X d_L_law_949 ?_
            refine v_if_eq X.1 (tgt := 955) d_L_law_950 (by decide) (fun c296 => ?_) (fun c296 => ?_)
            · rw [if_pos c296] at hf
              refine v_goto X.1 (tgt := 1132) d_L_law_955 (by decide) ?_
              refine v_iinc X.1 (k0 := 2) (v := a4 + (5 : Int32)) (lv' := [(4, .int (a4 + (5 : Int32))), (6, .int r289), (5, .int r284), (3, .ref (ad 58)), (2, .ref (ad 36)), (1, .ref (ad 0)), (0, .ref b)]) d_L_law_1132 rfl rfl (by decide) rfl ?_
              refine v_goto X.1 (tgt := 23) d_L_law_1135 (by decide) ?_
              refine v_sub [0, 3, 4, 5, 6] rfl ?_
              exact ih _ _ _ _ _ hf (by omega) (by omega)
            · rw [if_neg c296] at hf
              refine v_iconst X.1 (v := (0 : Int32)) d_L_law_953 (by decide) ?_
              cases hf
        · rw [if_neg c294] at hf
          refine v_iconst X.1 (v := (0 : Int32)) d_L_law_936 (by decide) ?_
          cases hf
      rw [if_neg c280] at hf
      by_cases c297 : ((xs a4.toNatClampNeg) &&& ((31 : Int32))) = (14 : Int32)
      · rw [if_pos c297] at hf
        refine v_tin X (tgt := 958) d_L_law_39 (by rw [c297]; decide) (by rw [c297]; decide) (by rw [c297]; rfl) (by decide) ?_
        refine v_aload_n X.1 d_L_law_958 rfl 3 rfl ?_
        refine v_aload_n X.1 d_L_law_959 rfl 4 rfl ?_
        refine v_iload X.1 d_L_law_960 0 rfl ?_
        refine v_iconst X.1 (v := (1 : Int32)) d_L_law_962 (by decide) ?_
        refine v_iadd X.1 d_L_law_963 ?_
        obtain ⟨hb298, hf⟩ := oi_none hf
        refine v_sld X hbx hb298 d_L_law_964 ?_
        refine v_aload_n X.1 d_L_law_965 rfl 4 rfl ?_
        refine v_iload X.1 d_L_law_966 0 rfl ?_
        refine v_iconst X.1 (v := (2 : Int32)) d_L_law_968 (by decide) ?_
        refine v_iadd X.1 d_L_law_969 ?_
        obtain ⟨hb299, hf⟩ := oi_none hf
        refine v_sld X hbx hb299 d_L_law_970 ?_
        refine v_aload_n X.1 d_L_law_971 rfl 1 rfl ?_
        obtain ⟨r301, g302, hc300, hf⟩ := ob2_some hf
        refine v_backI X.1 (x_runH X (c_L_arrival l hfl fu (xs (a4 + ((1 : Int32))).toNatClampNeg) (xs (a4 + ((2 : Int32))).toNatClampNeg) _ _ _ hc300) tw_603 tw_51 tw_601 tw_602 ⟨rfl, rfl, by decide, by decide⟩ ⟨by decide, by show _ = some 4; decide⟩ (rest := []) rfl (Nat.le_of_ble_eq_true rfl) d_L_law_972 (by show _ ≤ 610214; omega) (by show _ ≤ 7265461; omega)) ?_
        refine v_istore X.1 (lv' := [(5, .int r301), (4, .int a4), (3, .ref (ad 58)), (2, .ref (ad 36)), (1, .ref (ad 0)), (0, .ref b)]) d_L_law_975 (by decide) rfl ?_
        refine v_aload_n X.1 d_L_law_977 rfl 3 rfl ?_
        refine v_aload_n X.1 d_L_law_978 rfl 5 rfl ?_
        refine v_iload X.1 d_L_law_979 1 rfl ?_
        refine v_iconst X.1 (v := (1 : Int32)) d_L_law_981 (by decide) ?_
        refine v_iadd X.1 d_L_law_982 ?_
        obtain ⟨hb303, hf⟩ := oi_none hf
        refine v_sld X hbx hb303 d_L_law_983 ?_
        refine v_aload_n X.1 d_L_law_984 rfl 5 rfl ?_
        refine v_iload X.1 d_L_law_985 1 rfl ?_
        refine v_iconst X.1 (v := (2 : Int32)) d_L_law_987 (by decide) ?_
        refine v_iadd X.1 d_L_law_988 ?_
        obtain ⟨hb304, hf⟩ := oi_none hf
        refine v_sld X hbx hb304 d_L_law_989 ?_
        obtain ⟨r306, g307, hc305, hf⟩ := ob2_some hf
        refine v_backI X.1 (x_runV X (c_M_arrival l fu (xs (a4 + ((1 : Int32))).toNatClampNeg) (xs (a4 + ((2 : Int32))).toNatClampNeg) _ _ _ hc305) rfl tw_851 tw_57 tw_848 tw_849 tw_850 36 5 rfl rfl rfl ⟨rfl, rfl, by decide, by decide⟩ ⟨by decide, by show _ = some 2; decide⟩ (rest := []) rfl (Nat.le_of_ble_eq_true rfl) d_L_law_990 (by show _ ≤ 610214; omega) (by show _ ≤ 7265461; omega)) ?_
        refine v_istore X.1 (lv' := [(6, .int r306), (5, .int r301), (4, .int a4), (3, .ref (ad 58)), (2, .ref (ad 36)), (1, .ref (ad 0)), (0, .ref b)]) d_L_law_993 (by decide) rfl ?_
        refine v_aload_n X.1 d_L_law_995 rfl 4 rfl ?_
        obtain ⟨r309, g310, hc308, hf⟩ := ob2_some hf
        refine v_backI X.1 (x_runV X (c_M_thrown l _ _ _ hc308) rfl tw_716 tw_57 tw_713 tw_714 tw_715 36 5 rfl rfl rfl ⟨rfl, rfl, by decide, by decide⟩ ⟨by decide, by show _ = some 0; decide⟩ (rest := []) rfl (Nat.le_of_ble_eq_true rfl) d_L_law_996 (by show _ ≤ 610214; omega) (by show _ ≤ 7265461; omega)) ?_
        refine v_iload X.1 d_L_law_999 1 rfl ?_
        refine v_icmp_eq X.1 (tgt := 1006) d_L_law_1001 (by decide) (fun c311 => ?_) (fun c311 => ?_)
        · rw [if_pos c311] at hf
          refine v_iload X.1 d_L_law_1006 1 rfl ?_
          refine v_if_ne X.1 (tgt := 1023) d_L_law_1008 (by decide) (fun c312 => ?_) (fun c312 => ?_)
          · rw [if_neg c312] at hf
            refine v_goto X.1 (tgt := 1132) d_L_law_1023 (by decide) ?_
            refine v_iinc X.1 (k0 := 2) (v := a4 + (5 : Int32)) (lv' := [(4, .int (a4 + (5 : Int32))), (6, .int r306), (5, .int r301), (3, .ref (ad 58)), (2, .ref (ad 36)), (1, .ref (ad 0)), (0, .ref b)]) d_L_law_1132 rfl rfl (by decide) rfl ?_
            refine v_goto X.1 (tgt := 23) d_L_law_1135 (by decide) ?_
            refine v_sub [0, 3, 4, 5, 6] rfl ?_
            exact ih _ _ _ _ _ hf (by omega) (by omega)
          · rw [if_pos c312] at hf
            refine v_aload_n X.1 d_L_law_1011 rfl 3 rfl ?_
            refine v_iconst X.1 (v := (0 : Int32)) d_L_law_1012 (by decide) ?_
            refine v_lald X d_L_law_1013 ?_
            refine v_iload X.1 d_L_law_1014 0 rfl ?_
            refine v_i2l X.1 d_L_law_1016 rfl ?_
            refine v_lcmp X d_L_law_1017 ?_
            refine v_if_eq X.1 (tgt := 1023) d_L_law_1018 (by decide) (fun c313 => ?_) (fun c313 => ?_)
            · rw [if_pos c313] at hf
              refine v_goto X.1 (tgt := 1132) d_L_law_1023 (by decide) ?_
              refine v_iinc X.1 (k0 := 2) (v := a4 + (5 : Int32)) (lv' := [(4, .int (a4 + (5 : Int32))), (6, .int r306), (5, .int r301), (3, .ref (ad 58)), (2, .ref (ad 36)), (1, .ref (ad 0)), (0, .ref b)]) d_L_law_1132 rfl rfl (by decide) rfl ?_
              refine v_goto X.1 (tgt := 23) d_L_law_1135 (by decide) ?_
              refine v_sub [0, 3, 4, 5, 6] rfl ?_
              exact ih _ _ _ _ _ hf (by omega) (by omega)
            · rw [if_neg c313] at hf
              refine v_iconst X.1 (v := (0 : Int32)) d_L_law_1021 (by decide) ?_
              cases hf
        · rw [if_neg c311] at hf
          refine v_iconst X.1 (v := (0 : Int32)) d_L_law_1004 (by decide) ?_
          cases hf
      rw [if_neg c297] at hf
      by_cases c314 : ((xs a4.toNatClampNeg) &&& ((31 : Int32))) = (15 : Int32)
      · rw [if_pos c314] at hf
        refine v_tin X (tgt := 1026) d_L_law_39 (by rw [c314]; decide) (by rw [c314]; decide) (by rw [c314]; rfl) (by decide) ?_
        refine v_aload_n X.1 d_L_law_1026 rfl 3 rfl ?_
        refine v_aload_n X.1 d_L_law_1027 rfl 4 rfl ?_
        refine v_iload X.1 d_L_law_1028 0 rfl ?_
        refine v_iconst X.1 (v := (1 : Int32)) d_L_law_1030 (by decide) ?_
        refine v_iadd X.1 d_L_law_1031 ?_
        obtain ⟨hb315, hf⟩ := oi_none hf
        refine v_sld X hbx hb315 d_L_law_1032 ?_
        refine v_aload_n X.1 d_L_law_1033 rfl 4 rfl ?_
        refine v_iload X.1 d_L_law_1034 0 rfl ?_
        refine v_iconst X.1 (v := (2 : Int32)) d_L_law_1036 (by decide) ?_
        refine v_iadd X.1 d_L_law_1037 ?_
        obtain ⟨hb316, hf⟩ := oi_none hf
        refine v_sld X hbx hb316 d_L_law_1038 ?_
        refine v_aload_n X.1 d_L_law_1039 rfl 1 rfl ?_
        obtain ⟨r318, g319, hc317, hf⟩ := ob2_some hf
        refine v_backI X.1 (x_runH X (c_L_wanted l hfl fu (xs (a4 + ((1 : Int32))).toNatClampNeg) (xs (a4 + ((2 : Int32))).toNatClampNeg) _ _ _ hc317) tw_610 tw_51 tw_608 tw_609 ⟨rfl, rfl, by decide, by decide⟩ ⟨by decide, by show _ = some 4; decide⟩ (rest := []) rfl (Nat.le_of_ble_eq_true rfl) d_L_law_1040 (by show _ ≤ 610214; omega) (by show _ ≤ 7265461; omega)) ?_
        refine v_istore X.1 (lv' := [(5, .int r318), (4, .int a4), (3, .ref (ad 58)), (2, .ref (ad 36)), (1, .ref (ad 0)), (0, .ref b)]) d_L_law_1043 (by decide) rfl ?_
        refine v_aload_n X.1 d_L_law_1045 rfl 3 rfl ?_
        refine v_aload_n X.1 d_L_law_1046 rfl 5 rfl ?_
        refine v_iload X.1 d_L_law_1047 1 rfl ?_
        refine v_iconst X.1 (v := (1 : Int32)) d_L_law_1049 (by decide) ?_
        refine v_iadd X.1 d_L_law_1050 ?_
        obtain ⟨hb320, hf⟩ := oi_none hf
        refine v_sld X hbx hb320 d_L_law_1051 ?_
        refine v_aload_n X.1 d_L_law_1052 rfl 5 rfl ?_
        refine v_iload X.1 d_L_law_1053 1 rfl ?_
        refine v_iconst X.1 (v := (2 : Int32)) d_L_law_1055 (by decide) ?_
        refine v_iadd X.1 d_L_law_1056 ?_
        obtain ⟨hb321, hf⟩ := oi_none hf
        refine v_sld X hbx hb321 d_L_law_1057 ?_
        obtain ⟨r323, g324, hc322, hf⟩ := ob2_some hf
        refine v_backI X.1 (x_runV X (c_M_wanted l fu (xs (a4 + ((1 : Int32))).toNatClampNeg) (xs (a4 + ((2 : Int32))).toNatClampNeg) _ _ _ hc322) rfl tw_855 tw_57 tw_852 tw_853 tw_854 36 5 rfl rfl rfl ⟨rfl, rfl, by decide, by decide⟩ ⟨by decide, by show _ = some 2; decide⟩ (rest := []) rfl (Nat.le_of_ble_eq_true rfl) d_L_law_1058 (by show _ ≤ 610214; omega) (by show _ ≤ 7265461; omega)) ?_
        refine v_istore X.1 (lv' := [(6, .int r323), (5, .int r318), (4, .int a4), (3, .ref (ad 58)), (2, .ref (ad 36)), (1, .ref (ad 0)), (0, .ref b)]) d_L_law_1061 (by decide) rfl ?_
        refine v_aload_n X.1 d_L_law_1063 rfl 4 rfl ?_
        obtain ⟨r326, g327, hc325, hf⟩ := ob2_some hf
        refine v_backI X.1 (x_runV X (c_M_thrown l _ _ _ hc325) rfl tw_716 tw_57 tw_713 tw_714 tw_715 36 5 rfl rfl rfl ⟨rfl, rfl, by decide, by decide⟩ ⟨by decide, by show _ = some 0; decide⟩ (rest := []) rfl (Nat.le_of_ble_eq_true rfl) d_L_law_1064 (by show _ ≤ 610214; omega) (by show _ ≤ 7265461; omega)) ?_
        refine v_iload X.1 d_L_law_1067 1 rfl ?_
        refine v_icmp_eq X.1 (tgt := 1074) d_L_law_1069 (by decide) (fun c328 => ?_) (fun c328 => ?_)
        · rw [if_pos c328] at hf
          refine v_iload X.1 d_L_law_1074 1 rfl ?_
          refine v_if_ne X.1 (tgt := 1091) d_L_law_1076 (by decide) (fun c329 => ?_) (fun c329 => ?_)
          · rw [if_neg c329] at hf
            refine v_goto X.1 (tgt := 1132) d_L_law_1091 (by decide) ?_
            refine v_iinc X.1 (k0 := 2) (v := a4 + (5 : Int32)) (lv' := [(4, .int (a4 + (5 : Int32))), (6, .int r323), (5, .int r318), (3, .ref (ad 58)), (2, .ref (ad 36)), (1, .ref (ad 0)), (0, .ref b)]) d_L_law_1132 rfl rfl (by decide) rfl ?_
            refine v_goto X.1 (tgt := 23) d_L_law_1135 (by decide) ?_
            refine v_sub [0, 3, 4, 5, 6] rfl ?_
            exact ih _ _ _ _ _ hf (by omega) (by omega)
          · rw [if_pos c329] at hf
            refine v_aload_n X.1 d_L_law_1079 rfl 3 rfl ?_
            refine v_iconst X.1 (v := (0 : Int32)) d_L_law_1080 (by decide) ?_
            refine v_lald X d_L_law_1081 ?_
            refine v_iload X.1 d_L_law_1082 0 rfl ?_
            refine v_i2l X.1 d_L_law_1084 rfl ?_
            refine v_lcmp X d_L_law_1085 ?_
            refine v_if_eq X.1 (tgt := 1091) d_L_law_1086 (by decide) (fun c330 => ?_) (fun c330 => ?_)
            · rw [if_pos c330] at hf
              refine v_goto X.1 (tgt := 1132) d_L_law_1091 (by decide) ?_
              refine v_iinc X.1 (k0 := 2) (v := a4 + (5 : Int32)) (lv' := [(4, .int (a4 + (5 : Int32))), (6, .int r323), (5, .int r318), (3, .ref (ad 58)), (2, .ref (ad 36)), (1, .ref (ad 0)), (0, .ref b)]) d_L_law_1132 rfl rfl (by decide) rfl ?_
              refine v_goto X.1 (tgt := 23) d_L_law_1135 (by decide) ?_
              refine v_sub [0, 3, 4, 5, 6] rfl ?_
              exact ih _ _ _ _ _ hf (by omega) (by omega)
            · rw [if_neg c330] at hf
              refine v_iconst X.1 (v := (0 : Int32)) d_L_law_1089 (by decide) ?_
              cases hf
        · rw [if_neg c328] at hf
          refine v_iconst X.1 (v := (0 : Int32)) d_L_law_1072 (by decide) ?_
          cases hf
      rw [if_neg c314] at hf
      by_cases c331 : ((xs a4.toNatClampNeg) &&& ((31 : Int32))) = (16 : Int32)
      · rw [if_pos c331] at hf
        refine v_tin X (tgt := 1094) d_L_law_39 (by rw [c331]; decide) (by rw [c331]; decide) (by rw [c331]; rfl) (by decide) ?_
        refine v_aload_n X.1 d_L_law_1094 rfl 3 rfl ?_
        obtain ⟨r333, g334, hc332, hf⟩ := ob2_some hf
        refine v_backI X.1 (x_runV X (c_D_saved l fu _ _ _ hc332) rfl tw_285 tw_52 tw_282 tw_283 tw_284 0 0 rfl rfl rfl ⟨rfl, rfl, by decide, by decide⟩ ⟨by decide, by show _ = some 0; decide⟩ (rest := []) rfl (Nat.le_of_ble_eq_true rfl) d_L_law_1095 (by show _ ≤ 610214; omega) (by show _ ≤ 7265461; omega)) ?_
        refine v_aload_n X.1 d_L_law_1098 rfl 2 rfl ?_
        obtain ⟨r336, g337, hc335, hf⟩ := ob2_some hf
        refine v_backI X.1 (x_runV X (c_M_saved l fu _ _ _ hc335) rfl tw_863 tw_57 tw_860 tw_861 tw_862 36 5 rfl rfl rfl ⟨rfl, rfl, by decide, by decide⟩ ⟨by decide, by show _ = some 0; decide⟩ (rest := [.int r333]) rfl (Nat.le_of_ble_eq_true rfl) d_L_law_1099 (by show _ ≤ 610214; omega) (by show _ ≤ 7265461; omega)) ?_
        refine v_icmp_eq X.1 (tgt := 1132) d_L_law_1102 (by decide) (fun c338 => ?_) (fun c338 => ?_)
        · rw [if_pos c338] at hf
          refine v_iinc X.1 (k0 := 0) (v := a4 + (5 : Int32)) (lv' := [(4, .int (a4 + (5 : Int32))), (3, .ref (ad 58)), (2, .ref (ad 36)), (1, .ref (ad 0)), (0, .ref b)]) d_L_law_1132 rfl rfl (by decide) rfl ?_
          refine v_goto X.1 (tgt := 23) d_L_law_1135 (by decide) ?_
          refine v_sub [0, 1, 2, 3, 4] rfl ?_
          exact ih _ _ _ _ _ hf (by omega) (by omega)
        · rw [if_neg c338] at hf
          refine v_iconst X.1 (v := (0 : Int32)) d_L_law_1105 (by decide) ?_
          cases hf
      rw [if_neg c331] at hf
      by_cases c339 : ((xs a4.toNatClampNeg) &&& ((31 : Int32))) = (17 : Int32)
      · rw [if_pos c339] at hf
        refine v_tin X (tgt := 1107) d_L_law_39 (by rw [c339]; decide) (by rw [c339]; decide) (by rw [c339]; rfl) (by decide) ?_
        refine v_aload_n X.1 d_L_law_1107 rfl 3 rfl ?_
        refine v_aload_n X.1 d_L_law_1108 rfl 4 rfl ?_
        refine v_iload X.1 d_L_law_1109 0 rfl ?_
        refine v_iconst X.1 (v := (1 : Int32)) d_L_law_1111 (by decide) ?_
        refine v_iadd X.1 d_L_law_1112 ?_
        obtain ⟨hb340, hf⟩ := oi_none hf
        refine v_sld X hbx hb340 d_L_law_1113 ?_
        obtain ⟨r342, g343, hc341, hf⟩ := ob2_some hf
        refine v_backI X.1 (x_runV X (c_D_count l fu (xs (a4 + ((1 : Int32))).toNatClampNeg) _ _ _ hc341) rfl tw_305 tw_52 tw_302 tw_303 tw_304 0 0 rfl rfl rfl ⟨rfl, rfl, by decide, by decide⟩ ⟨by decide, by show _ = some 1; decide⟩ (rest := []) rfl (Nat.le_of_ble_eq_true rfl) d_L_law_1114 (by show _ ≤ 610214; omega) (by show _ ≤ 7265461; omega)) ?_
        refine v_aload_n X.1 d_L_law_1117 rfl 2 rfl ?_
        refine v_aload_n X.1 d_L_law_1118 rfl 4 rfl ?_
        refine v_iload X.1 d_L_law_1119 0 rfl ?_
        refine v_iconst X.1 (v := (1 : Int32)) d_L_law_1121 (by decide) ?_
        refine v_iadd X.1 d_L_law_1122 ?_
        obtain ⟨hb344, hf⟩ := oi_none hf
        refine v_sld X hbx hb344 d_L_law_1123 ?_
        obtain ⟨r346, g347, hc345, hf⟩ := ob2_some hf
        refine v_backI X.1 (x_runV X (c_M_count l fu (xs (a4 + ((1 : Int32))).toNatClampNeg) _ _ _ hc345) rfl tw_867 tw_57 tw_864 tw_865 tw_866 36 5 rfl rfl rfl ⟨rfl, rfl, by decide, by decide⟩ ⟨by decide, by show _ = some 1; decide⟩ (rest := [.int r342]) rfl (Nat.le_of_ble_eq_true rfl) d_L_law_1124 (by show _ ≤ 610214; omega) (by show _ ≤ 7265461; omega)) ?_
        refine v_icmp_eq X.1 (tgt := 1132) d_L_law_1127 (by decide) (fun c348 => ?_) (fun c348 => ?_)
        · rw [if_pos c348] at hf
          refine v_iinc X.1 (k0 := 0) (v := a4 + (5 : Int32)) (lv' := [(4, .int (a4 + (5 : Int32))), (3, .ref (ad 58)), (2, .ref (ad 36)), (1, .ref (ad 0)), (0, .ref b)]) d_L_law_1132 rfl rfl (by decide) rfl ?_
          refine v_goto X.1 (tgt := 23) d_L_law_1135 (by decide) ?_
          refine v_sub [0, 1, 2, 3, 4] rfl ?_
          exact ih _ _ _ _ _ hf (by omega) (by omega)
        · rw [if_neg c348] at hf
          refine v_iconst X.1 (v := (0 : Int32)) d_L_law_1130 (by decide) ?_
          cases hf
      rw [if_neg c339] at hf
      refine v_tout X (tgt := 1132) d_L_law_39 (by have := lv_neT (a := 0) c3 rfl; have := lv_neT (a := 1) c24 rfl; have := lv_neT (a := 2) c45 rfl; have := lv_neT (a := 3) c62 rfl; have := lv_neT (a := 4) c77 rfl; have := lv_neT (a := 5) c140 rfl; have := lv_neT (a := 6) c192 rfl; have := lv_neT (a := 7) c207 rfl; have := lv_neT (a := 8) c215 rfl; have := lv_neT (a := 9) c223 rfl; have := lv_neT (a := 10) c231 rfl; have := lv_neT (a := 11) c248 rfl; have := lv_neT (a := 12) c263 rfl; have := lv_neT (a := 13) c280 rfl; have := lv_neT (a := 14) c297 rfl; have := lv_neT (a := 15) c314 rfl; have := lv_neT (a := 16) c331 rfl; have := lv_neT (a := 17) c339 rfl; omega) (by decide) ?_
      refine v_iinc X.1 (k0 := 0) (v := a4 + (5 : Int32)) (lv' := [(4, .int (a4 + (5 : Int32))), (3, .ref (ad 58)), (2, .ref (ad 36)), (1, .ref (ad 0)), (0, .ref b)]) d_L_law_1132 rfl rfl (by decide) rfl ?_
      refine v_goto X.1 (tgt := 23) d_L_law_1135 (by decide) ?_
      refine v_sub [0, 1, 2, 3, 4] rfl ?_
      exact ih _ _ _ _ _ hf (by omega) (by omega)
