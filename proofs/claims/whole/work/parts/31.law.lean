def lL_law_18 (φ : Nat) (xn : Nat) (xs : Nat → Int32) (t : Nat) (xr1 : Nat) (xr2 : Nat) : Nat → Int32 → Mem → Option (Int32 × Mem)
  | 0, _, _ => none
  | n + 1, x3, M =>
    if ((Int32.ofNat xn) - (6 : Int32)) < x3 then
 some ((1 : Int32), M)
 else
 ixk x3 xn (
 jn (fun (M1 : Mem) => lL_law_18 φ xn xs t xr1 xr2 n (x3 + 6) M1) (fun J2 => if ((xs x3.toNatClampNeg) &&& (63 : Int32)) = 0 then
 (fX10_status xr1 M).bind fun v334 =>
 (fX11_status xr2 M).bind fun v335 =>
 if v334 = v335 then
 J2 M
 else
 none
 else
 if ((xs x3.toNatClampNeg) &&& (63 : Int32)) = 1 then
 (fX10_top xr1 M).bind fun vz331 =>
 (fX11_top xr2 M).bind fun vz332 =>
 if vz331 = vz332 then
 J2 M
 else
 none
 else
 if ((xs x3.toNatClampNeg) &&& (63 : Int32)) = 2 then
 (fX10_bottom xr1 M).bind fun vz328 =>
 (fX11_bottom xr2 M).bind fun vz329 =>
 if vz328 = vz329 then
 J2 M
 else
 none
 else
 if ((xs x3.toNatClampNeg) &&& (63 : Int32)) = 3 then
 ixk (x3 + (1 : Int32)) xn (
 ixk (x3 + (2 : Int32)) xn (
 ixk (x3 + (3 : Int32)) xn (
 bd (fX10_tray φ xr1 (xs (x3 + (1 : Int32)).toNatClampNeg) (xs (x3 + (2 : Int32)).toNatClampNeg) (xs (x3 + (3 : Int32)).toNatClampNeg) M) fun v323 M324 =>
 ixk (x3 + (1 : Int32)) xn (
 ixk (x3 + (2 : Int32)) xn (
 ixk (x3 + (3 : Int32)) xn (
 bd (fX11_tray φ xr2 (xs (x3 + (1 : Int32)).toNatClampNeg) (xs (x3 + (2 : Int32)).toNatClampNeg) (xs (x3 + (3 : Int32)).toNatClampNeg) M324) fun v325 M326 =>
 if v323 = v325 then
 J2 M326
 else
 none))))))
 else
 if ((xs x3.toNatClampNeg) &&& (63 : Int32)) = 4 then
 ixk (x3 + (1 : Int32)) xn (
 ixk (x3 + (2 : Int32)) xn (
 ixk (x3 + (3 : Int32)) xn (
 ixk (x3 + (4 : Int32)) xn (
 bd (fX10_write xr1 (xs (x3 + (1 : Int32)).toNatClampNeg) (xs (x3 + (2 : Int32)).toNatClampNeg) ((((xs (x3 + (3 : Int32)).toNatClampNeg).toInt64) <<< ((32 : Int32).toInt64 &&& 63)) ||| (((xs (x3 + (4 : Int32)).toNatClampNeg).toInt64) &&& (4294967295 : Int64))) M) fun v318 M319 =>
 ixk (x3 + (1 : Int32)) xn (
 ixk (x3 + (2 : Int32)) xn (
 ixk (x3 + (3 : Int32)) xn (
 ixk (x3 + (4 : Int32)) xn (
 bd (fX11_write xr2 (xs (x3 + (1 : Int32)).toNatClampNeg) (xs (x3 + (2 : Int32)).toNatClampNeg) ((((xs (x3 + (3 : Int32)).toNatClampNeg).toInt64) <<< ((32 : Int32).toInt64 &&& 63)) ||| (((xs (x3 + (4 : Int32)).toNatClampNeg).toInt64) &&& (4294967295 : Int64))) M319) fun v320 M321 =>
 if v318 = v320 then
 J2 M321
 else
 none))))))))
 else
 if ((xs x3.toNatClampNeg) &&& (63 : Int32)) = 5 then
 ixk (x3 + (1 : Int32)) xn (
 ixk (x3 + (2 : Int32)) xn (
 bd (fX10_read xr1 (xs (x3 + (1 : Int32)).toNatClampNeg) (xs (x3 + (2 : Int32)).toNatClampNeg) M) fun vz313 M314 =>
 ixk (x3 + (1 : Int32)) xn (
 ixk (x3 + (2 : Int32)) xn (
 bd (fX11_read xr2 (xs (x3 + (1 : Int32)).toNatClampNeg) (xs (x3 + (2 : Int32)).toNatClampNeg) M314) fun vz315 M316 =>
 if vz313 = vz315 then
 J2 M316
 else
 none))))
 else
 if ((xs x3.toNatClampNeg) &&& (63 : Int32)) = 6 then
 ixk (x3 + (1 : Int32)) xn (
 ixk (x3 + (2 : Int32)) xn (
 ixk (x3 + (3 : Int32)) xn (
 ixk (x3 + (4 : Int32)) xn (
 ixk (x3 + (5 : Int32)) xn (
 bd (fX10_pour xr1 (xs (x3 + (1 : Int32)).toNatClampNeg) (xs (x3 + (2 : Int32)).toNatClampNeg) (xs (x3 + (3 : Int32)).toNatClampNeg) (xs (x3 + (4 : Int32)).toNatClampNeg) (xs (x3 + (5 : Int32)).toNatClampNeg) M) fun v308 M309 =>
 ixk (x3 + (1 : Int32)) xn (
 ixk (x3 + (2 : Int32)) xn (
 ixk (x3 + (3 : Int32)) xn (
 ixk (x3 + (4 : Int32)) xn (
 ixk (x3 + (5 : Int32)) xn (
 bd (fX11_pour φ xr2 (xs (x3 + (1 : Int32)).toNatClampNeg) (xs (x3 + (2 : Int32)).toNatClampNeg) (xs (x3 + (3 : Int32)).toNatClampNeg) (xs (x3 + (4 : Int32)).toNatClampNeg) (xs (x3 + (5 : Int32)).toNatClampNeg) M309) fun v310 M311 =>
 if v308 = v310 then
 J2 M311
 else
 none))))))))))
 else
 if ((xs x3.toNatClampNeg) &&& (63 : Int32)) = 7 then
 ixk (x3 + (1 : Int32)) xn (
 ixk (x3 + (2 : Int32)) xn (
 ixk (x3 + (3 : Int32)) xn (
 ixk (x3 + (4 : Int32)) xn (
 ixk (x3 + (5 : Int32)) xn (
 bd (fX10_feed φ xr1 (xs (x3 + (1 : Int32)).toNatClampNeg) (xs (x3 + (2 : Int32)).toNatClampNeg) (xs (x3 + (3 : Int32)).toNatClampNeg) (xs (x3 + (4 : Int32)).toNatClampNeg) (xs (x3 + (5 : Int32)).toNatClampNeg) M) fun v303 M304 =>
 ixk (x3 + (1 : Int32)) xn (
 ixk (x3 + (2 : Int32)) xn (
 ixk (x3 + (3 : Int32)) xn (
 ixk (x3 + (4 : Int32)) xn (
 ixk (x3 + (5 : Int32)) xn (
 bd (fX11_feed φ xr2 (xs (x3 + (1 : Int32)).toNatClampNeg) (xs (x3 + (2 : Int32)).toNatClampNeg) (xs (x3 + (3 : Int32)).toNatClampNeg) (xs (x3 + (4 : Int32)).toNatClampNeg) (xs (x3 + (5 : Int32)).toNatClampNeg) M304) fun v305 M306 =>
 if v303 = v305 then
 J2 M306
 else
 none))))))))))
 else
 if ((xs x3.toNatClampNeg) &&& (63 : Int32)) = 8 then
 ixk (x3 + (1 : Int32)) xn (
 bd (fX10_field φ xr1 (xs (x3 + (1 : Int32)).toNatClampNeg) M) fun v298 M299 =>
 ixk (x3 + (1 : Int32)) xn (
 bd (fX11_field φ xr2 (xs (x3 + (1 : Int32)).toNatClampNeg) M299) fun v300 M301 =>
 if v298 = v300 then
 J2 M301
 else
 none))
 else
 if ((xs x3.toNatClampNeg) &&& (63 : Int32)) = 9 then
 ixk (x3 + (1 : Int32)) xn (
 bd (fX10_years φ xr1 (xs (x3 + (1 : Int32)).toNatClampNeg) M) fun v293 M294 =>
 ixk (x3 + (1 : Int32)) xn (
 bd (fX11_years φ xr2 (xs (x3 + (1 : Int32)).toNatClampNeg) M294) fun v295 M296 =>
 if v293 = v295 then
 J2 M296
 else
 none))
 else
 if ((xs x3.toNatClampNeg) &&& (63 : Int32)) = 10 then
 ixk (x3 + (1 : Int32)) xn (
 (fX10_fault xr1 (xs (x3 + (1 : Int32)).toNatClampNeg) M).bind fun v290 =>
 ixk (x3 + (1 : Int32)) xn (
 (fX11_fault xr2 (xs (x3 + (1 : Int32)).toNatClampNeg) M).bind fun v291 =>
 if v290 = v291 then
 J2 M
 else
 none))
 else
 if ((xs x3.toNatClampNeg) &&& (63 : Int32)) = 11 then
 ixk (x3 + (1 : Int32)) xn (
 bd (fX10_told xr1 (xs (x3 + (1 : Int32)).toNatClampNeg) M) fun v285 M286 =>
 ixk (x3 + (1 : Int32)) xn (
 bd (fX11_told xr2 (xs (x3 + (1 : Int32)).toNatClampNeg) M286) fun v287 M288 =>
 if v285 = v287 then
 J2 M288
 else
 none))
 else
 if ((xs x3.toNatClampNeg) &&& (63 : Int32)) = 12 then
 ixk (x3 + (1 : Int32)) xn (
 bd (fX10_skip xr1 (xs (x3 + (1 : Int32)).toNatClampNeg) M) fun v280 M281 =>
 ixk (x3 + (1 : Int32)) xn (
 bd (fX11_skip xr2 (xs (x3 + (1 : Int32)).toNatClampNeg) M281) fun v282 M283 =>
 if v280 = v282 then
 J2 M283
 else
 none))
 else
 if ((xs x3.toNatClampNeg) &&& (63 : Int32)) = 13 then
 ixk (x3 + (1 : Int32)) xn (
 ixk (x3 + (2 : Int32)) xn (
 bd (fX10_unlike xr1 (xs (x3 + (1 : Int32)).toNatClampNeg) (xs (x3 + (2 : Int32)).toNatClampNeg) M) fun v275 M276 =>
 ixk (x3 + (1 : Int32)) xn (
 ixk (x3 + (2 : Int32)) xn (
 bd (fX11_unlike xr2 (xs (x3 + (1 : Int32)).toNatClampNeg) (xs (x3 + (2 : Int32)).toNatClampNeg) M276) fun v277 M278 =>
 if v275 = v277 then
 J2 M278
 else
 none))))
 else
 if ((xs x3.toNatClampNeg) &&& (63 : Int32)) = 14 then
 ixk (x3 + (1 : Int32)) xn (
 ixk (x3 + (2 : Int32)) xn (
 bd (fX10_hole φ xr1 (xs (x3 + (1 : Int32)).toNatClampNeg) (xs (x3 + (2 : Int32)).toNatClampNeg) M) fun v270 M271 =>
 ixk (x3 + (1 : Int32)) xn (
 ixk (x3 + (2 : Int32)) xn (
 bd (fX11_hole φ xr2 (xs (x3 + (1 : Int32)).toNatClampNeg) (xs (x3 + (2 : Int32)).toNatClampNeg) M271) fun v272 M273 =>
 if v270 = v272 then
 J2 M273
 else
 none))))
 else
 if ((xs x3.toNatClampNeg) &&& (63 : Int32)) = 15 then
 ixk (x3 + (1 : Int32)) xn (
 ixk (x3 + (2 : Int32)) xn (
 ixk (x3 + (3 : Int32)) xn (
 bd (fX10_layer φ xr1 (xs (x3 + (1 : Int32)).toNatClampNeg) (xs (x3 + (2 : Int32)).toNatClampNeg) (xs (x3 + (3 : Int32)).toNatClampNeg) M) fun v265 M266 =>
 ixk (x3 + (1 : Int32)) xn (
 ixk (x3 + (2 : Int32)) xn (
 ixk (x3 + (3 : Int32)) xn (
 bd (fX11_layer φ xr2 (xs (x3 + (1 : Int32)).toNatClampNeg) (xs (x3 + (2 : Int32)).toNatClampNeg) (xs (x3 + (3 : Int32)).toNatClampNeg) M266) fun v267 M268 =>
 if v265 = v267 then
 J2 M268
 else
 none))))))
 else
 if ((xs x3.toNatClampNeg) &&& (63 : Int32)) = 16 then
 ixk (x3 + (1 : Int32)) xn (
 ixk (x3 + (2 : Int32)) xn (
 bd (fX10_layerAt φ xr1 (xs (x3 + (1 : Int32)).toNatClampNeg) (xs (x3 + (2 : Int32)).toNatClampNeg) M) fun v260 M261 =>
 ixk (x3 + (1 : Int32)) xn (
 ixk (x3 + (2 : Int32)) xn (
 bd (fX11_layerAt φ xr2 (xs (x3 + (1 : Int32)).toNatClampNeg) (xs (x3 + (2 : Int32)).toNatClampNeg) M261) fun v262 M263 =>
 if v260 = v262 then
 J2 M263
 else
 none))))
 else
 if ((xs x3.toNatClampNeg) &&& (63 : Int32)) = 17 then
 ixk (x3 + (1 : Int32)) xn (
 ixk (x3 + (2 : Int32)) xn (
 bd (fX10_side xr1 (xs (x3 + (1 : Int32)).toNatClampNeg) (xs (x3 + (2 : Int32)).toNatClampNeg) M) fun v255 M256 =>
 ixk (x3 + (1 : Int32)) xn (
 ixk (x3 + (2 : Int32)) xn (
 bd (fX11_side xr2 (xs (x3 + (1 : Int32)).toNatClampNeg) (xs (x3 + (2 : Int32)).toNatClampNeg) M256) fun v257 M258 =>
 if v255 = v257 then
 J2 M258
 else
 none))))
 else
 if ((xs x3.toNatClampNeg) &&& (63 : Int32)) = 18 then
 ixk (x3 + (1 : Int32)) xn (
 ixk (x3 + (2 : Int32)) xn (
 bd (fX10_match φ xr1 (xs (x3 + (1 : Int32)).toNatClampNeg) (xs (x3 + (2 : Int32)).toNatClampNeg) M) fun v250 M251 =>
 ixk (x3 + (1 : Int32)) xn (
 ixk (x3 + (2 : Int32)) xn (
 bd (fX11_match φ xr2 (xs (x3 + (1 : Int32)).toNatClampNeg) (xs (x3 + (2 : Int32)).toNatClampNeg) M251) fun v252 M253 =>
 if v250 = v252 then
 J2 M253
 else
 none))))
 else
 if ((xs x3.toNatClampNeg) &&& (63 : Int32)) = 19 then
 ixk (x3 + (1 : Int32)) xn (
 bd (fX10_pairOf xr1 (xs (x3 + (1 : Int32)).toNatClampNeg) M) fun v245 M246 =>
 ixk (x3 + (1 : Int32)) xn (
 bd (fX11_pairOf xr2 (xs (x3 + (1 : Int32)).toNatClampNeg) M246) fun v247 M248 =>
 if v245 = v247 then
 J2 M248
 else
 none))
 else
 if ((xs x3.toNatClampNeg) &&& (63 : Int32)) = 20 then
 bd (fX10_pairs xr1 M) fun v240 M241 =>
 bd (fX11_pairs xr2 M241) fun v242 M243 =>
 if v240 = v242 then
 J2 M243
 else
 none
 else
 if ((xs x3.toNatClampNeg) &&& (63 : Int32)) = 21 then
 ixk (x3 + (1 : Int32)) xn (
 ixk (x3 + (2 : Int32)) xn (
 bd (fX10_tree φ xr1 (xs (x3 + (1 : Int32)).toNatClampNeg) (xs (x3 + (2 : Int32)).toNatClampNeg) M) fun v235 M236 =>
 ixk (x3 + (1 : Int32)) xn (
 ixk (x3 + (2 : Int32)) xn (
 bd (fX11_tree φ xr2 (xs (x3 + (1 : Int32)).toNatClampNeg) (xs (x3 + (2 : Int32)).toNatClampNeg) M236) fun v237 M238 =>
 if v235 = v237 then
 J2 M238
 else
 none))))
 else
 if ((xs x3.toNatClampNeg) &&& (63 : Int32)) = 22 then
 bd (fX10_treeCost φ xr1 M) fun v230 M231 =>
 bd (fX11_treeCost φ xr2 M231) fun v232 M233 =>
 if v230 = v232 then
 J2 M233
 else
 none
 else
 if ((xs x3.toNatClampNeg) &&& (63 : Int32)) = 23 then
 bd (fX10_beds φ xr1 M) fun v225 M226 =>
 bd (fX11_beds φ xr2 M226) fun v227 M228 =>
 if v225 = v227 then
 J2 M228
 else
 none
 else
 if ((xs x3.toNatClampNeg) &&& (63 : Int32)) = 24 then
 ixk (x3 + (1 : Int32)) xn (
 ixk (x3 + (2 : Int32)) xn (
 bd (fX10_bedOf φ xr1 (xs (x3 + (1 : Int32)).toNatClampNeg) (xs (x3 + (2 : Int32)).toNatClampNeg) M) fun v220 M221 =>
 ixk (x3 + (1 : Int32)) xn (
 ixk (x3 + (2 : Int32)) xn (
 bd (fX11_bedOf φ xr2 (xs (x3 + (1 : Int32)).toNatClampNeg) (xs (x3 + (2 : Int32)).toNatClampNeg) M221) fun v222 M223 =>
 if v220 = v222 then
 J2 M223
 else
 none))))
 else
 if ((xs x3.toNatClampNeg) &&& (63 : Int32)) = 25 then
 ixk (x3 + (1 : Int32)) xn (
 bd (fX10_holesOf φ xr1 (xs (x3 + (1 : Int32)).toNatClampNeg) M) fun v215 M216 =>
 ixk (x3 + (1 : Int32)) xn (
 bd (fX11_holesOf φ xr2 (xs (x3 + (1 : Int32)).toNatClampNeg) M216) fun v217 M218 =>
 if v215 = v217 then
 J2 M218
 else
 none))
 else
 if ((xs x3.toNatClampNeg) &&& (63 : Int32)) = 26 then
 ixk (x3 + (1 : Int32)) xn (
 ixk (x3 + (2 : Int32)) xn (
 ixk (x3 + (3 : Int32)) xn (
 bd (fX10_bed φ xr1 (xs (x3 + (1 : Int32)).toNatClampNeg) (xs (x3 + (2 : Int32)).toNatClampNeg) (xs (x3 + (3 : Int32)).toNatClampNeg) M) fun v210 M211 =>
 ixk (x3 + (1 : Int32)) xn (
 ixk (x3 + (2 : Int32)) xn (
 ixk (x3 + (3 : Int32)) xn (
 bd (fX11_bed φ xr2 (xs (x3 + (1 : Int32)).toNatClampNeg) (xs (x3 + (2 : Int32)).toNatClampNeg) (xs (x3 + (3 : Int32)).toNatClampNeg) M211) fun v212 M213 =>
 if v210 = v212 then
 J2 M213
 else
 none))))))
 else
 if ((xs x3.toNatClampNeg) &&& (63 : Int32)) = 27 then
 ixk (x3 + (1 : Int32)) xn (
 ixk (x3 + (2 : Int32)) xn (
 bd (fX10_above φ xr1 (xs (x3 + (1 : Int32)).toNatClampNeg) (xs (x3 + (2 : Int32)).toNatClampNeg) M) fun v205 M206 =>
 ixk (x3 + (1 : Int32)) xn (
 ixk (x3 + (2 : Int32)) xn (
 bd (fX11_above φ xr2 (xs (x3 + (1 : Int32)).toNatClampNeg) (xs (x3 + (2 : Int32)).toNatClampNeg) M206) fun v207 M208 =>
 if v205 = v207 then
 J2 M208
 else
 none))))
 else
 if ((xs x3.toNatClampNeg) &&& (63 : Int32)) = 28 then
 ixk (x3 + (1 : Int32)) xn (
 bd (fX10_order φ xr1 (xs (x3 + (1 : Int32)).toNatClampNeg) M) fun v200 M201 =>
 ixk (x3 + (1 : Int32)) xn (
 bd (fX11_order φ xr2 (xs (x3 + (1 : Int32)).toNatClampNeg) M201) fun v202 M203 =>
 if v200 = v202 then
 J2 M203
 else
 none))
 else
 if ((xs x3.toNatClampNeg) &&& (63 : Int32)) = 29 then
 bd (fX10_widest φ xr1 M) fun v195 M196 =>
 bd (fX11_widest φ xr2 M196) fun v197 M198 =>
 if v195 = v197 then
 J2 M198
 else
 none
 else
 if ((xs x3.toNatClampNeg) &&& (63 : Int32)) = 30 then
 ixk (x3 + (1 : Int32)) xn (
 bd (fX10_area φ xr1 (xs (x3 + (1 : Int32)).toNatClampNeg) M) fun v190 M191 =>
 ixk (x3 + (1 : Int32)) xn (
 bd (fX11_area φ xr2 (xs (x3 + (1 : Int32)).toNatClampNeg) M191) fun v192 M193 =>
 if v190 = v192 then
 J2 M193
 else
 none))
 else
 if ((xs x3.toNatClampNeg) &&& (63 : Int32)) = 31 then
 ixk (x3 + (1 : Int32)) xn (
 bd (fX10_across φ xr1 (xs (x3 + (1 : Int32)).toNatClampNeg) M) fun v185 M186 =>
 ixk (x3 + (1 : Int32)) xn (
 bd (fX11_across φ xr2 (xs (x3 + (1 : Int32)).toNatClampNeg) M186) fun v187 M188 =>
 if v185 = v187 then
 J2 M188
 else
 none))
 else
 if ((xs x3.toNatClampNeg) &&& (63 : Int32)) = 32 then
 ixk (x3 + (1 : Int32)) xn (
 ixk (x3 + (2 : Int32)) xn (
 bd (fX10_triangleAt φ xr1 (xs (x3 + (1 : Int32)).toNatClampNeg) (xs (x3 + (2 : Int32)).toNatClampNeg) M) fun v180 M181 =>
 ixk (x3 + (1 : Int32)) xn (
 ixk (x3 + (2 : Int32)) xn (
 bd (fX11_triangleAt φ xr2 (xs (x3 + (1 : Int32)).toNatClampNeg) (xs (x3 + (2 : Int32)).toNatClampNeg) M181) fun v182 M183 =>
 if v180 = v182 then
 J2 M183
 else
 none))))
 else
 if ((xs x3.toNatClampNeg) &&& (63 : Int32)) = 33 then
 ixk (x3 + (1 : Int32)) xn (
 ixk (x3 + (2 : Int32)) xn (
 ixk (x3 + (3 : Int32)) xn (
 bd (fX10_topAt φ xr1 (xs (x3 + (1 : Int32)).toNatClampNeg) (xs (x3 + (2 : Int32)).toNatClampNeg) (xs (x3 + (3 : Int32)).toNatClampNeg) M) fun v175 M176 =>
 ixk (x3 + (1 : Int32)) xn (
 ixk (x3 + (2 : Int32)) xn (
 ixk (x3 + (3 : Int32)) xn (
 bd (fX11_topAt φ xr2 (xs (x3 + (1 : Int32)).toNatClampNeg) (xs (x3 + (2 : Int32)).toNatClampNeg) (xs (x3 + (3 : Int32)).toNatClampNeg) M176) fun v177 M178 =>
 if v175 = v177 then
 J2 M178
 else
 none))))))
 else
 if ((xs x3.toNatClampNeg) &&& (63 : Int32)) = 34 then
 ixk (x3 + (1 : Int32)) xn (
 ixk (x3 + (2 : Int32)) xn (
 ixk (x3 + (3 : Int32)) xn (
 bd (fX10_thickAt φ xr1 (xs (x3 + (1 : Int32)).toNatClampNeg) (xs (x3 + (2 : Int32)).toNatClampNeg) (xs (x3 + (3 : Int32)).toNatClampNeg) M) fun v170 M171 =>
 ixk (x3 + (1 : Int32)) xn (
 ixk (x3 + (2 : Int32)) xn (
 ixk (x3 + (3 : Int32)) xn (
 bd (fX11_thickAt φ xr2 (xs (x3 + (1 : Int32)).toNatClampNeg) (xs (x3 + (2 : Int32)).toNatClampNeg) (xs (x3 + (3 : Int32)).toNatClampNeg) M171) fun v172 M173 =>
 if v170 = v172 then
 J2 M173
 else
 none))))))
 else
 if ((xs x3.toNatClampNeg) &&& (63 : Int32)) = 35 then
 ixk (x3 + (1 : Int32)) xn (
 ixk (x3 + (2 : Int32)) xn (
 bd (fX10_volume φ xr1 (xs (x3 + (1 : Int32)).toNatClampNeg) (xs (x3 + (2 : Int32)).toNatClampNeg) M) fun v165 M166 =>
 ixk (x3 + (1 : Int32)) xn (
 ixk (x3 + (2 : Int32)) xn (
 bd (fX11_volume φ xr2 (xs (x3 + (1 : Int32)).toNatClampNeg) (xs (x3 + (2 : Int32)).toNatClampNeg) M166) fun v167 M168 =>
 if v165 = v167 then
 J2 M168
 else
 none))))
 else
 if ((xs x3.toNatClampNeg) &&& (63 : Int32)) = 36 then
 ixk (x3 + (1 : Int32)) xn (
 bd (fX10_volumeOf φ xr1 (xs (x3 + (1 : Int32)).toNatClampNeg) M) fun v160 M161 =>
 ixk (x3 + (1 : Int32)) xn (
 bd (fX11_volumeOf φ xr2 (xs (x3 + (1 : Int32)).toNatClampNeg) M161) fun v162 M163 =>
 if v160 = v162 then
 J2 M163
 else
 none))
 else
 if ((xs x3.toNatClampNeg) &&& (63 : Int32)) = 37 then
 ixk (x3 + (1 : Int32)) xn (
 ixk (x3 + (2 : Int32)) xn (
 ixk (x3 + (3 : Int32)) xn (
 bd (fX10_tilt φ xr1 (xs (x3 + (1 : Int32)).toNatClampNeg) (xs (x3 + (2 : Int32)).toNatClampNeg) (xs (x3 + (3 : Int32)).toNatClampNeg) M) fun v155 M156 =>
 ixk (x3 + (1 : Int32)) xn (
 ixk (x3 + (2 : Int32)) xn (
 ixk (x3 + (3 : Int32)) xn (
 bd (fX11_tilt φ xr2 (xs (x3 + (1 : Int32)).toNatClampNeg) (xs (x3 + (2 : Int32)).toNatClampNeg) (xs (x3 + (3 : Int32)).toNatClampNeg) M156) fun v157 M158 =>
 if v155 = v157 then
 J2 M158
 else
 none))))))
 else
 if ((xs x3.toNatClampNeg) &&& (63 : Int32)) = 38 then
 ixk (x3 + (1 : Int32)) xn (
 bd (fX10_deepest φ xr1 (xs (x3 + (1 : Int32)).toNatClampNeg) M) fun v150 M151 =>
 ixk (x3 + (1 : Int32)) xn (
 bd (fX11_deepest φ xr2 (xs (x3 + (1 : Int32)).toNatClampNeg) M151) fun v152 M153 =>
 if v150 = v152 then
 J2 M153
 else
 none))
 else
 if ((xs x3.toNatClampNeg) &&& (63 : Int32)) = 39 then
 ixk (x3 + (1 : Int32)) xn (
 ixk (x3 + (2 : Int32)) xn (
 bd (fX10_shared φ xr1 (xs (x3 + (1 : Int32)).toNatClampNeg) (xs (x3 + (2 : Int32)).toNatClampNeg) M) fun v145 M146 =>
 ixk (x3 + (1 : Int32)) xn (
 ixk (x3 + (2 : Int32)) xn (
 bd (fX11_shared φ xr2 (xs (x3 + (1 : Int32)).toNatClampNeg) (xs (x3 + (2 : Int32)).toNatClampNeg) M146) fun v147 M148 =>
 if v145 = v147 then
 J2 M148
 else
 none))))
 else
 if ((xs x3.toNatClampNeg) &&& (63 : Int32)) = 40 then
 ixk (x3 + (1 : Int32)) xn (
 bd (fX10_gaps φ xr1 (xs (x3 + (1 : Int32)).toNatClampNeg) M) fun v140 M141 =>
 ixk (x3 + (1 : Int32)) xn (
 bd (fX11_gaps φ xr2 (xs (x3 + (1 : Int32)).toNatClampNeg) M141) fun v142 M143 =>
 if v140 = v142 then
 J2 M143
 else
 none))
 else
 if ((xs x3.toNatClampNeg) &&& (63 : Int32)) = 41 then
 ixk (x3 + (1 : Int32)) xn (
 ixk (x3 + (2 : Int32)) xn (
 bd (fX10_draws φ xr1 (xs (x3 + (1 : Int32)).toNatClampNeg) (xs (x3 + (2 : Int32)).toNatClampNeg) M) fun v135 M136 =>
 ixk (x3 + (1 : Int32)) xn (
 ixk (x3 + (2 : Int32)) xn (
 bd (fX11_draws φ xr2 (xs (x3 + (1 : Int32)).toNatClampNeg) (xs (x3 + (2 : Int32)).toNatClampNeg) M136) fun v137 M138 =>
 if v135 = v137 then
 J2 M138
 else
 none))))
 else
 if ((xs x3.toNatClampNeg) &&& (63 : Int32)) = 42 then
 ixk (x3 + (1 : Int32)) xn (
 ixk (x3 + (2 : Int32)) xn (
 ixk (x3 + (3 : Int32)) xn (
 ixk (x3 + (4 : Int32)) xn (
 bd (fX10_picks φ xr1 (xs (x3 + (1 : Int32)).toNatClampNeg) (xs (x3 + (2 : Int32)).toNatClampNeg) (xs (x3 + (3 : Int32)).toNatClampNeg) (xs (x3 + (4 : Int32)).toNatClampNeg) M) fun v130 M131 =>
 ixk (x3 + (1 : Int32)) xn (
 ixk (x3 + (2 : Int32)) xn (
 ixk (x3 + (3 : Int32)) xn (
 ixk (x3 + (4 : Int32)) xn (
 bd (fX11_picks φ xr2 (xs (x3 + (1 : Int32)).toNatClampNeg) (xs (x3 + (2 : Int32)).toNatClampNeg) (xs (x3 + (3 : Int32)).toNatClampNeg) (xs (x3 + (4 : Int32)).toNatClampNeg) M131) fun v132 M133 =>
 if v130 = v132 then
 J2 M133
 else
 none))))))))
 else
 if ((xs x3.toNatClampNeg) &&& (63 : Int32)) = 43 then
 ixk (x3 + (1 : Int32)) xn (
 bd (fX10_pickAt xr1 (xs (x3 + (1 : Int32)).toNatClampNeg) M) fun v125 M126 =>
 ixk (x3 + (1 : Int32)) xn (
 bd (fX11_pickAt xr2 (xs (x3 + (1 : Int32)).toNatClampNeg) M126) fun v127 M128 =>
 if v125 = v127 then
 J2 M128
 else
 none))
 else
 if ((xs x3.toNatClampNeg) &&& (63 : Int32)) = 44 then
 ixk (x3 + (1 : Int32)) xn (
 ixk (x3 + (2 : Int32)) xn (
 bd (fX10_fill φ xr1 (xs (x3 + (1 : Int32)).toNatClampNeg) (xs (x3 + (2 : Int32)).toNatClampNeg) M) fun v120 M121 =>
 ixk (x3 + (1 : Int32)) xn (
 ixk (x3 + (2 : Int32)) xn (
 bd (fX11_fill φ xr2 (xs (x3 + (1 : Int32)).toNatClampNeg) (xs (x3 + (2 : Int32)).toNatClampNeg) M121) fun v122 M123 =>
 if v120 = v122 then
 J2 M123
 else
 none))))
 else
 if ((xs x3.toNatClampNeg) &&& (63 : Int32)) = 45 then
 ixk (x3 + (1 : Int32)) xn (
 ixk (x3 + (2 : Int32)) xn (
 bd (fX10_runs φ xr1 (xs (x3 + (1 : Int32)).toNatClampNeg) (xs (x3 + (2 : Int32)).toNatClampNeg) M) fun v115 M116 =>
 ixk (x3 + (1 : Int32)) xn (
 ixk (x3 + (2 : Int32)) xn (
 bd (fX11_runs φ xr2 (xs (x3 + (1 : Int32)).toNatClampNeg) (xs (x3 + (2 : Int32)).toNatClampNeg) M116) fun v117 M118 =>
 if v115 = v117 then
 J2 M118
 else
 none))))
 else
 if ((xs x3.toNatClampNeg) &&& (63 : Int32)) = 46 then
 ixk (x3 + (1 : Int32)) xn (
 ixk (x3 + (2 : Int32)) xn (
 ixk (x3 + (3 : Int32)) xn (
 bd (fX10_agrees φ xr1 (xs (x3 + (1 : Int32)).toNatClampNeg) (xs (x3 + (2 : Int32)).toNatClampNeg) (xs (x3 + (3 : Int32)).toNatClampNeg) M) fun v110 M111 =>
 ixk (x3 + (1 : Int32)) xn (
 ixk (x3 + (2 : Int32)) xn (
 ixk (x3 + (3 : Int32)) xn (
 bd (fX11_agrees φ xr2 (xs (x3 + (1 : Int32)).toNatClampNeg) (xs (x3 + (2 : Int32)).toNatClampNeg) (xs (x3 + (3 : Int32)).toNatClampNeg) M111) fun v112 M113 =>
 if v110 = v112 then
 J2 M113
 else
 none))))))
 else
 if ((xs x3.toNatClampNeg) &&& (63 : Int32)) = 47 then
 ixk (x3 + (1 : Int32)) xn (
 ixk (x3 + (2 : Int32)) xn (
 ixk (x3 + (3 : Int32)) xn (
 ixk (x3 + (4 : Int32)) xn (
 bd (fX10_shift φ xr1 (xs (x3 + (1 : Int32)).toNatClampNeg) (xs (x3 + (2 : Int32)).toNatClampNeg) (xs (x3 + (3 : Int32)).toNatClampNeg) (xs (x3 + (4 : Int32)).toNatClampNeg) M) fun v105 M106 =>
 ixk (x3 + (1 : Int32)) xn (
 ixk (x3 + (2 : Int32)) xn (
 ixk (x3 + (3 : Int32)) xn (
 ixk (x3 + (4 : Int32)) xn (
 bd (fX11_shift φ xr2 (xs (x3 + (1 : Int32)).toNatClampNeg) (xs (x3 + (2 : Int32)).toNatClampNeg) (xs (x3 + (3 : Int32)).toNatClampNeg) (xs (x3 + (4 : Int32)).toNatClampNeg) M106) fun v107 M108 =>
 if v105 = v107 then
 J2 M108
 else
 none))))))))
 else
 if ((xs x3.toNatClampNeg) &&& (63 : Int32)) = 48 then
 ixk (x3 + (1 : Int32)) xn (
 ixk (x3 + (2 : Int32)) xn (
 bd (fX10_likest φ xr1 (xs (x3 + (1 : Int32)).toNatClampNeg) (xs (x3 + (2 : Int32)).toNatClampNeg) M) fun v100 M101 =>
 ixk (x3 + (1 : Int32)) xn (
 ixk (x3 + (2 : Int32)) xn (
 bd (fX11_likest φ xr2 (xs (x3 + (1 : Int32)).toNatClampNeg) (xs (x3 + (2 : Int32)).toNatClampNeg) M101) fun v102 M103 =>
 if v100 = v102 then
 J2 M103
 else
 none))))
 else
 if ((xs x3.toNatClampNeg) &&& (63 : Int32)) = 49 then
 ixk (x3 + (1 : Int32)) xn (
 ixk (x3 + (2 : Int32)) xn (
 ixk (x3 + (3 : Int32)) xn (
 bd (fX10_lay xr1 (xs (x3 + (1 : Int32)).toNatClampNeg) (xs (x3 + (2 : Int32)).toNatClampNeg) (xs (x3 + (3 : Int32)).toNatClampNeg) M) fun v95 M96 =>
 ixk (x3 + (1 : Int32)) xn (
 ixk (x3 + (2 : Int32)) xn (
 ixk (x3 + (3 : Int32)) xn (
 bd (fX11_lay φ xr2 (xs (x3 + (1 : Int32)).toNatClampNeg) (xs (x3 + (2 : Int32)).toNatClampNeg) (xs (x3 + (3 : Int32)).toNatClampNeg) M96) fun v97 M98 =>
 if v95 = v97 then
 J2 M98
 else
 none))))))
 else
 if ((xs x3.toNatClampNeg) &&& (63 : Int32)) = 50 then
 ixk (x3 + (1 : Int32)) xn (
 ixk (x3 + (2 : Int32)) xn (
 bd (fX10_wear φ xr1 (xs (x3 + (1 : Int32)).toNatClampNeg) (xs (x3 + (2 : Int32)).toNatClampNeg) M) fun v90 M91 =>
 ixk (x3 + (1 : Int32)) xn (
 ixk (x3 + (2 : Int32)) xn (
 bd (fX11_wear φ xr2 (xs (x3 + (1 : Int32)).toNatClampNeg) (xs (x3 + (2 : Int32)).toNatClampNeg) M91) fun v92 M93 =>
 if v90 = v92 then
 J2 M93
 else
 none))))
 else
 if ((xs x3.toNatClampNeg) &&& (63 : Int32)) = 51 then
 ixk (x3 + (1 : Int32)) xn (
 ixk (x3 + (2 : Int32)) xn (
 bd (fX10_throwing xr1 (xs (x3 + (1 : Int32)).toNatClampNeg) (xs (x3 + (2 : Int32)).toNatClampNeg) M) fun v85 M86 =>
 ixk (x3 + (1 : Int32)) xn (
 ixk (x3 + (2 : Int32)) xn (
 bd (fX11_throwing xr2 (xs (x3 + (1 : Int32)).toNatClampNeg) (xs (x3 + (2 : Int32)).toNatClampNeg) M86) fun v87 M88 =>
 if v85 = v87 then
 J2 M88
 else
 none))))
 else
 if ((xs x3.toNatClampNeg) &&& (63 : Int32)) = 52 then
 ixk (x3 + (1 : Int32)) xn (
 bd (fX10_live φ xr1 (xs (x3 + (1 : Int32)).toNatClampNeg) M) fun v80 M81 =>
 ixk (x3 + (1 : Int32)) xn (
 bd (fX11_live φ xr2 (xs (x3 + (1 : Int32)).toNatClampNeg) M81) fun v82 M83 =>
 if v80 = v82 then
 J2 M83
 else
 none))
 else
 if ((xs x3.toNatClampNeg) &&& (63 : Int32)) = 53 then
 ixk (x3 + (1 : Int32)) xn (
 bd (fX10_lived xr1 (xs (x3 + (1 : Int32)).toNatClampNeg) M) fun v75 M76 =>
 ixk (x3 + (1 : Int32)) xn (
 bd (fX11_lived xr2 (xs (x3 + (1 : Int32)).toNatClampNeg) M76) fun v77 M78 =>
 if v75 = v77 then
 J2 M78
 else
 none))
 else
 if ((xs x3.toNatClampNeg) &&& (63 : Int32)) = 54 then
 ixk (x3 + (1 : Int32)) xn (
 ixk (x3 + (2 : Int32)) xn (
 ixk (x3 + (3 : Int32)) xn (
 ixk (x3 + (4 : Int32)) xn (
 bd (fX10_odds φ xr1 (xs (x3 + (1 : Int32)).toNatClampNeg) (xs (x3 + (2 : Int32)).toNatClampNeg) (xs (x3 + (3 : Int32)).toNatClampNeg) (xs (x3 + (4 : Int32)).toNatClampNeg) M) fun v70 M71 =>
 ixk (x3 + (1 : Int32)) xn (
 ixk (x3 + (2 : Int32)) xn (
 ixk (x3 + (3 : Int32)) xn (
 ixk (x3 + (4 : Int32)) xn (
 bd (fX11_odds φ xr2 (xs (x3 + (1 : Int32)).toNatClampNeg) (xs (x3 + (2 : Int32)).toNatClampNeg) (xs (x3 + (3 : Int32)).toNatClampNeg) (xs (x3 + (4 : Int32)).toNatClampNeg) M71) fun v72 M73 =>
 if v70 = v72 then
 J2 M73
 else
 none))))))))
 else
 if ((xs x3.toNatClampNeg) &&& (63 : Int32)) = 55 then
 bd (fX10_mark xr1 M) fun v65 M66 =>
 bd (fX11_mark φ xr2 M66) fun v67 M68 =>
 if v65 = v67 then
 J2 M68
 else
 none
 else
 if ((xs x3.toNatClampNeg) &&& (63 : Int32)) = 56 then
 bd (fX10_back xr1 M) fun v60 M61 =>
 bd (fX11_back φ xr2 M61) fun v62 M63 =>
 if v60 = v62 then
 J2 M63
 else
 none
 else
 J2 M))
theorem lL_law_18_s (φ : Nat) (xn : Nat) (xs : Nat → Int32) (t : Nat) (xr1 : Nat) (xr2 : Nat) (n : Nat) (x3 : Int32) (M : Mem) : lL_law_18 φ xn xs t xr1 xr2 (n + 1) x3 M =
    if ((Int32.ofNat xn) - (6 : Int32)) < x3 then
 some ((1 : Int32), M)
 else
 ixk x3 xn (
 jn (fun (M1 : Mem) => lL_law_18 φ xn xs t xr1 xr2 n (x3 + 6) M1) (fun J2 => if ((xs x3.toNatClampNeg) &&& (63 : Int32)) = 0 then
 (fX10_status xr1 M).bind fun v334 =>
 (fX11_status xr2 M).bind fun v335 =>
 if v334 = v335 then
 J2 M
 else
 none
 else
 if ((xs x3.toNatClampNeg) &&& (63 : Int32)) = 1 then
 (fX10_top xr1 M).bind fun vz331 =>
 (fX11_top xr2 M).bind fun vz332 =>
 if vz331 = vz332 then
 J2 M
 else
 none
 else
 if ((xs x3.toNatClampNeg) &&& (63 : Int32)) = 2 then
 (fX10_bottom xr1 M).bind fun vz328 =>
 (fX11_bottom xr2 M).bind fun vz329 =>
 if vz328 = vz329 then
 J2 M
 else
 none
 else
 if ((xs x3.toNatClampNeg) &&& (63 : Int32)) = 3 then
 ixk (x3 + (1 : Int32)) xn (
 ixk (x3 + (2 : Int32)) xn (
 ixk (x3 + (3 : Int32)) xn (
 bd (fX10_tray φ xr1 (xs (x3 + (1 : Int32)).toNatClampNeg) (xs (x3 + (2 : Int32)).toNatClampNeg) (xs (x3 + (3 : Int32)).toNatClampNeg) M) fun v323 M324 =>
 ixk (x3 + (1 : Int32)) xn (
 ixk (x3 + (2 : Int32)) xn (
 ixk (x3 + (3 : Int32)) xn (
 bd (fX11_tray φ xr2 (xs (x3 + (1 : Int32)).toNatClampNeg) (xs (x3 + (2 : Int32)).toNatClampNeg) (xs (x3 + (3 : Int32)).toNatClampNeg) M324) fun v325 M326 =>
 if v323 = v325 then
 J2 M326
 else
 none))))))
 else
 if ((xs x3.toNatClampNeg) &&& (63 : Int32)) = 4 then
 ixk (x3 + (1 : Int32)) xn (
 ixk (x3 + (2 : Int32)) xn (
 ixk (x3 + (3 : Int32)) xn (
 ixk (x3 + (4 : Int32)) xn (
 bd (fX10_write xr1 (xs (x3 + (1 : Int32)).toNatClampNeg) (xs (x3 + (2 : Int32)).toNatClampNeg) ((((xs (x3 + (3 : Int32)).toNatClampNeg).toInt64) <<< ((32 : Int32).toInt64 &&& 63)) ||| (((xs (x3 + (4 : Int32)).toNatClampNeg).toInt64) &&& (4294967295 : Int64))) M) fun v318 M319 =>
 ixk (x3 + (1 : Int32)) xn (
 ixk (x3 + (2 : Int32)) xn (
 ixk (x3 + (3 : Int32)) xn (
 ixk (x3 + (4 : Int32)) xn (
 bd (fX11_write xr2 (xs (x3 + (1 : Int32)).toNatClampNeg) (xs (x3 + (2 : Int32)).toNatClampNeg) ((((xs (x3 + (3 : Int32)).toNatClampNeg).toInt64) <<< ((32 : Int32).toInt64 &&& 63)) ||| (((xs (x3 + (4 : Int32)).toNatClampNeg).toInt64) &&& (4294967295 : Int64))) M319) fun v320 M321 =>
 if v318 = v320 then
 J2 M321
 else
 none))))))))
 else
 if ((xs x3.toNatClampNeg) &&& (63 : Int32)) = 5 then
 ixk (x3 + (1 : Int32)) xn (
 ixk (x3 + (2 : Int32)) xn (
 bd (fX10_read xr1 (xs (x3 + (1 : Int32)).toNatClampNeg) (xs (x3 + (2 : Int32)).toNatClampNeg) M) fun vz313 M314 =>
 ixk (x3 + (1 : Int32)) xn (
 ixk (x3 + (2 : Int32)) xn (
 bd (fX11_read xr2 (xs (x3 + (1 : Int32)).toNatClampNeg) (xs (x3 + (2 : Int32)).toNatClampNeg) M314) fun vz315 M316 =>
 if vz313 = vz315 then
 J2 M316
 else
 none))))
 else
 if ((xs x3.toNatClampNeg) &&& (63 : Int32)) = 6 then
 ixk (x3 + (1 : Int32)) xn (
 ixk (x3 + (2 : Int32)) xn (
 ixk (x3 + (3 : Int32)) xn (
 ixk (x3 + (4 : Int32)) xn (
 ixk (x3 + (5 : Int32)) xn (
 bd (fX10_pour xr1 (xs (x3 + (1 : Int32)).toNatClampNeg) (xs (x3 + (2 : Int32)).toNatClampNeg) (xs (x3 + (3 : Int32)).toNatClampNeg) (xs (x3 + (4 : Int32)).toNatClampNeg) (xs (x3 + (5 : Int32)).toNatClampNeg) M) fun v308 M309 =>
 ixk (x3 + (1 : Int32)) xn (
 ixk (x3 + (2 : Int32)) xn (
 ixk (x3 + (3 : Int32)) xn (
 ixk (x3 + (4 : Int32)) xn (
 ixk (x3 + (5 : Int32)) xn (
 bd (fX11_pour φ xr2 (xs (x3 + (1 : Int32)).toNatClampNeg) (xs (x3 + (2 : Int32)).toNatClampNeg) (xs (x3 + (3 : Int32)).toNatClampNeg) (xs (x3 + (4 : Int32)).toNatClampNeg) (xs (x3 + (5 : Int32)).toNatClampNeg) M309) fun v310 M311 =>
 if v308 = v310 then
 J2 M311
 else
 none))))))))))
 else
 if ((xs x3.toNatClampNeg) &&& (63 : Int32)) = 7 then
 ixk (x3 + (1 : Int32)) xn (
 ixk (x3 + (2 : Int32)) xn (
 ixk (x3 + (3 : Int32)) xn (
 ixk (x3 + (4 : Int32)) xn (
 ixk (x3 + (5 : Int32)) xn (
 bd (fX10_feed φ xr1 (xs (x3 + (1 : Int32)).toNatClampNeg) (xs (x3 + (2 : Int32)).toNatClampNeg) (xs (x3 + (3 : Int32)).toNatClampNeg) (xs (x3 + (4 : Int32)).toNatClampNeg) (xs (x3 + (5 : Int32)).toNatClampNeg) M) fun v303 M304 =>
 ixk (x3 + (1 : Int32)) xn (
 ixk (x3 + (2 : Int32)) xn (
 ixk (x3 + (3 : Int32)) xn (
 ixk (x3 + (4 : Int32)) xn (
 ixk (x3 + (5 : Int32)) xn (
 bd (fX11_feed φ xr2 (xs (x3 + (1 : Int32)).toNatClampNeg) (xs (x3 + (2 : Int32)).toNatClampNeg) (xs (x3 + (3 : Int32)).toNatClampNeg) (xs (x3 + (4 : Int32)).toNatClampNeg) (xs (x3 + (5 : Int32)).toNatClampNeg) M304) fun v305 M306 =>
 if v303 = v305 then
 J2 M306
 else
 none))))))))))
 else
 if ((xs x3.toNatClampNeg) &&& (63 : Int32)) = 8 then
 ixk (x3 + (1 : Int32)) xn (
 bd (fX10_field φ xr1 (xs (x3 + (1 : Int32)).toNatClampNeg) M) fun v298 M299 =>
 ixk (x3 + (1 : Int32)) xn (
 bd (fX11_field φ xr2 (xs (x3 + (1 : Int32)).toNatClampNeg) M299) fun v300 M301 =>
 if v298 = v300 then
 J2 M301
 else
 none))
 else
 if ((xs x3.toNatClampNeg) &&& (63 : Int32)) = 9 then
 ixk (x3 + (1 : Int32)) xn (
 bd (fX10_years φ xr1 (xs (x3 + (1 : Int32)).toNatClampNeg) M) fun v293 M294 =>
 ixk (x3 + (1 : Int32)) xn (
 bd (fX11_years φ xr2 (xs (x3 + (1 : Int32)).toNatClampNeg) M294) fun v295 M296 =>
 if v293 = v295 then
 J2 M296
 else
 none))
 else
 if ((xs x3.toNatClampNeg) &&& (63 : Int32)) = 10 then
 ixk (x3 + (1 : Int32)) xn (
 (fX10_fault xr1 (xs (x3 + (1 : Int32)).toNatClampNeg) M).bind fun v290 =>
 ixk (x3 + (1 : Int32)) xn (
 (fX11_fault xr2 (xs (x3 + (1 : Int32)).toNatClampNeg) M).bind fun v291 =>
 if v290 = v291 then
 J2 M
 else
 none))
 else
 if ((xs x3.toNatClampNeg) &&& (63 : Int32)) = 11 then
 ixk (x3 + (1 : Int32)) xn (
 bd (fX10_told xr1 (xs (x3 + (1 : Int32)).toNatClampNeg) M) fun v285 M286 =>
 ixk (x3 + (1 : Int32)) xn (
 bd (fX11_told xr2 (xs (x3 + (1 : Int32)).toNatClampNeg) M286) fun v287 M288 =>
 if v285 = v287 then
 J2 M288
 else
 none))
 else
 if ((xs x3.toNatClampNeg) &&& (63 : Int32)) = 12 then
 ixk (x3 + (1 : Int32)) xn (
 bd (fX10_skip xr1 (xs (x3 + (1 : Int32)).toNatClampNeg) M) fun v280 M281 =>
 ixk (x3 + (1 : Int32)) xn (
 bd (fX11_skip xr2 (xs (x3 + (1 : Int32)).toNatClampNeg) M281) fun v282 M283 =>
 if v280 = v282 then
 J2 M283
 else
 none))
 else
 if ((xs x3.toNatClampNeg) &&& (63 : Int32)) = 13 then
 ixk (x3 + (1 : Int32)) xn (
 ixk (x3 + (2 : Int32)) xn (
 bd (fX10_unlike xr1 (xs (x3 + (1 : Int32)).toNatClampNeg) (xs (x3 + (2 : Int32)).toNatClampNeg) M) fun v275 M276 =>
 ixk (x3 + (1 : Int32)) xn (
 ixk (x3 + (2 : Int32)) xn (
 bd (fX11_unlike xr2 (xs (x3 + (1 : Int32)).toNatClampNeg) (xs (x3 + (2 : Int32)).toNatClampNeg) M276) fun v277 M278 =>
 if v275 = v277 then
 J2 M278
 else
 none))))
 else
 if ((xs x3.toNatClampNeg) &&& (63 : Int32)) = 14 then
 ixk (x3 + (1 : Int32)) xn (
 ixk (x3 + (2 : Int32)) xn (
 bd (fX10_hole φ xr1 (xs (x3 + (1 : Int32)).toNatClampNeg) (xs (x3 + (2 : Int32)).toNatClampNeg) M) fun v270 M271 =>
 ixk (x3 + (1 : Int32)) xn (
 ixk (x3 + (2 : Int32)) xn (
 bd (fX11_hole φ xr2 (xs (x3 + (1 : Int32)).toNatClampNeg) (xs (x3 + (2 : Int32)).toNatClampNeg) M271) fun v272 M273 =>
 if v270 = v272 then
 J2 M273
 else
 none))))
 else
 if ((xs x3.toNatClampNeg) &&& (63 : Int32)) = 15 then
 ixk (x3 + (1 : Int32)) xn (
 ixk (x3 + (2 : Int32)) xn (
 ixk (x3 + (3 : Int32)) xn (
 bd (fX10_layer φ xr1 (xs (x3 + (1 : Int32)).toNatClampNeg) (xs (x3 + (2 : Int32)).toNatClampNeg) (xs (x3 + (3 : Int32)).toNatClampNeg) M) fun v265 M266 =>
 ixk (x3 + (1 : Int32)) xn (
 ixk (x3 + (2 : Int32)) xn (
 ixk (x3 + (3 : Int32)) xn (
 bd (fX11_layer φ xr2 (xs (x3 + (1 : Int32)).toNatClampNeg) (xs (x3 + (2 : Int32)).toNatClampNeg) (xs (x3 + (3 : Int32)).toNatClampNeg) M266) fun v267 M268 =>
 if v265 = v267 then
 J2 M268
 else
 none))))))
 else
 if ((xs x3.toNatClampNeg) &&& (63 : Int32)) = 16 then
 ixk (x3 + (1 : Int32)) xn (
 ixk (x3 + (2 : Int32)) xn (
 bd (fX10_layerAt φ xr1 (xs (x3 + (1 : Int32)).toNatClampNeg) (xs (x3 + (2 : Int32)).toNatClampNeg) M) fun v260 M261 =>
 ixk (x3 + (1 : Int32)) xn (
 ixk (x3 + (2 : Int32)) xn (
 bd (fX11_layerAt φ xr2 (xs (x3 + (1 : Int32)).toNatClampNeg) (xs (x3 + (2 : Int32)).toNatClampNeg) M261) fun v262 M263 =>
 if v260 = v262 then
 J2 M263
 else
 none))))
 else
 if ((xs x3.toNatClampNeg) &&& (63 : Int32)) = 17 then
 ixk (x3 + (1 : Int32)) xn (
 ixk (x3 + (2 : Int32)) xn (
 bd (fX10_side xr1 (xs (x3 + (1 : Int32)).toNatClampNeg) (xs (x3 + (2 : Int32)).toNatClampNeg) M) fun v255 M256 =>
 ixk (x3 + (1 : Int32)) xn (
 ixk (x3 + (2 : Int32)) xn (
 bd (fX11_side xr2 (xs (x3 + (1 : Int32)).toNatClampNeg) (xs (x3 + (2 : Int32)).toNatClampNeg) M256) fun v257 M258 =>
 if v255 = v257 then
 J2 M258
 else
 none))))
 else
 if ((xs x3.toNatClampNeg) &&& (63 : Int32)) = 18 then
 ixk (x3 + (1 : Int32)) xn (
 ixk (x3 + (2 : Int32)) xn (
 bd (fX10_match φ xr1 (xs (x3 + (1 : Int32)).toNatClampNeg) (xs (x3 + (2 : Int32)).toNatClampNeg) M) fun v250 M251 =>
 ixk (x3 + (1 : Int32)) xn (
 ixk (x3 + (2 : Int32)) xn (
 bd (fX11_match φ xr2 (xs (x3 + (1 : Int32)).toNatClampNeg) (xs (x3 + (2 : Int32)).toNatClampNeg) M251) fun v252 M253 =>
 if v250 = v252 then
 J2 M253
 else
 none))))
 else
 if ((xs x3.toNatClampNeg) &&& (63 : Int32)) = 19 then
 ixk (x3 + (1 : Int32)) xn (
 bd (fX10_pairOf xr1 (xs (x3 + (1 : Int32)).toNatClampNeg) M) fun v245 M246 =>
 ixk (x3 + (1 : Int32)) xn (
 bd (fX11_pairOf xr2 (xs (x3 + (1 : Int32)).toNatClampNeg) M246) fun v247 M248 =>
 if v245 = v247 then
 J2 M248
 else
 none))
 else
 if ((xs x3.toNatClampNeg) &&& (63 : Int32)) = 20 then
 bd (fX10_pairs xr1 M) fun v240 M241 =>
 bd (fX11_pairs xr2 M241) fun v242 M243 =>
 if v240 = v242 then
 J2 M243
 else
 none
 else
 if ((xs x3.toNatClampNeg) &&& (63 : Int32)) = 21 then
 ixk (x3 + (1 : Int32)) xn (
 ixk (x3 + (2 : Int32)) xn (
 bd (fX10_tree φ xr1 (xs (x3 + (1 : Int32)).toNatClampNeg) (xs (x3 + (2 : Int32)).toNatClampNeg) M) fun v235 M236 =>
 ixk (x3 + (1 : Int32)) xn (
 ixk (x3 + (2 : Int32)) xn (
 bd (fX11_tree φ xr2 (xs (x3 + (1 : Int32)).toNatClampNeg) (xs (x3 + (2 : Int32)).toNatClampNeg) M236) fun v237 M238 =>
 if v235 = v237 then
 J2 M238
 else
 none))))
 else
 if ((xs x3.toNatClampNeg) &&& (63 : Int32)) = 22 then
 bd (fX10_treeCost φ xr1 M) fun v230 M231 =>
 bd (fX11_treeCost φ xr2 M231) fun v232 M233 =>
 if v230 = v232 then
 J2 M233
 else
 none
 else
 if ((xs x3.toNatClampNeg) &&& (63 : Int32)) = 23 then
 bd (fX10_beds φ xr1 M) fun v225 M226 =>
 bd (fX11_beds φ xr2 M226) fun v227 M228 =>
 if v225 = v227 then
 J2 M228
 else
 none
 else
 if ((xs x3.toNatClampNeg) &&& (63 : Int32)) = 24 then
 ixk (x3 + (1 : Int32)) xn (
 ixk (x3 + (2 : Int32)) xn (
 bd (fX10_bedOf φ xr1 (xs (x3 + (1 : Int32)).toNatClampNeg) (xs (x3 + (2 : Int32)).toNatClampNeg) M) fun v220 M221 =>
 ixk (x3 + (1 : Int32)) xn (
 ixk (x3 + (2 : Int32)) xn (
 bd (fX11_bedOf φ xr2 (xs (x3 + (1 : Int32)).toNatClampNeg) (xs (x3 + (2 : Int32)).toNatClampNeg) M221) fun v222 M223 =>
 if v220 = v222 then
 J2 M223
 else
 none))))
 else
 if ((xs x3.toNatClampNeg) &&& (63 : Int32)) = 25 then
 ixk (x3 + (1 : Int32)) xn (
 bd (fX10_holesOf φ xr1 (xs (x3 + (1 : Int32)).toNatClampNeg) M) fun v215 M216 =>
 ixk (x3 + (1 : Int32)) xn (
 bd (fX11_holesOf φ xr2 (xs (x3 + (1 : Int32)).toNatClampNeg) M216) fun v217 M218 =>
 if v215 = v217 then
 J2 M218
 else
 none))
 else
 if ((xs x3.toNatClampNeg) &&& (63 : Int32)) = 26 then
 ixk (x3 + (1 : Int32)) xn (
 ixk (x3 + (2 : Int32)) xn (
 ixk (x3 + (3 : Int32)) xn (
 bd (fX10_bed φ xr1 (xs (x3 + (1 : Int32)).toNatClampNeg) (xs (x3 + (2 : Int32)).toNatClampNeg) (xs (x3 + (3 : Int32)).toNatClampNeg) M) fun v210 M211 =>
 ixk (x3 + (1 : Int32)) xn (
 ixk (x3 + (2 : Int32)) xn (
 ixk (x3 + (3 : Int32)) xn (
 bd (fX11_bed φ xr2 (xs (x3 + (1 : Int32)).toNatClampNeg) (xs (x3 + (2 : Int32)).toNatClampNeg) (xs (x3 + (3 : Int32)).toNatClampNeg) M211) fun v212 M213 =>
 if v210 = v212 then
 J2 M213
 else
 none))))))
 else
 if ((xs x3.toNatClampNeg) &&& (63 : Int32)) = 27 then
 ixk (x3 + (1 : Int32)) xn (
 ixk (x3 + (2 : Int32)) xn (
 bd (fX10_above φ xr1 (xs (x3 + (1 : Int32)).toNatClampNeg) (xs (x3 + (2 : Int32)).toNatClampNeg) M) fun v205 M206 =>
 ixk (x3 + (1 : Int32)) xn (
 ixk (x3 + (2 : Int32)) xn (
 bd (fX11_above φ xr2 (xs (x3 + (1 : Int32)).toNatClampNeg) (xs (x3 + (2 : Int32)).toNatClampNeg) M206) fun v207 M208 =>
 if v205 = v207 then
 J2 M208
 else
 none))))
 else
 if ((xs x3.toNatClampNeg) &&& (63 : Int32)) = 28 then
 ixk (x3 + (1 : Int32)) xn (
 bd (fX10_order φ xr1 (xs (x3 + (1 : Int32)).toNatClampNeg) M) fun v200 M201 =>
 ixk (x3 + (1 : Int32)) xn (
 bd (fX11_order φ xr2 (xs (x3 + (1 : Int32)).toNatClampNeg) M201) fun v202 M203 =>
 if v200 = v202 then
 J2 M203
 else
 none))
 else
 if ((xs x3.toNatClampNeg) &&& (63 : Int32)) = 29 then
 bd (fX10_widest φ xr1 M) fun v195 M196 =>
 bd (fX11_widest φ xr2 M196) fun v197 M198 =>
 if v195 = v197 then
 J2 M198
 else
 none
 else
 if ((xs x3.toNatClampNeg) &&& (63 : Int32)) = 30 then
 ixk (x3 + (1 : Int32)) xn (
 bd (fX10_area φ xr1 (xs (x3 + (1 : Int32)).toNatClampNeg) M) fun v190 M191 =>
 ixk (x3 + (1 : Int32)) xn (
 bd (fX11_area φ xr2 (xs (x3 + (1 : Int32)).toNatClampNeg) M191) fun v192 M193 =>
 if v190 = v192 then
 J2 M193
 else
 none))
 else
 if ((xs x3.toNatClampNeg) &&& (63 : Int32)) = 31 then
 ixk (x3 + (1 : Int32)) xn (
 bd (fX10_across φ xr1 (xs (x3 + (1 : Int32)).toNatClampNeg) M) fun v185 M186 =>
 ixk (x3 + (1 : Int32)) xn (
 bd (fX11_across φ xr2 (xs (x3 + (1 : Int32)).toNatClampNeg) M186) fun v187 M188 =>
 if v185 = v187 then
 J2 M188
 else
 none))
 else
 if ((xs x3.toNatClampNeg) &&& (63 : Int32)) = 32 then
 ixk (x3 + (1 : Int32)) xn (
 ixk (x3 + (2 : Int32)) xn (
 bd (fX10_triangleAt φ xr1 (xs (x3 + (1 : Int32)).toNatClampNeg) (xs (x3 + (2 : Int32)).toNatClampNeg) M) fun v180 M181 =>
 ixk (x3 + (1 : Int32)) xn (
 ixk (x3 + (2 : Int32)) xn (
 bd (fX11_triangleAt φ xr2 (xs (x3 + (1 : Int32)).toNatClampNeg) (xs (x3 + (2 : Int32)).toNatClampNeg) M181) fun v182 M183 =>
 if v180 = v182 then
 J2 M183
 else
 none))))
 else
 if ((xs x3.toNatClampNeg) &&& (63 : Int32)) = 33 then
 ixk (x3 + (1 : Int32)) xn (
 ixk (x3 + (2 : Int32)) xn (
 ixk (x3 + (3 : Int32)) xn (
 bd (fX10_topAt φ xr1 (xs (x3 + (1 : Int32)).toNatClampNeg) (xs (x3 + (2 : Int32)).toNatClampNeg) (xs (x3 + (3 : Int32)).toNatClampNeg) M) fun v175 M176 =>
 ixk (x3 + (1 : Int32)) xn (
 ixk (x3 + (2 : Int32)) xn (
 ixk (x3 + (3 : Int32)) xn (
 bd (fX11_topAt φ xr2 (xs (x3 + (1 : Int32)).toNatClampNeg) (xs (x3 + (2 : Int32)).toNatClampNeg) (xs (x3 + (3 : Int32)).toNatClampNeg) M176) fun v177 M178 =>
 if v175 = v177 then
 J2 M178
 else
 none))))))
 else
 if ((xs x3.toNatClampNeg) &&& (63 : Int32)) = 34 then
 ixk (x3 + (1 : Int32)) xn (
 ixk (x3 + (2 : Int32)) xn (
 ixk (x3 + (3 : Int32)) xn (
 bd (fX10_thickAt φ xr1 (xs (x3 + (1 : Int32)).toNatClampNeg) (xs (x3 + (2 : Int32)).toNatClampNeg) (xs (x3 + (3 : Int32)).toNatClampNeg) M) fun v170 M171 =>
 ixk (x3 + (1 : Int32)) xn (
 ixk (x3 + (2 : Int32)) xn (
 ixk (x3 + (3 : Int32)) xn (
 bd (fX11_thickAt φ xr2 (xs (x3 + (1 : Int32)).toNatClampNeg) (xs (x3 + (2 : Int32)).toNatClampNeg) (xs (x3 + (3 : Int32)).toNatClampNeg) M171) fun v172 M173 =>
 if v170 = v172 then
 J2 M173
 else
 none))))))
 else
 if ((xs x3.toNatClampNeg) &&& (63 : Int32)) = 35 then
 ixk (x3 + (1 : Int32)) xn (
 ixk (x3 + (2 : Int32)) xn (
 bd (fX10_volume φ xr1 (xs (x3 + (1 : Int32)).toNatClampNeg) (xs (x3 + (2 : Int32)).toNatClampNeg) M) fun v165 M166 =>
 ixk (x3 + (1 : Int32)) xn (
 ixk (x3 + (2 : Int32)) xn (
 bd (fX11_volume φ xr2 (xs (x3 + (1 : Int32)).toNatClampNeg) (xs (x3 + (2 : Int32)).toNatClampNeg) M166) fun v167 M168 =>
 if v165 = v167 then
 J2 M168
 else
 none))))
 else
 if ((xs x3.toNatClampNeg) &&& (63 : Int32)) = 36 then
 ixk (x3 + (1 : Int32)) xn (
 bd (fX10_volumeOf φ xr1 (xs (x3 + (1 : Int32)).toNatClampNeg) M) fun v160 M161 =>
 ixk (x3 + (1 : Int32)) xn (
 bd (fX11_volumeOf φ xr2 (xs (x3 + (1 : Int32)).toNatClampNeg) M161) fun v162 M163 =>
 if v160 = v162 then
 J2 M163
 else
 none))
 else
 if ((xs x3.toNatClampNeg) &&& (63 : Int32)) = 37 then
 ixk (x3 + (1 : Int32)) xn (
 ixk (x3 + (2 : Int32)) xn (
 ixk (x3 + (3 : Int32)) xn (
 bd (fX10_tilt φ xr1 (xs (x3 + (1 : Int32)).toNatClampNeg) (xs (x3 + (2 : Int32)).toNatClampNeg) (xs (x3 + (3 : Int32)).toNatClampNeg) M) fun v155 M156 =>
 ixk (x3 + (1 : Int32)) xn (
 ixk (x3 + (2 : Int32)) xn (
 ixk (x3 + (3 : Int32)) xn (
 bd (fX11_tilt φ xr2 (xs (x3 + (1 : Int32)).toNatClampNeg) (xs (x3 + (2 : Int32)).toNatClampNeg) (xs (x3 + (3 : Int32)).toNatClampNeg) M156) fun v157 M158 =>
 if v155 = v157 then
 J2 M158
 else
 none))))))
 else
 if ((xs x3.toNatClampNeg) &&& (63 : Int32)) = 38 then
 ixk (x3 + (1 : Int32)) xn (
 bd (fX10_deepest φ xr1 (xs (x3 + (1 : Int32)).toNatClampNeg) M) fun v150 M151 =>
 ixk (x3 + (1 : Int32)) xn (
 bd (fX11_deepest φ xr2 (xs (x3 + (1 : Int32)).toNatClampNeg) M151) fun v152 M153 =>
 if v150 = v152 then
 J2 M153
 else
 none))
 else
 if ((xs x3.toNatClampNeg) &&& (63 : Int32)) = 39 then
 ixk (x3 + (1 : Int32)) xn (
 ixk (x3 + (2 : Int32)) xn (
 bd (fX10_shared φ xr1 (xs (x3 + (1 : Int32)).toNatClampNeg) (xs (x3 + (2 : Int32)).toNatClampNeg) M) fun v145 M146 =>
 ixk (x3 + (1 : Int32)) xn (
 ixk (x3 + (2 : Int32)) xn (
 bd (fX11_shared φ xr2 (xs (x3 + (1 : Int32)).toNatClampNeg) (xs (x3 + (2 : Int32)).toNatClampNeg) M146) fun v147 M148 =>
 if v145 = v147 then
 J2 M148
 else
 none))))
 else
 if ((xs x3.toNatClampNeg) &&& (63 : Int32)) = 40 then
 ixk (x3 + (1 : Int32)) xn (
 bd (fX10_gaps φ xr1 (xs (x3 + (1 : Int32)).toNatClampNeg) M) fun v140 M141 =>
 ixk (x3 + (1 : Int32)) xn (
 bd (fX11_gaps φ xr2 (xs (x3 + (1 : Int32)).toNatClampNeg) M141) fun v142 M143 =>
 if v140 = v142 then
 J2 M143
 else
 none))
 else
 if ((xs x3.toNatClampNeg) &&& (63 : Int32)) = 41 then
 ixk (x3 + (1 : Int32)) xn (
 ixk (x3 + (2 : Int32)) xn (
 bd (fX10_draws φ xr1 (xs (x3 + (1 : Int32)).toNatClampNeg) (xs (x3 + (2 : Int32)).toNatClampNeg) M) fun v135 M136 =>
 ixk (x3 + (1 : Int32)) xn (
 ixk (x3 + (2 : Int32)) xn (
 bd (fX11_draws φ xr2 (xs (x3 + (1 : Int32)).toNatClampNeg) (xs (x3 + (2 : Int32)).toNatClampNeg) M136) fun v137 M138 =>
 if v135 = v137 then
 J2 M138
 else
 none))))
 else
 if ((xs x3.toNatClampNeg) &&& (63 : Int32)) = 42 then
 ixk (x3 + (1 : Int32)) xn (
 ixk (x3 + (2 : Int32)) xn (
 ixk (x3 + (3 : Int32)) xn (
 ixk (x3 + (4 : Int32)) xn (
 bd (fX10_picks φ xr1 (xs (x3 + (1 : Int32)).toNatClampNeg) (xs (x3 + (2 : Int32)).toNatClampNeg) (xs (x3 + (3 : Int32)).toNatClampNeg) (xs (x3 + (4 : Int32)).toNatClampNeg) M) fun v130 M131 =>
 ixk (x3 + (1 : Int32)) xn (
 ixk (x3 + (2 : Int32)) xn (
 ixk (x3 + (3 : Int32)) xn (
 ixk (x3 + (4 : Int32)) xn (
 bd (fX11_picks φ xr2 (xs (x3 + (1 : Int32)).toNatClampNeg) (xs (x3 + (2 : Int32)).toNatClampNeg) (xs (x3 + (3 : Int32)).toNatClampNeg) (xs (x3 + (4 : Int32)).toNatClampNeg) M131) fun v132 M133 =>
 if v130 = v132 then
 J2 M133
 else
 none))))))))
 else
 if ((xs x3.toNatClampNeg) &&& (63 : Int32)) = 43 then
 ixk (x3 + (1 : Int32)) xn (
 bd (fX10_pickAt xr1 (xs (x3 + (1 : Int32)).toNatClampNeg) M) fun v125 M126 =>
 ixk (x3 + (1 : Int32)) xn (
 bd (fX11_pickAt xr2 (xs (x3 + (1 : Int32)).toNatClampNeg) M126) fun v127 M128 =>
 if v125 = v127 then
 J2 M128
 else
 none))
 else
 if ((xs x3.toNatClampNeg) &&& (63 : Int32)) = 44 then
 ixk (x3 + (1 : Int32)) xn (
 ixk (x3 + (2 : Int32)) xn (
 bd (fX10_fill φ xr1 (xs (x3 + (1 : Int32)).toNatClampNeg) (xs (x3 + (2 : Int32)).toNatClampNeg) M) fun v120 M121 =>
 ixk (x3 + (1 : Int32)) xn (
 ixk (x3 + (2 : Int32)) xn (
 bd (fX11_fill φ xr2 (xs (x3 + (1 : Int32)).toNatClampNeg) (xs (x3 + (2 : Int32)).toNatClampNeg) M121) fun v122 M123 =>
 if v120 = v122 then
 J2 M123
 else
 none))))
 else
 if ((xs x3.toNatClampNeg) &&& (63 : Int32)) = 45 then
 ixk (x3 + (1 : Int32)) xn (
 ixk (x3 + (2 : Int32)) xn (
 bd (fX10_runs φ xr1 (xs (x3 + (1 : Int32)).toNatClampNeg) (xs (x3 + (2 : Int32)).toNatClampNeg) M) fun v115 M116 =>
 ixk (x3 + (1 : Int32)) xn (
 ixk (x3 + (2 : Int32)) xn (
 bd (fX11_runs φ xr2 (xs (x3 + (1 : Int32)).toNatClampNeg) (xs (x3 + (2 : Int32)).toNatClampNeg) M116) fun v117 M118 =>
 if v115 = v117 then
 J2 M118
 else
 none))))
 else
 if ((xs x3.toNatClampNeg) &&& (63 : Int32)) = 46 then
 ixk (x3 + (1 : Int32)) xn (
 ixk (x3 + (2 : Int32)) xn (
 ixk (x3 + (3 : Int32)) xn (
 bd (fX10_agrees φ xr1 (xs (x3 + (1 : Int32)).toNatClampNeg) (xs (x3 + (2 : Int32)).toNatClampNeg) (xs (x3 + (3 : Int32)).toNatClampNeg) M) fun v110 M111 =>
 ixk (x3 + (1 : Int32)) xn (
 ixk (x3 + (2 : Int32)) xn (
 ixk (x3 + (3 : Int32)) xn (
 bd (fX11_agrees φ xr2 (xs (x3 + (1 : Int32)).toNatClampNeg) (xs (x3 + (2 : Int32)).toNatClampNeg) (xs (x3 + (3 : Int32)).toNatClampNeg) M111) fun v112 M113 =>
 if v110 = v112 then
 J2 M113
 else
 none))))))
 else
 if ((xs x3.toNatClampNeg) &&& (63 : Int32)) = 47 then
 ixk (x3 + (1 : Int32)) xn (
 ixk (x3 + (2 : Int32)) xn (
 ixk (x3 + (3 : Int32)) xn (
 ixk (x3 + (4 : Int32)) xn (
 bd (fX10_shift φ xr1 (xs (x3 + (1 : Int32)).toNatClampNeg) (xs (x3 + (2 : Int32)).toNatClampNeg) (xs (x3 + (3 : Int32)).toNatClampNeg) (xs (x3 + (4 : Int32)).toNatClampNeg) M) fun v105 M106 =>
 ixk (x3 + (1 : Int32)) xn (
 ixk (x3 + (2 : Int32)) xn (
 ixk (x3 + (3 : Int32)) xn (
 ixk (x3 + (4 : Int32)) xn (
 bd (fX11_shift φ xr2 (xs (x3 + (1 : Int32)).toNatClampNeg) (xs (x3 + (2 : Int32)).toNatClampNeg) (xs (x3 + (3 : Int32)).toNatClampNeg) (xs (x3 + (4 : Int32)).toNatClampNeg) M106) fun v107 M108 =>
 if v105 = v107 then
 J2 M108
 else
 none))))))))
 else
 if ((xs x3.toNatClampNeg) &&& (63 : Int32)) = 48 then
 ixk (x3 + (1 : Int32)) xn (
 ixk (x3 + (2 : Int32)) xn (
 bd (fX10_likest φ xr1 (xs (x3 + (1 : Int32)).toNatClampNeg) (xs (x3 + (2 : Int32)).toNatClampNeg) M) fun v100 M101 =>
 ixk (x3 + (1 : Int32)) xn (
 ixk (x3 + (2 : Int32)) xn (
 bd (fX11_likest φ xr2 (xs (x3 + (1 : Int32)).toNatClampNeg) (xs (x3 + (2 : Int32)).toNatClampNeg) M101) fun v102 M103 =>
 if v100 = v102 then
 J2 M103
 else
 none))))
 else
 if ((xs x3.toNatClampNeg) &&& (63 : Int32)) = 49 then
 ixk (x3 + (1 : Int32)) xn (
 ixk (x3 + (2 : Int32)) xn (
 ixk (x3 + (3 : Int32)) xn (
 bd (fX10_lay xr1 (xs (x3 + (1 : Int32)).toNatClampNeg) (xs (x3 + (2 : Int32)).toNatClampNeg) (xs (x3 + (3 : Int32)).toNatClampNeg) M) fun v95 M96 =>
 ixk (x3 + (1 : Int32)) xn (
 ixk (x3 + (2 : Int32)) xn (
 ixk (x3 + (3 : Int32)) xn (
 bd (fX11_lay φ xr2 (xs (x3 + (1 : Int32)).toNatClampNeg) (xs (x3 + (2 : Int32)).toNatClampNeg) (xs (x3 + (3 : Int32)).toNatClampNeg) M96) fun v97 M98 =>
 if v95 = v97 then
 J2 M98
 else
 none))))))
 else
 if ((xs x3.toNatClampNeg) &&& (63 : Int32)) = 50 then
 ixk (x3 + (1 : Int32)) xn (
 ixk (x3 + (2 : Int32)) xn (
 bd (fX10_wear φ xr1 (xs (x3 + (1 : Int32)).toNatClampNeg) (xs (x3 + (2 : Int32)).toNatClampNeg) M) fun v90 M91 =>
 ixk (x3 + (1 : Int32)) xn (
 ixk (x3 + (2 : Int32)) xn (
 bd (fX11_wear φ xr2 (xs (x3 + (1 : Int32)).toNatClampNeg) (xs (x3 + (2 : Int32)).toNatClampNeg) M91) fun v92 M93 =>
 if v90 = v92 then
 J2 M93
 else
 none))))
 else
 if ((xs x3.toNatClampNeg) &&& (63 : Int32)) = 51 then
 ixk (x3 + (1 : Int32)) xn (
 ixk (x3 + (2 : Int32)) xn (
 bd (fX10_throwing xr1 (xs (x3 + (1 : Int32)).toNatClampNeg) (xs (x3 + (2 : Int32)).toNatClampNeg) M) fun v85 M86 =>
 ixk (x3 + (1 : Int32)) xn (
 ixk (x3 + (2 : Int32)) xn (
 bd (fX11_throwing xr2 (xs (x3 + (1 : Int32)).toNatClampNeg) (xs (x3 + (2 : Int32)).toNatClampNeg) M86) fun v87 M88 =>
 if v85 = v87 then
 J2 M88
 else
 none))))
 else
 if ((xs x3.toNatClampNeg) &&& (63 : Int32)) = 52 then
 ixk (x3 + (1 : Int32)) xn (
 bd (fX10_live φ xr1 (xs (x3 + (1 : Int32)).toNatClampNeg) M) fun v80 M81 =>
 ixk (x3 + (1 : Int32)) xn (
 bd (fX11_live φ xr2 (xs (x3 + (1 : Int32)).toNatClampNeg) M81) fun v82 M83 =>
 if v80 = v82 then
 J2 M83
 else
 none))
 else
 if ((xs x3.toNatClampNeg) &&& (63 : Int32)) = 53 then
 ixk (x3 + (1 : Int32)) xn (
 bd (fX10_lived xr1 (xs (x3 + (1 : Int32)).toNatClampNeg) M) fun v75 M76 =>
 ixk (x3 + (1 : Int32)) xn (
 bd (fX11_lived xr2 (xs (x3 + (1 : Int32)).toNatClampNeg) M76) fun v77 M78 =>
 if v75 = v77 then
 J2 M78
 else
 none))
 else
 if ((xs x3.toNatClampNeg) &&& (63 : Int32)) = 54 then
 ixk (x3 + (1 : Int32)) xn (
 ixk (x3 + (2 : Int32)) xn (
 ixk (x3 + (3 : Int32)) xn (
 ixk (x3 + (4 : Int32)) xn (
 bd (fX10_odds φ xr1 (xs (x3 + (1 : Int32)).toNatClampNeg) (xs (x3 + (2 : Int32)).toNatClampNeg) (xs (x3 + (3 : Int32)).toNatClampNeg) (xs (x3 + (4 : Int32)).toNatClampNeg) M) fun v70 M71 =>
 ixk (x3 + (1 : Int32)) xn (
 ixk (x3 + (2 : Int32)) xn (
 ixk (x3 + (3 : Int32)) xn (
 ixk (x3 + (4 : Int32)) xn (
 bd (fX11_odds φ xr2 (xs (x3 + (1 : Int32)).toNatClampNeg) (xs (x3 + (2 : Int32)).toNatClampNeg) (xs (x3 + (3 : Int32)).toNatClampNeg) (xs (x3 + (4 : Int32)).toNatClampNeg) M71) fun v72 M73 =>
 if v70 = v72 then
 J2 M73
 else
 none))))))))
 else
 if ((xs x3.toNatClampNeg) &&& (63 : Int32)) = 55 then
 bd (fX10_mark xr1 M) fun v65 M66 =>
 bd (fX11_mark φ xr2 M66) fun v67 M68 =>
 if v65 = v67 then
 J2 M68
 else
 none
 else
 if ((xs x3.toNatClampNeg) &&& (63 : Int32)) = 56 then
 bd (fX10_back xr1 M) fun v60 M61 =>
 bd (fX11_back φ xr2 M61) fun v62 M63 =>
 if v60 = v62 then
 J2 M63
 else
 none
 else
 J2 M)) := rfl
theorem lL_law_18_0 (φ : Nat) (xn : Nat) (xs : Nat → Int32) (t : Nat) (xr1 : Nat) (xr2 : Nat) (x3 : Int32) (M : Mem) : lL_law_18 φ xn xs t xr1 xr2 0 x3 M = none := rfl
set_option maxRecDepth 100000 in
set_option maxHeartbeats 4000000 in
theorem wlL_law_18 {J : JT} {xn : Nat} {xs : Nat → Int32} (g : Gd J cL_law RL) (hr : LawR J xn xs) (hR : (JR J).frames = 15 ∧ (JR J).locals = 582) (hn : Jn J = 4) (φ : Nat) (t : Nat) (xr1 : Nat) (xr2 : Nat) (ht : t = 1000) (hxr1 : isO 10 xr1) (hxr2 : isO 11 xr2) : ∀ (n : Nat) (x3 : Int32) (M : Mem), X J (fun q : Int32 × Mem => (some (Value.int q.1), q.2)) (lL_law_18 φ xn xs t xr1 xr2 n x3 M) 18 [(0, .ref t), (1, .ref xr1), (2, .ref xr2), (3, .int x3)] [] M := by
  intro n
  induction n with
  | zero =>
    intro x3 M
    exact x_none
  | succ n ih =>
    intro x3 M
    rw [lL_law_18_s]
    exact (x_iload_n g 3 dL_law_18 rfl rfl
 (x_aload_n g 0 dL_law_19 rfl rfl
 (x_slen g hr ht dL_law_20
 (x_bipush g dL_law_21 kB_6
 (x_isub g dL_law_23
 (x_icmp_gt g 2066 dL_law_24 rfl
 (fun _ => (x_iconst g dL_law_2066 kI_1
 (x_law1 g hr dL_law_2067)))
 (fun _ => (x_aload_n g 0 dL_law_27 rfl rfl
 (x_iload_n g 3 dL_law_28 rfl rfl
 (x_sald g hr ht dL_law_29
 (x_bipush g dL_law_30 kB_63
 (x_iand g dL_law_32
 (x_jn (fun (J2 : Mem → Option (Int32 × Mem)) => ∀ (M1 : Mem), X J (fun q : Int32 × Mem => (some (Value.int q.1), q.2)) (J2 M1) 2060 [(0, .ref t), (1, .ref xr1), (2, .ref xr2), (3, .int x3)] [] M1) (fun M1 => (x_iinc (L' := [(3, .int (x3 + 6)), (0, .ref t), (1, .ref xr1), (2, .ref xr2)]) (v := (x3 + 6)) g 3 dL_law_2060 rfl (by rw [kI_6]) hn (Nat.le_of_ble_eq_true rfl) rfl
 (x_goto g 18 dL_law_2063 rfl
 (x_sub [1, 2, 3, 0] rfl (ih (x3 + 6) M1))))) (fun J2 hJ2 => (x_if (fun he336 => x_tabIn (off := 243) g (0 : Int32) 276 dL_law_33 he336 (by decide) rfl rfl
 (x_aload_n g 1 dL_law_276 rfl rfl
 (x_callVip (As := []) g mv_X10_status mi_X10_status lk_RL_13 hxr1 (fun b hb => kX10_status xr1 M hxr1 _ _ hb) rfl rfl hR ⟨Nat.le_of_ble_eq_true rfl, Nat.le_of_ble_eq_true rfl⟩ (Nat.le_of_ble_eq_true rfl) dL_law_277 (fun v334 =>
 (x_aload_n g 2 dL_law_280 rfl rfl
 (x_callVip (As := []) g mv_X11_status mi_X11_status lk_RL_17 hxr2 (fun b hb => kX11_status xr2 M hxr2 _ _ hb) rfl rfl hR ⟨Nat.le_of_ble_eq_true rfl, Nat.le_of_ble_eq_true rfl⟩ (Nat.le_of_ble_eq_true rfl) dL_law_281 (fun v335 =>
 (x_icmp_eq g 2060 dL_law_284 rfl
 (fun _ => (hJ2 M))
 (fun _ => (x_iconst g dL_law_287 kI_0
 x_none)))))))))) (fun hq3 => (x_if (fun he333 => x_tabIn (off := 256) g (1 : Int32) 289 dL_law_33 he333 (by decide) rfl rfl
 (x_aload_n g 1 dL_law_289 rfl rfl
 (x_callVlp (As := []) g mv_X10_top mi_X10_top lk_RL_18 hxr1 (fun b hb => kX10_top xr1 M hxr1 _ _ hb) rfl rfl hR ⟨Nat.le_of_ble_eq_true rfl, Nat.le_of_ble_eq_true rfl⟩ (Nat.le_of_ble_eq_true rfl) dL_law_290 (fun vz331 =>
 (x_aload_n g 2 dL_law_293 rfl rfl
 (x_callVlp (As := []) g mv_X11_top mi_X11_top lk_RL_22 hxr2 (fun b hb => kX11_top xr2 M hxr2 _ _ hb) rfl rfl hR ⟨Nat.le_of_ble_eq_true rfl, Nat.le_of_ble_eq_true rfl⟩ (Nat.le_of_ble_eq_true rfl) dL_law_294 (fun vz332 =>
 (x_l_eq g 2060 dL_law_297 dL_law_298 rfl
 (fun _ => (hJ2 M))
 (fun _ => (x_iconst g dL_law_301 kI_0
 x_none)))))))))) (fun hq4 => (x_if (fun he330 => x_tabIn (off := 270) g (2 : Int32) 303 dL_law_33 he330 (by decide) rfl rfl
 (x_aload_n g 1 dL_law_303 rfl rfl
 (x_callVlp (As := []) g mv_X10_bottom mi_X10_bottom lk_RL_23 hxr1 (fun b hb => kX10_bottom xr1 M hxr1 _ _ hb) rfl rfl hR ⟨Nat.le_of_ble_eq_true rfl, Nat.le_of_ble_eq_true rfl⟩ (Nat.le_of_ble_eq_true rfl) dL_law_304 (fun vz328 =>
 (x_aload_n g 2 dL_law_307 rfl rfl
 (x_callVlp (As := []) g mv_X11_bottom mi_X11_bottom lk_RL_26 hxr2 (fun b hb => kX11_bottom xr2 M hxr2 _ _ hb) rfl rfl hR ⟨Nat.le_of_ble_eq_true rfl, Nat.le_of_ble_eq_true rfl⟩ (Nat.le_of_ble_eq_true rfl) dL_law_308 (fun vz329 =>
 (x_l_eq g 2060 dL_law_311 dL_law_312 rfl
 (fun _ => (hJ2 M))
 (fun _ => (x_iconst g dL_law_315 kI_0
 x_none)))))))))) (fun hq5 => (x_if (fun he327 => x_tabIn (off := 284) g (3 : Int32) 317 dL_law_33 he327 (by decide) rfl rfl
 (x_aload_n g 1 dL_law_317 rfl rfl
 (x_aload_n g 0 dL_law_318 rfl rfl
 (x_iload_n g 3 dL_law_319 rfl rfl
 (x_iconst g dL_law_320 kI_1
 (x_iadd g dL_law_321
 (x_sald g hr ht dL_law_322
 (x_aload_n g 0 dL_law_323 rfl rfl
 (x_iload_n g 3 dL_law_324 rfl rfl
 (x_iconst g dL_law_325 kI_2
 (x_iadd g dL_law_326
 (x_sald g hr ht dL_law_327
 (x_aload_n g 0 dL_law_328 rfl rfl
 (x_iload_n g 3 dL_law_329 rfl rfl
 (x_iconst g dL_law_330 kI_3
 (x_iadd g dL_law_331
 (x_sald g hr ht dL_law_332
 (x_callVi (As := [.int (xs (x3 + (1 : Int32)).toNatClampNeg), .int (xs (x3 + (2 : Int32)).toNatClampNeg), .int (xs (x3 + (3 : Int32)).toNatClampNeg)]) g mv_X10_tray mi_X10_tray lk_RL_27 hxr1 (fun b Mh_ hb => kX10_tray φ xr1 (xs (x3 + (1 : Int32)).toNatClampNeg) (xs (x3 + (2 : Int32)).toNatClampNeg) (xs (x3 + (3 : Int32)).toNatClampNeg) M hxr1 _ _ hb) rfl rfl hR ⟨Nat.le_of_ble_eq_true rfl, Nat.le_of_ble_eq_true rfl⟩ (Nat.le_of_ble_eq_true rfl) dL_law_333 (fun v323 M324 =>
 (x_aload_n g 2 dL_law_336 rfl rfl
 (x_aload_n g 0 dL_law_337 rfl rfl
 (x_iload_n g 3 dL_law_338 rfl rfl
 (x_iconst g dL_law_339 kI_1
 (x_iadd g dL_law_340
 (x_sald g hr ht dL_law_341
 (x_aload_n g 0 dL_law_342 rfl rfl
 (x_iload_n g 3 dL_law_343 rfl rfl
 (x_iconst g dL_law_344 kI_2
 (x_iadd g dL_law_345
 (x_sald g hr ht dL_law_346
 (x_aload_n g 0 dL_law_347 rfl rfl
 (x_iload_n g 3 dL_law_348 rfl rfl
 (x_iconst g dL_law_349 kI_3
 (x_iadd g dL_law_350
 (x_sald g hr ht dL_law_351
 (x_callVi (As := [.int (xs (x3 + (1 : Int32)).toNatClampNeg), .int (xs (x3 + (2 : Int32)).toNatClampNeg), .int (xs (x3 + (3 : Int32)).toNatClampNeg)]) g mv_X11_tray mi_X11_tray lk_RL_31 hxr2 (fun b Mh_ hb => kX11_tray φ xr2 (xs (x3 + (1 : Int32)).toNatClampNeg) (xs (x3 + (2 : Int32)).toNatClampNeg) (xs (x3 + (3 : Int32)).toNatClampNeg) M324 hxr2 _ _ hb) rfl rfl hR ⟨Nat.le_of_ble_eq_true rfl, Nat.le_of_ble_eq_true rfl⟩ (Nat.le_of_ble_eq_true rfl) dL_law_352 (fun v325 M326 =>
 (x_icmp_eq g 2060 dL_law_355 rfl
 (fun _ => (hJ2 M326))
 (fun _ => (x_iconst g dL_law_358 kI_0
 x_none)))))))))))))))))))))))))))))))))))))))) (fun hq6 => (x_if (fun he322 => x_tabIn (off := 327) g (4 : Int32) 360 dL_law_33 he322 (by decide) rfl rfl
 (x_aload_n g 1 dL_law_360 rfl rfl
 (x_aload_n g 0 dL_law_361 rfl rfl
 (x_iload_n g 3 dL_law_362 rfl rfl
 (x_iconst g dL_law_363 kI_1
 (x_iadd g dL_law_364
 (x_sald g hr ht dL_law_365
 (x_aload_n g 0 dL_law_366 rfl rfl
 (x_iload_n g 3 dL_law_367 rfl rfl
 (x_iconst g dL_law_368 kI_2
 (x_iadd g dL_law_369
 (x_sald g hr ht dL_law_370
 (x_aload_n g 0 dL_law_371 rfl rfl
 (x_iload_n g 3 dL_law_372 rfl rfl
 (x_iconst g dL_law_373 kI_3
 (x_iadd g dL_law_374
 (x_sald g hr ht dL_law_375
 (x_i2l g dL_law_376
 (x_bipush g dL_law_377 kB_32
 (x_lshl g dL_law_379
 (x_aload_n g 0 dL_law_380 rfl rfl
 (x_iload_n g 3 dL_law_381 rfl rfl
 (x_iconst g dL_law_382 kI_4
 (x_iadd g dL_law_383
 (x_sald g hr ht dL_law_384
 (x_i2l g dL_law_385
 (x_ldc2 g cw_RL_32 dL_law_386
 (x_land g dL_law_389
 (x_lor g dL_law_390
 (x_callVi (As := [.int (xs (x3 + (1 : Int32)).toNatClampNeg), .int (xs (x3 + (2 : Int32)).toNatClampNeg), .long ((((xs (x3 + (3 : Int32)).toNatClampNeg).toInt64) <<< ((32 : Int32).toInt64 &&& 63)) ||| (((xs (x3 + (4 : Int32)).toNatClampNeg).toInt64) &&& (4294967295 : Int64)))]) g mv_X10_write mi_X10_write lk_RL_34 hxr1 (fun b Mh_ hb => kX10_write xr1 (xs (x3 + (1 : Int32)).toNatClampNeg) (xs (x3 + (2 : Int32)).toNatClampNeg) ((((xs (x3 + (3 : Int32)).toNatClampNeg).toInt64) <<< ((32 : Int32).toInt64 &&& 63)) ||| (((xs (x3 + (4 : Int32)).toNatClampNeg).toInt64) &&& (4294967295 : Int64))) M hxr1 _ _ hb) rfl rfl hR ⟨Nat.le_of_ble_eq_true rfl, Nat.le_of_ble_eq_true rfl⟩ (Nat.le_of_ble_eq_true rfl) dL_law_391 (fun v318 M319 =>
 (x_aload_n g 2 dL_law_394 rfl rfl
 (x_aload_n g 0 dL_law_395 rfl rfl
 (x_iload_n g 3 dL_law_396 rfl rfl
 (x_iconst g dL_law_397 kI_1
 (x_iadd g dL_law_398
 (x_sald g hr ht dL_law_399
 (x_aload_n g 0 dL_law_400 rfl rfl
 (x_iload_n g 3 dL_law_401 rfl rfl
 (x_iconst g dL_law_402 kI_2
 (x_iadd g dL_law_403
 (x_sald g hr ht dL_law_404
 (x_aload_n g 0 dL_law_405 rfl rfl
 (x_iload_n g 3 dL_law_406 rfl rfl
 (x_iconst g dL_law_407 kI_3
 (x_iadd g dL_law_408
 (x_sald g hr ht dL_law_409
 (x_i2l g dL_law_410
 (x_bipush g dL_law_411 kB_32
 (x_lshl g dL_law_413
 (x_aload_n g 0 dL_law_414 rfl rfl
 (x_iload_n g 3 dL_law_415 rfl rfl
 (x_iconst g dL_law_416 kI_4
 (x_iadd g dL_law_417
 (x_sald g hr ht dL_law_418
 (x_i2l g dL_law_419
 (x_ldc2 g cw_RL_32 dL_law_420
 (x_land g dL_law_423
 (x_lor g dL_law_424
 (x_callVi (As := [.int (xs (x3 + (1 : Int32)).toNatClampNeg), .int (xs (x3 + (2 : Int32)).toNatClampNeg), .long ((((xs (x3 + (3 : Int32)).toNatClampNeg).toInt64) <<< ((32 : Int32).toInt64 &&& 63)) ||| (((xs (x3 + (4 : Int32)).toNatClampNeg).toInt64) &&& (4294967295 : Int64)))]) g mv_X11_write mi_X11_write lk_RL_38 hxr2 (fun b Mh_ hb => kX11_write xr2 (xs (x3 + (1 : Int32)).toNatClampNeg) (xs (x3 + (2 : Int32)).toNatClampNeg) ((((xs (x3 + (3 : Int32)).toNatClampNeg).toInt64) <<< ((32 : Int32).toInt64 &&& 63)) ||| (((xs (x3 + (4 : Int32)).toNatClampNeg).toInt64) &&& (4294967295 : Int64))) M319 hxr2 _ _ hb) rfl rfl hR ⟨Nat.le_of_ble_eq_true rfl, Nat.le_of_ble_eq_true rfl⟩ (Nat.le_of_ble_eq_true rfl) dL_law_425 (fun v320 M321 =>
 (x_icmp_eq g 2060 dL_law_428 rfl
 (fun _ => (hJ2 M321))
 (fun _ => (x_iconst g dL_law_431 kI_0
 x_none)))))))))))))))))))))))))))))))))))))))))))))))))))))))))))))))) (fun hq7 => (x_if (fun he317 => x_tabIn (off := 400) g (5 : Int32) 433 dL_law_33 he317 (by decide) rfl rfl
 (x_aload_n g 1 dL_law_433 rfl rfl
 (x_aload_n g 0 dL_law_434 rfl rfl
 (x_iload_n g 3 dL_law_435 rfl rfl
 (x_iconst g dL_law_436 kI_1
 (x_iadd g dL_law_437
 (x_sald g hr ht dL_law_438
 (x_aload_n g 0 dL_law_439 rfl rfl
 (x_iload_n g 3 dL_law_440 rfl rfl
 (x_iconst g dL_law_441 kI_2
 (x_iadd g dL_law_442
 (x_sald g hr ht dL_law_443
 (x_callVl (As := [.int (xs (x3 + (1 : Int32)).toNatClampNeg), .int (xs (x3 + (2 : Int32)).toNatClampNeg)]) g mv_X10_read mi_X10_read lk_RL_39 hxr1 (fun b Mh_ hb => kX10_read xr1 (xs (x3 + (1 : Int32)).toNatClampNeg) (xs (x3 + (2 : Int32)).toNatClampNeg) M hxr1 _ _ hb) rfl rfl hR ⟨Nat.le_of_ble_eq_true rfl, Nat.le_of_ble_eq_true rfl⟩ (Nat.le_of_ble_eq_true rfl) dL_law_444 (fun vz313 M314 =>
 (x_aload_n g 2 dL_law_447 rfl rfl
 (x_aload_n g 0 dL_law_448 rfl rfl
 (x_iload_n g 3 dL_law_449 rfl rfl
 (x_iconst g dL_law_450 kI_1
 (x_iadd g dL_law_451
 (x_sald g hr ht dL_law_452
 (x_aload_n g 0 dL_law_453 rfl rfl
 (x_iload_n g 3 dL_law_454 rfl rfl
 (x_iconst g dL_law_455 kI_2
 (x_iadd g dL_law_456
 (x_sald g hr ht dL_law_457
 (x_callVl (As := [.int (xs (x3 + (1 : Int32)).toNatClampNeg), .int (xs (x3 + (2 : Int32)).toNatClampNeg)]) g mv_X11_read mi_X11_read lk_RL_43 hxr2 (fun b Mh_ hb => kX11_read xr2 (xs (x3 + (1 : Int32)).toNatClampNeg) (xs (x3 + (2 : Int32)).toNatClampNeg) M314 hxr2 _ _ hb) rfl rfl hR ⟨Nat.le_of_ble_eq_true rfl, Nat.le_of_ble_eq_true rfl⟩ (Nat.le_of_ble_eq_true rfl) dL_law_458 (fun vz315 M316 =>
 (x_l_eq g 2060 dL_law_461 dL_law_462 rfl
 (fun _ => (hJ2 M316))
 (fun _ => (x_iconst g dL_law_465 kI_0
 x_none)))))))))))))))))))))))))))))) (fun hq8 => (x_if (fun he312 => x_tabIn (off := 434) g (6 : Int32) 467 dL_law_33 he312 (by decide) rfl rfl
 (x_aload_n g 1 dL_law_467 rfl rfl
 (x_aload_n g 0 dL_law_468 rfl rfl
 (x_iload_n g 3 dL_law_469 rfl rfl
 (x_iconst g dL_law_470 kI_1
 (x_iadd g dL_law_471
 (x_sald g hr ht dL_law_472
 (x_aload_n g 0 dL_law_473 rfl rfl
 (x_iload_n g 3 dL_law_474 rfl rfl
 (x_iconst g dL_law_475 kI_2
 (x_iadd g dL_law_476
 (x_sald g hr ht dL_law_477
 (x_aload_n g 0 dL_law_478 rfl rfl
 (x_iload_n g 3 dL_law_479 rfl rfl
 (x_iconst g dL_law_480 kI_3
 (x_iadd g dL_law_481
 (x_sald g hr ht dL_law_482
 (x_aload_n g 0 dL_law_483 rfl rfl
 (x_iload_n g 3 dL_law_484 rfl rfl
 (x_iconst g dL_law_485 kI_4
 (x_iadd g dL_law_486
 (x_sald g hr ht dL_law_487
 (x_aload_n g 0 dL_law_488 rfl rfl
 (x_iload_n g 3 dL_law_489 rfl rfl
 (x_iconst g dL_law_490 kI_5
 (x_iadd g dL_law_491
 (x_sald g hr ht dL_law_492
 (x_callVi (As := [.int (xs (x3 + (1 : Int32)).toNatClampNeg), .int (xs (x3 + (2 : Int32)).toNatClampNeg), .int (xs (x3 + (3 : Int32)).toNatClampNeg), .int (xs (x3 + (4 : Int32)).toNatClampNeg), .int (xs (x3 + (5 : Int32)).toNatClampNeg)]) g mv_X10_pour mi_X10_pour lk_RL_44 hxr1 (fun b Mh_ hb => kX10_pour xr1 (xs (x3 + (1 : Int32)).toNatClampNeg) (xs (x3 + (2 : Int32)).toNatClampNeg) (xs (x3 + (3 : Int32)).toNatClampNeg) (xs (x3 + (4 : Int32)).toNatClampNeg) (xs (x3 + (5 : Int32)).toNatClampNeg) M hxr1 _ _ hb) rfl rfl hR ⟨Nat.le_of_ble_eq_true rfl, Nat.le_of_ble_eq_true rfl⟩ (Nat.le_of_ble_eq_true rfl) dL_law_493 (fun v308 M309 =>
 (x_aload_n g 2 dL_law_496 rfl rfl
 (x_aload_n g 0 dL_law_497 rfl rfl
 (x_iload_n g 3 dL_law_498 rfl rfl
 (x_iconst g dL_law_499 kI_1
 (x_iadd g dL_law_500
 (x_sald g hr ht dL_law_501
 (x_aload_n g 0 dL_law_502 rfl rfl
 (x_iload_n g 3 dL_law_503 rfl rfl
 (x_iconst g dL_law_504 kI_2
 (x_iadd g dL_law_505
 (x_sald g hr ht dL_law_506
 (x_aload_n g 0 dL_law_507 rfl rfl
 (x_iload_n g 3 dL_law_508 rfl rfl
 (x_iconst g dL_law_509 kI_3
 (x_iadd g dL_law_510
 (x_sald g hr ht dL_law_511
 (x_aload_n g 0 dL_law_512 rfl rfl
 (x_iload_n g 3 dL_law_513 rfl rfl
 (x_iconst g dL_law_514 kI_4
 (x_iadd g dL_law_515
 (x_sald g hr ht dL_law_516
 (x_aload_n g 0 dL_law_517 rfl rfl
 (x_iload_n g 3 dL_law_518 rfl rfl
 (x_iconst g dL_law_519 kI_5
 (x_iadd g dL_law_520
 (x_sald g hr ht dL_law_521
 (x_callVi (As := [.int (xs (x3 + (1 : Int32)).toNatClampNeg), .int (xs (x3 + (2 : Int32)).toNatClampNeg), .int (xs (x3 + (3 : Int32)).toNatClampNeg), .int (xs (x3 + (4 : Int32)).toNatClampNeg), .int (xs (x3 + (5 : Int32)).toNatClampNeg)]) g mv_X11_pour mi_X11_pour lk_RL_48 hxr2 (fun b Mh_ hb => kX11_pour φ xr2 (xs (x3 + (1 : Int32)).toNatClampNeg) (xs (x3 + (2 : Int32)).toNatClampNeg) (xs (x3 + (3 : Int32)).toNatClampNeg) (xs (x3 + (4 : Int32)).toNatClampNeg) (xs (x3 + (5 : Int32)).toNatClampNeg) M309 hxr2 _ _ hb) rfl rfl hR ⟨Nat.le_of_ble_eq_true rfl, Nat.le_of_ble_eq_true rfl⟩ (Nat.le_of_ble_eq_true rfl) dL_law_522 (fun v310 M311 =>
 (x_icmp_eq g 2060 dL_law_525 rfl
 (fun _ => (hJ2 M311))
 (fun _ => (x_iconst g dL_law_528 kI_0
 x_none)))))))))))))))))))))))))))))))))))))))))))))))))))))))))))) (fun hq9 => (x_if (fun he307 => x_tabIn (off := 497) g (7 : Int32) 530 dL_law_33 he307 (by decide) rfl rfl
 (x_aload_n g 1 dL_law_530 rfl rfl
 (x_aload_n g 0 dL_law_531 rfl rfl
 (x_iload_n g 3 dL_law_532 rfl rfl
 (x_iconst g dL_law_533 kI_1
 (x_iadd g dL_law_534
 (x_sald g hr ht dL_law_535
 (x_aload_n g 0 dL_law_536 rfl rfl
 (x_iload_n g 3 dL_law_537 rfl rfl
 (x_iconst g dL_law_538 kI_2
 (x_iadd g dL_law_539
 (x_sald g hr ht dL_law_540
 (x_aload_n g 0 dL_law_541 rfl rfl
 (x_iload_n g 3 dL_law_542 rfl rfl
 (x_iconst g dL_law_543 kI_3
 (x_iadd g dL_law_544
 (x_sald g hr ht dL_law_545
 (x_aload_n g 0 dL_law_546 rfl rfl
 (x_iload_n g 3 dL_law_547 rfl rfl
 (x_iconst g dL_law_548 kI_4
 (x_iadd g dL_law_549
 (x_sald g hr ht dL_law_550
 (x_aload_n g 0 dL_law_551 rfl rfl
 (x_iload_n g 3 dL_law_552 rfl rfl
 (x_iconst g dL_law_553 kI_5
 (x_iadd g dL_law_554
 (x_sald g hr ht dL_law_555
 (x_callVi (As := [.int (xs (x3 + (1 : Int32)).toNatClampNeg), .int (xs (x3 + (2 : Int32)).toNatClampNeg), .int (xs (x3 + (3 : Int32)).toNatClampNeg), .int (xs (x3 + (4 : Int32)).toNatClampNeg), .int (xs (x3 + (5 : Int32)).toNatClampNeg)]) g mv_X10_feed mi_X10_feed lk_RL_49 hxr1 (fun b Mh_ hb => kX10_feed φ xr1 (xs (x3 + (1 : Int32)).toNatClampNeg) (xs (x3 + (2 : Int32)).toNatClampNeg) (xs (x3 + (3 : Int32)).toNatClampNeg) (xs (x3 + (4 : Int32)).toNatClampNeg) (xs (x3 + (5 : Int32)).toNatClampNeg) M hxr1 _ _ hb) rfl rfl hR ⟨Nat.le_of_ble_eq_true rfl, Nat.le_of_ble_eq_true rfl⟩ (Nat.le_of_ble_eq_true rfl) dL_law_556 (fun v303 M304 =>
 (x_aload_n g 2 dL_law_559 rfl rfl
 (x_aload_n g 0 dL_law_560 rfl rfl
 (x_iload_n g 3 dL_law_561 rfl rfl
 (x_iconst g dL_law_562 kI_1
 (x_iadd g dL_law_563
 (x_sald g hr ht dL_law_564
 (x_aload_n g 0 dL_law_565 rfl rfl
 (x_iload_n g 3 dL_law_566 rfl rfl
 (x_iconst g dL_law_567 kI_2
 (x_iadd g dL_law_568
 (x_sald g hr ht dL_law_569
 (x_aload_n g 0 dL_law_570 rfl rfl
 (x_iload_n g 3 dL_law_571 rfl rfl
 (x_iconst g dL_law_572 kI_3
 (x_iadd g dL_law_573
 (x_sald g hr ht dL_law_574
 (x_aload_n g 0 dL_law_575 rfl rfl
 (x_iload_n g 3 dL_law_576 rfl rfl
 (x_iconst g dL_law_577 kI_4
 (x_iadd g dL_law_578
 (x_sald g hr ht dL_law_579
 (x_aload_n g 0 dL_law_580 rfl rfl
 (x_iload_n g 3 dL_law_581 rfl rfl
 (x_iconst g dL_law_582 kI_5
 (x_iadd g dL_law_583
 (x_sald g hr ht dL_law_584
 (x_callVi (As := [.int (xs (x3 + (1 : Int32)).toNatClampNeg), .int (xs (x3 + (2 : Int32)).toNatClampNeg), .int (xs (x3 + (3 : Int32)).toNatClampNeg), .int (xs (x3 + (4 : Int32)).toNatClampNeg), .int (xs (x3 + (5 : Int32)).toNatClampNeg)]) g mv_X11_feed mi_X11_feed lk_RL_53 hxr2 (fun b Mh_ hb => kX11_feed φ xr2 (xs (x3 + (1 : Int32)).toNatClampNeg) (xs (x3 + (2 : Int32)).toNatClampNeg) (xs (x3 + (3 : Int32)).toNatClampNeg) (xs (x3 + (4 : Int32)).toNatClampNeg) (xs (x3 + (5 : Int32)).toNatClampNeg) M304 hxr2 _ _ hb) rfl rfl hR ⟨Nat.le_of_ble_eq_true rfl, Nat.le_of_ble_eq_true rfl⟩ (Nat.le_of_ble_eq_true rfl) dL_law_585 (fun v305 M306 =>
 (x_icmp_eq g 2060 dL_law_588 rfl
 (fun _ => (hJ2 M306))
 (fun _ => (x_iconst g dL_law_591 kI_0
 x_none)))))))))))))))))))))))))))))))))))))))))))))))))))))))))))) (fun hq10 => (x_if (fun he302 => x_tabIn (off := 560) g (8 : Int32) 593 dL_law_33 he302 (by decide) rfl rfl
 (x_aload_n g 1 dL_law_593 rfl rfl
 (x_aload_n g 0 dL_law_594 rfl rfl
 (x_iload_n g 3 dL_law_595 rfl rfl
 (x_iconst g dL_law_596 kI_1
 (x_iadd g dL_law_597
 (x_sald g hr ht dL_law_598
 (x_callVi (As := [.int (xs (x3 + (1 : Int32)).toNatClampNeg)]) g mv_X10_field mi_X10_field lk_RL_54 hxr1 (fun b Mh_ hb => kX10_field φ xr1 (xs (x3 + (1 : Int32)).toNatClampNeg) M hxr1 _ _ hb) rfl rfl hR ⟨Nat.le_of_ble_eq_true rfl, Nat.le_of_ble_eq_true rfl⟩ (Nat.le_of_ble_eq_true rfl) dL_law_599 (fun v298 M299 =>
 (x_aload_n g 2 dL_law_602 rfl rfl
 (x_aload_n g 0 dL_law_603 rfl rfl
 (x_iload_n g 3 dL_law_604 rfl rfl
 (x_iconst g dL_law_605 kI_1
 (x_iadd g dL_law_606
 (x_sald g hr ht dL_law_607
 (x_callVi (As := [.int (xs (x3 + (1 : Int32)).toNatClampNeg)]) g mv_X11_field mi_X11_field lk_RL_58 hxr2 (fun b Mh_ hb => kX11_field φ xr2 (xs (x3 + (1 : Int32)).toNatClampNeg) M299 hxr2 _ _ hb) rfl rfl hR ⟨Nat.le_of_ble_eq_true rfl, Nat.le_of_ble_eq_true rfl⟩ (Nat.le_of_ble_eq_true rfl) dL_law_608 (fun v300 M301 =>
 (x_icmp_eq g 2060 dL_law_611 rfl
 (fun _ => (hJ2 M301))
 (fun _ => (x_iconst g dL_law_614 kI_0
 x_none)))))))))))))))))))) (fun hq11 => (x_if (fun he297 => x_tabIn (off := 583) g (9 : Int32) 616 dL_law_33 he297 (by decide) rfl rfl
 (x_aload_n g 1 dL_law_616 rfl rfl
 (x_aload_n g 0 dL_law_617 rfl rfl
 (x_iload_n g 3 dL_law_618 rfl rfl
 (x_iconst g dL_law_619 kI_1
 (x_iadd g dL_law_620
 (x_sald g hr ht dL_law_621
 (x_callVi (As := [.int (xs (x3 + (1 : Int32)).toNatClampNeg)]) g mv_X10_years mi_X10_years lk_RL_59 hxr1 (fun b Mh_ hb => kX10_years φ xr1 (xs (x3 + (1 : Int32)).toNatClampNeg) M hxr1 _ _ hb) rfl rfl hR ⟨Nat.le_of_ble_eq_true rfl, Nat.le_of_ble_eq_true rfl⟩ (Nat.le_of_ble_eq_true rfl) dL_law_622 (fun v293 M294 =>
 (x_aload_n g 2 dL_law_625 rfl rfl
 (x_aload_n g 0 dL_law_626 rfl rfl
 (x_iload_n g 3 dL_law_627 rfl rfl
 (x_iconst g dL_law_628 kI_1
 (x_iadd g dL_law_629
 (x_sald g hr ht dL_law_630
 (x_callVi (As := [.int (xs (x3 + (1 : Int32)).toNatClampNeg)]) g mv_X11_years mi_X11_years lk_RL_62 hxr2 (fun b Mh_ hb => kX11_years φ xr2 (xs (x3 + (1 : Int32)).toNatClampNeg) M294 hxr2 _ _ hb) rfl rfl hR ⟨Nat.le_of_ble_eq_true rfl, Nat.le_of_ble_eq_true rfl⟩ (Nat.le_of_ble_eq_true rfl) dL_law_631 (fun v295 M296 =>
 (x_icmp_eq g 2060 dL_law_634 rfl
 (fun _ => (hJ2 M296))
 (fun _ => (x_iconst g dL_law_637 kI_0
 x_none)))))))))))))))))))) (fun hq12 => (x_if (fun he292 => x_tabIn (off := 606) g (10 : Int32) 639 dL_law_33 he292 (by decide) rfl rfl
 (x_aload_n g 1 dL_law_639 rfl rfl
 (x_aload_n g 0 dL_law_640 rfl rfl
 (x_iload_n g 3 dL_law_641 rfl rfl
 (x_iconst g dL_law_642 kI_1
 (x_iadd g dL_law_643
 (x_sald g hr ht dL_law_644
 (x_callVip (As := [.int (xs (x3 + (1 : Int32)).toNatClampNeg)]) g mv_X10_fault mi_X10_fault lk_RL_63 hxr1 (fun b hb => kX10_fault xr1 (xs (x3 + (1 : Int32)).toNatClampNeg) M hxr1 _ _ hb) rfl rfl hR ⟨Nat.le_of_ble_eq_true rfl, Nat.le_of_ble_eq_true rfl⟩ (Nat.le_of_ble_eq_true rfl) dL_law_645 (fun v290 =>
 (x_aload_n g 2 dL_law_648 rfl rfl
 (x_aload_n g 0 dL_law_649 rfl rfl
 (x_iload_n g 3 dL_law_650 rfl rfl
 (x_iconst g dL_law_651 kI_1
 (x_iadd g dL_law_652
 (x_sald g hr ht dL_law_653
 (x_callVip (As := [.int (xs (x3 + (1 : Int32)).toNatClampNeg)]) g mv_X11_fault mi_X11_fault lk_RL_66 hxr2 (fun b hb => kX11_fault xr2 (xs (x3 + (1 : Int32)).toNatClampNeg) M hxr2 _ _ hb) rfl rfl hR ⟨Nat.le_of_ble_eq_true rfl, Nat.le_of_ble_eq_true rfl⟩ (Nat.le_of_ble_eq_true rfl) dL_law_654 (fun v291 =>
 (x_icmp_eq g 2060 dL_law_657 rfl
 (fun _ => (hJ2 M))
 (fun _ => (x_iconst g dL_law_660 kI_0
 x_none)))))))))))))))))))) (fun hq13 => (x_if (fun he289 => x_tabIn (off := 629) g (11 : Int32) 662 dL_law_33 he289 (by decide) rfl rfl
 (x_aload_n g 1 dL_law_662 rfl rfl
 (x_aload_n g 0 dL_law_663 rfl rfl
 (x_iload_n g 3 dL_law_664 rfl rfl
 (x_iconst g dL_law_665 kI_1
 (x_iadd g dL_law_666
 (x_sald g hr ht dL_law_667
 (x_callVi (As := [.int (xs (x3 + (1 : Int32)).toNatClampNeg)]) g mv_X10_told mi_X10_told lk_RL_67 hxr1 (fun b Mh_ hb => kX10_told xr1 (xs (x3 + (1 : Int32)).toNatClampNeg) M hxr1 _ _ hb) rfl rfl hR ⟨Nat.le_of_ble_eq_true rfl, Nat.le_of_ble_eq_true rfl⟩ (Nat.le_of_ble_eq_true rfl) dL_law_668 (fun v285 M286 =>
 (x_aload_n g 2 dL_law_671 rfl rfl
 (x_aload_n g 0 dL_law_672 rfl rfl
 (x_iload_n g 3 dL_law_673 rfl rfl
 (x_iconst g dL_law_674 kI_1
 (x_iadd g dL_law_675
 (x_sald g hr ht dL_law_676
 (x_callVi (As := [.int (xs (x3 + (1 : Int32)).toNatClampNeg)]) g mv_X11_told mi_X11_told lk_RL_70 hxr2 (fun b Mh_ hb => kX11_told xr2 (xs (x3 + (1 : Int32)).toNatClampNeg) M286 hxr2 _ _ hb) rfl rfl hR ⟨Nat.le_of_ble_eq_true rfl, Nat.le_of_ble_eq_true rfl⟩ (Nat.le_of_ble_eq_true rfl) dL_law_677 (fun v287 M288 =>
 (x_icmp_eq g 2060 dL_law_680 rfl
 (fun _ => (hJ2 M288))
 (fun _ => (x_iconst g dL_law_683 kI_0
 x_none)))))))))))))))))))) (fun hq14 => (x_if (fun he284 => x_tabIn (off := 652) g (12 : Int32) 685 dL_law_33 he284 (by decide) rfl rfl
 (x_aload_n g 1 dL_law_685 rfl rfl
 (x_aload_n g 0 dL_law_686 rfl rfl
 (x_iload_n g 3 dL_law_687 rfl rfl
 (x_iconst g dL_law_688 kI_1
 (x_iadd g dL_law_689
 (x_sald g hr ht dL_law_690
 (x_callVi (As := [.int (xs (x3 + (1 : Int32)).toNatClampNeg)]) g mv_X10_skip mi_X10_skip lk_RL_71 hxr1 (fun b Mh_ hb => kX10_skip xr1 (xs (x3 + (1 : Int32)).toNatClampNeg) M hxr1 _ _ hb) rfl rfl hR ⟨Nat.le_of_ble_eq_true rfl, Nat.le_of_ble_eq_true rfl⟩ (Nat.le_of_ble_eq_true rfl) dL_law_691 (fun v280 M281 =>
 (x_aload_n g 2 dL_law_694 rfl rfl
 (x_aload_n g 0 dL_law_695 rfl rfl
 (x_iload_n g 3 dL_law_696 rfl rfl
 (x_iconst g dL_law_697 kI_1
 (x_iadd g dL_law_698
 (x_sald g hr ht dL_law_699
 (x_callVi (As := [.int (xs (x3 + (1 : Int32)).toNatClampNeg)]) g mv_X11_skip mi_X11_skip lk_RL_74 hxr2 (fun b Mh_ hb => kX11_skip xr2 (xs (x3 + (1 : Int32)).toNatClampNeg) M281 hxr2 _ _ hb) rfl rfl hR ⟨Nat.le_of_ble_eq_true rfl, Nat.le_of_ble_eq_true rfl⟩ (Nat.le_of_ble_eq_true rfl) dL_law_700 (fun v282 M283 =>
 (x_icmp_eq g 2060 dL_law_703 rfl
 (fun _ => (hJ2 M283))
 (fun _ => (x_iconst g dL_law_706 kI_0
 x_none)))))))))))))))))))) (fun hq15 => (x_if (fun he279 => x_tabIn (off := 675) g (13 : Int32) 708 dL_law_33 he279 (by decide) rfl rfl
 (x_aload_n g 1 dL_law_708 rfl rfl
 (x_aload_n g 0 dL_law_709 rfl rfl
 (x_iload_n g 3 dL_law_710 rfl rfl
 (x_iconst g dL_law_711 kI_1
 (x_iadd g dL_law_712
 (x_sald g hr ht dL_law_713
 (x_aload_n g 0 dL_law_714 rfl rfl
 (x_iload_n g 3 dL_law_715 rfl rfl
 (x_iconst g dL_law_716 kI_2
 (x_iadd g dL_law_717
 (x_sald g hr ht dL_law_718
 (x_callVi (As := [.int (xs (x3 + (1 : Int32)).toNatClampNeg), .int (xs (x3 + (2 : Int32)).toNatClampNeg)]) g mv_X10_unlike mi_X10_unlike lk_RL_75 hxr1 (fun b Mh_ hb => kX10_unlike xr1 (xs (x3 + (1 : Int32)).toNatClampNeg) (xs (x3 + (2 : Int32)).toNatClampNeg) M hxr1 _ _ hb) rfl rfl hR ⟨Nat.le_of_ble_eq_true rfl, Nat.le_of_ble_eq_true rfl⟩ (Nat.le_of_ble_eq_true rfl) dL_law_719 (fun v275 M276 =>
 (x_aload_n g 2 dL_law_722 rfl rfl
 (x_aload_n g 0 dL_law_723 rfl rfl
 (x_iload_n g 3 dL_law_724 rfl rfl
 (x_iconst g dL_law_725 kI_1
 (x_iadd g dL_law_726
 (x_sald g hr ht dL_law_727
 (x_aload_n g 0 dL_law_728 rfl rfl
 (x_iload_n g 3 dL_law_729 rfl rfl
 (x_iconst g dL_law_730 kI_2
 (x_iadd g dL_law_731
 (x_sald g hr ht dL_law_732
 (x_callVi (As := [.int (xs (x3 + (1 : Int32)).toNatClampNeg), .int (xs (x3 + (2 : Int32)).toNatClampNeg)]) g mv_X11_unlike mi_X11_unlike lk_RL_79 hxr2 (fun b Mh_ hb => kX11_unlike xr2 (xs (x3 + (1 : Int32)).toNatClampNeg) (xs (x3 + (2 : Int32)).toNatClampNeg) M276 hxr2 _ _ hb) rfl rfl hR ⟨Nat.le_of_ble_eq_true rfl, Nat.le_of_ble_eq_true rfl⟩ (Nat.le_of_ble_eq_true rfl) dL_law_733 (fun v277 M278 =>
 (x_icmp_eq g 2060 dL_law_736 rfl
 (fun _ => (hJ2 M278))
 (fun _ => (x_iconst g dL_law_739 kI_0
 x_none)))))))))))))))))))))))))))))) (fun hq16 => (x_if (fun he274 => x_tabIn (off := 708) g (14 : Int32) 741 dL_law_33 he274 (by decide) rfl rfl
 (x_aload_n g 1 dL_law_741 rfl rfl
 (x_aload_n g 0 dL_law_742 rfl rfl
 (x_iload_n g 3 dL_law_743 rfl rfl
 (x_iconst g dL_law_744 kI_1
 (x_iadd g dL_law_745
 (x_sald g hr ht dL_law_746
 (x_aload_n g 0 dL_law_747 rfl rfl
 (x_iload_n g 3 dL_law_748 rfl rfl
 (x_iconst g dL_law_749 kI_2
 (x_iadd g dL_law_750
 (x_sald g hr ht dL_law_751
 (x_callVi (As := [.int (xs (x3 + (1 : Int32)).toNatClampNeg), .int (xs (x3 + (2 : Int32)).toNatClampNeg)]) g mv_X10_hole mi_X10_hole lk_RL_80 hxr1 (fun b Mh_ hb => kX10_hole φ xr1 (xs (x3 + (1 : Int32)).toNatClampNeg) (xs (x3 + (2 : Int32)).toNatClampNeg) M hxr1 _ _ hb) rfl rfl hR ⟨Nat.le_of_ble_eq_true rfl, Nat.le_of_ble_eq_true rfl⟩ (Nat.le_of_ble_eq_true rfl) dL_law_752 (fun v270 M271 =>
 (x_aload_n g 2 dL_law_755 rfl rfl
 (x_aload_n g 0 dL_law_756 rfl rfl
 (x_iload_n g 3 dL_law_757 rfl rfl
 (x_iconst g dL_law_758 kI_1
 (x_iadd g dL_law_759
 (x_sald g hr ht dL_law_760
 (x_aload_n g 0 dL_law_761 rfl rfl
 (x_iload_n g 3 dL_law_762 rfl rfl
 (x_iconst g dL_law_763 kI_2
 (x_iadd g dL_law_764
 (x_sald g hr ht dL_law_765
 (x_callVi (As := [.int (xs (x3 + (1 : Int32)).toNatClampNeg), .int (xs (x3 + (2 : Int32)).toNatClampNeg)]) g mv_X11_hole mi_X11_hole lk_RL_83 hxr2 (fun b Mh_ hb => kX11_hole φ xr2 (xs (x3 + (1 : Int32)).toNatClampNeg) (xs (x3 + (2 : Int32)).toNatClampNeg) M271 hxr2 _ _ hb) rfl rfl hR ⟨Nat.le_of_ble_eq_true rfl, Nat.le_of_ble_eq_true rfl⟩ (Nat.le_of_ble_eq_true rfl) dL_law_766 (fun v272 M273 =>
 (x_icmp_eq g 2060 dL_law_769 rfl
 (fun _ => (hJ2 M273))
 (fun _ => (x_iconst g dL_law_772 kI_0
 x_none)))))))))))))))))))))))))))))) (fun hq17 => (x_if (fun he269 => x_tabIn (off := 741) g (15 : Int32) 774 dL_law_33 he269 (by decide) rfl rfl
 (x_aload_n g 1 dL_law_774 rfl rfl
 (x_aload_n g 0 dL_law_775 rfl rfl
 (x_iload_n g 3 dL_law_776 rfl rfl
 (x_iconst g dL_law_777 kI_1
 (x_iadd g dL_law_778
 (x_sald g hr ht dL_law_779
 (x_aload_n g 0 dL_law_780 rfl rfl
 (x_iload_n g 3 dL_law_781 rfl rfl
 (x_iconst g dL_law_782 kI_2
 (x_iadd g dL_law_783
 (x_sald g hr ht dL_law_784
 (x_aload_n g 0 dL_law_785 rfl rfl
 (x_iload_n g 3 dL_law_786 rfl rfl
 (x_iconst g dL_law_787 kI_3
 (x_iadd g dL_law_788
 (x_sald g hr ht dL_law_789
 (x_callVi (As := [.int (xs (x3 + (1 : Int32)).toNatClampNeg), .int (xs (x3 + (2 : Int32)).toNatClampNeg), .int (xs (x3 + (3 : Int32)).toNatClampNeg)]) g mv_X10_layer mi_X10_layer lk_RL_84 hxr1 (fun b Mh_ hb => kX10_layer φ xr1 (xs (x3 + (1 : Int32)).toNatClampNeg) (xs (x3 + (2 : Int32)).toNatClampNeg) (xs (x3 + (3 : Int32)).toNatClampNeg) M hxr1 _ _ hb) rfl rfl hR ⟨Nat.le_of_ble_eq_true rfl, Nat.le_of_ble_eq_true rfl⟩ (Nat.le_of_ble_eq_true rfl) dL_law_790 (fun v265 M266 =>
 (x_aload_n g 2 dL_law_793 rfl rfl
 (x_aload_n g 0 dL_law_794 rfl rfl
 (x_iload_n g 3 dL_law_795 rfl rfl
 (x_iconst g dL_law_796 kI_1
 (x_iadd g dL_law_797
 (x_sald g hr ht dL_law_798
 (x_aload_n g 0 dL_law_799 rfl rfl
 (x_iload_n g 3 dL_law_800 rfl rfl
 (x_iconst g dL_law_801 kI_2
 (x_iadd g dL_law_802
 (x_sald g hr ht dL_law_803
 (x_aload_n g 0 dL_law_804 rfl rfl
 (x_iload_n g 3 dL_law_805 rfl rfl
 (x_iconst g dL_law_806 kI_3
 (x_iadd g dL_law_807
 (x_sald g hr ht dL_law_808
 (x_callVi (As := [.int (xs (x3 + (1 : Int32)).toNatClampNeg), .int (xs (x3 + (2 : Int32)).toNatClampNeg), .int (xs (x3 + (3 : Int32)).toNatClampNeg)]) g mv_X11_layer mi_X11_layer lk_RL_88 hxr2 (fun b Mh_ hb => kX11_layer φ xr2 (xs (x3 + (1 : Int32)).toNatClampNeg) (xs (x3 + (2 : Int32)).toNatClampNeg) (xs (x3 + (3 : Int32)).toNatClampNeg) M266 hxr2 _ _ hb) rfl rfl hR ⟨Nat.le_of_ble_eq_true rfl, Nat.le_of_ble_eq_true rfl⟩ (Nat.le_of_ble_eq_true rfl) dL_law_809 (fun v267 M268 =>
 (x_icmp_eq g 2060 dL_law_812 rfl
 (fun _ => (hJ2 M268))
 (fun _ => (x_iconst g dL_law_815 kI_0
 x_none)))))))))))))))))))))))))))))))))))))))) (fun hq18 => (x_if (fun he264 => x_tabIn (off := 784) g (16 : Int32) 817 dL_law_33 he264 (by decide) rfl rfl
 (x_aload_n g 1 dL_law_817 rfl rfl
 (x_aload_n g 0 dL_law_818 rfl rfl
 (x_iload_n g 3 dL_law_819 rfl rfl
 (x_iconst g dL_law_820 kI_1
 (x_iadd g dL_law_821
 (x_sald g hr ht dL_law_822
 (x_aload_n g 0 dL_law_823 rfl rfl
 (x_iload_n g 3 dL_law_824 rfl rfl
 (x_iconst g dL_law_825 kI_2
 (x_iadd g dL_law_826
 (x_sald g hr ht dL_law_827
 (x_callVi (As := [.int (xs (x3 + (1 : Int32)).toNatClampNeg), .int (xs (x3 + (2 : Int32)).toNatClampNeg)]) g mv_X10_layerAt mi_X10_layerAt lk_RL_89 hxr1 (fun b Mh_ hb => kX10_layerAt φ xr1 (xs (x3 + (1 : Int32)).toNatClampNeg) (xs (x3 + (2 : Int32)).toNatClampNeg) M hxr1 _ _ hb) rfl rfl hR ⟨Nat.le_of_ble_eq_true rfl, Nat.le_of_ble_eq_true rfl⟩ (Nat.le_of_ble_eq_true rfl) dL_law_828 (fun v260 M261 =>
 (x_aload_n g 2 dL_law_831 rfl rfl
 (x_aload_n g 0 dL_law_832 rfl rfl
 (x_iload_n g 3 dL_law_833 rfl rfl
 (x_iconst g dL_law_834 kI_1
 (x_iadd g dL_law_835
 (x_sald g hr ht dL_law_836
 (x_aload_n g 0 dL_law_837 rfl rfl
 (x_iload_n g 3 dL_law_838 rfl rfl
 (x_iconst g dL_law_839 kI_2
 (x_iadd g dL_law_840
 (x_sald g hr ht dL_law_841
 (x_callVi (As := [.int (xs (x3 + (1 : Int32)).toNatClampNeg), .int (xs (x3 + (2 : Int32)).toNatClampNeg)]) g mv_X11_layerAt mi_X11_layerAt lk_RL_92 hxr2 (fun b Mh_ hb => kX11_layerAt φ xr2 (xs (x3 + (1 : Int32)).toNatClampNeg) (xs (x3 + (2 : Int32)).toNatClampNeg) M261 hxr2 _ _ hb) rfl rfl hR ⟨Nat.le_of_ble_eq_true rfl, Nat.le_of_ble_eq_true rfl⟩ (Nat.le_of_ble_eq_true rfl) dL_law_842 (fun v262 M263 =>
 (x_icmp_eq g 2060 dL_law_845 rfl
 (fun _ => (hJ2 M263))
 (fun _ => (x_iconst g dL_law_848 kI_0
 x_none)))))))))))))))))))))))))))))) (fun hq19 => (x_if (fun he259 => x_tabIn (off := 817) g (17 : Int32) 850 dL_law_33 he259 (by decide) rfl rfl
 (x_aload_n g 1 dL_law_850 rfl rfl
 (x_aload_n g 0 dL_law_851 rfl rfl
 (x_iload_n g 3 dL_law_852 rfl rfl
 (x_iconst g dL_law_853 kI_1
 (x_iadd g dL_law_854
 (x_sald g hr ht dL_law_855
 (x_aload_n g 0 dL_law_856 rfl rfl
 (x_iload_n g 3 dL_law_857 rfl rfl
 (x_iconst g dL_law_858 kI_2
 (x_iadd g dL_law_859
 (x_sald g hr ht dL_law_860
 (x_callVi (As := [.int (xs (x3 + (1 : Int32)).toNatClampNeg), .int (xs (x3 + (2 : Int32)).toNatClampNeg)]) g mv_X10_side mi_X10_side lk_RL_93 hxr1 (fun b Mh_ hb => kX10_side xr1 (xs (x3 + (1 : Int32)).toNatClampNeg) (xs (x3 + (2 : Int32)).toNatClampNeg) M hxr1 _ _ hb) rfl rfl hR ⟨Nat.le_of_ble_eq_true rfl, Nat.le_of_ble_eq_true rfl⟩ (Nat.le_of_ble_eq_true rfl) dL_law_861 (fun v255 M256 =>
 (x_aload_n g 2 dL_law_864 rfl rfl
 (x_aload_n g 0 dL_law_865 rfl rfl
 (x_iload_n g 3 dL_law_866 rfl rfl
 (x_iconst g dL_law_867 kI_1
 (x_iadd g dL_law_868
 (x_sald g hr ht dL_law_869
 (x_aload_n g 0 dL_law_870 rfl rfl
 (x_iload_n g 3 dL_law_871 rfl rfl
 (x_iconst g dL_law_872 kI_2
 (x_iadd g dL_law_873
 (x_sald g hr ht dL_law_874
 (x_callVi (As := [.int (xs (x3 + (1 : Int32)).toNatClampNeg), .int (xs (x3 + (2 : Int32)).toNatClampNeg)]) g mv_X11_side mi_X11_side lk_RL_96 hxr2 (fun b Mh_ hb => kX11_side xr2 (xs (x3 + (1 : Int32)).toNatClampNeg) (xs (x3 + (2 : Int32)).toNatClampNeg) M256 hxr2 _ _ hb) rfl rfl hR ⟨Nat.le_of_ble_eq_true rfl, Nat.le_of_ble_eq_true rfl⟩ (Nat.le_of_ble_eq_true rfl) dL_law_875 (fun v257 M258 =>
 (x_icmp_eq g 2060 dL_law_878 rfl
 (fun _ => (hJ2 M258))
 (fun _ => (x_iconst g dL_law_881 kI_0
 x_none)))))))))))))))))))))))))))))) (fun hq20 => (x_if (fun he254 => x_tabIn (off := 850) g (18 : Int32) 883 dL_law_33 he254 (by decide) rfl rfl
 (x_aload_n g 1 dL_law_883 rfl rfl
 (x_aload_n g 0 dL_law_884 rfl rfl
 (x_iload_n g 3 dL_law_885 rfl rfl
 (x_iconst g dL_law_886 kI_1
 (x_iadd g dL_law_887
 (x_sald g hr ht dL_law_888
 (x_aload_n g 0 dL_law_889 rfl rfl
 (x_iload_n g 3 dL_law_890 rfl rfl
 (x_iconst g dL_law_891 kI_2
 (x_iadd g dL_law_892
 (x_sald g hr ht dL_law_893
 (x_callVi (As := [.int (xs (x3 + (1 : Int32)).toNatClampNeg), .int (xs (x3 + (2 : Int32)).toNatClampNeg)]) g mv_X10_match mi_X10_match lk_RL_97 hxr1 (fun b Mh_ hb => kX10_match φ xr1 (xs (x3 + (1 : Int32)).toNatClampNeg) (xs (x3 + (2 : Int32)).toNatClampNeg) M hxr1 _ _ hb) rfl rfl hR ⟨Nat.le_of_ble_eq_true rfl, Nat.le_of_ble_eq_true rfl⟩ (Nat.le_of_ble_eq_true rfl) dL_law_894 (fun v250 M251 =>
 (x_aload_n g 2 dL_law_897 rfl rfl
 (x_aload_n g 0 dL_law_898 rfl rfl
 (x_iload_n g 3 dL_law_899 rfl rfl
 (x_iconst g dL_law_900 kI_1
 (x_iadd g dL_law_901
 (x_sald g hr ht dL_law_902
 (x_aload_n g 0 dL_law_903 rfl rfl
 (x_iload_n g 3 dL_law_904 rfl rfl
 (x_iconst g dL_law_905 kI_2
 (x_iadd g dL_law_906
 (x_sald g hr ht dL_law_907
 (x_callVi (As := [.int (xs (x3 + (1 : Int32)).toNatClampNeg), .int (xs (x3 + (2 : Int32)).toNatClampNeg)]) g mv_X11_match mi_X11_match lk_RL_100 hxr2 (fun b Mh_ hb => kX11_match φ xr2 (xs (x3 + (1 : Int32)).toNatClampNeg) (xs (x3 + (2 : Int32)).toNatClampNeg) M251 hxr2 _ _ hb) rfl rfl hR ⟨Nat.le_of_ble_eq_true rfl, Nat.le_of_ble_eq_true rfl⟩ (Nat.le_of_ble_eq_true rfl) dL_law_908 (fun v252 M253 =>
 (x_icmp_eq g 2060 dL_law_911 rfl
 (fun _ => (hJ2 M253))
 (fun _ => (x_iconst g dL_law_914 kI_0
 x_none)))))))))))))))))))))))))))))) (fun hq21 => (x_if (fun he249 => x_tabIn (off := 883) g (19 : Int32) 916 dL_law_33 he249 (by decide) rfl rfl
 (x_aload_n g 1 dL_law_916 rfl rfl
 (x_aload_n g 0 dL_law_917 rfl rfl
 (x_iload_n g 3 dL_law_918 rfl rfl
 (x_iconst g dL_law_919 kI_1
 (x_iadd g dL_law_920
 (x_sald g hr ht dL_law_921
 (x_callVi (As := [.int (xs (x3 + (1 : Int32)).toNatClampNeg)]) g mv_X10_pairOf mi_X10_pairOf lk_RL_101 hxr1 (fun b Mh_ hb => kX10_pairOf xr1 (xs (x3 + (1 : Int32)).toNatClampNeg) M hxr1 _ _ hb) rfl rfl hR ⟨Nat.le_of_ble_eq_true rfl, Nat.le_of_ble_eq_true rfl⟩ (Nat.le_of_ble_eq_true rfl) dL_law_922 (fun v245 M246 =>
 (x_aload_n g 2 dL_law_925 rfl rfl
 (x_aload_n g 0 dL_law_926 rfl rfl
 (x_iload_n g 3 dL_law_927 rfl rfl
 (x_iconst g dL_law_928 kI_1
 (x_iadd g dL_law_929
 (x_sald g hr ht dL_law_930
 (x_callVi (As := [.int (xs (x3 + (1 : Int32)).toNatClampNeg)]) g mv_X11_pairOf mi_X11_pairOf lk_RL_104 hxr2 (fun b Mh_ hb => kX11_pairOf xr2 (xs (x3 + (1 : Int32)).toNatClampNeg) M246 hxr2 _ _ hb) rfl rfl hR ⟨Nat.le_of_ble_eq_true rfl, Nat.le_of_ble_eq_true rfl⟩ (Nat.le_of_ble_eq_true rfl) dL_law_931 (fun v247 M248 =>
 (x_icmp_eq g 2060 dL_law_934 rfl
 (fun _ => (hJ2 M248))
 (fun _ => (x_iconst g dL_law_937 kI_0
 x_none)))))))))))))))))))) (fun hq22 => (x_if (fun he244 => x_tabIn (off := 906) g (20 : Int32) 939 dL_law_33 he244 (by decide) rfl rfl
 (x_aload_n g 1 dL_law_939 rfl rfl
 (x_callVi (As := []) g mv_X10_pairs mi_X10_pairs lk_RL_105 hxr1 (fun b Mh_ hb => kX10_pairs xr1 M hxr1 _ _ hb) rfl rfl hR ⟨Nat.le_of_ble_eq_true rfl, Nat.le_of_ble_eq_true rfl⟩ (Nat.le_of_ble_eq_true rfl) dL_law_940 (fun v240 M241 =>
 (x_aload_n g 2 dL_law_943 rfl rfl
 (x_callVi (As := []) g mv_X11_pairs mi_X11_pairs lk_RL_108 hxr2 (fun b Mh_ hb => kX11_pairs xr2 M241 hxr2 _ _ hb) rfl rfl hR ⟨Nat.le_of_ble_eq_true rfl, Nat.le_of_ble_eq_true rfl⟩ (Nat.le_of_ble_eq_true rfl) dL_law_944 (fun v242 M243 =>
 (x_icmp_eq g 2060 dL_law_947 rfl
 (fun _ => (hJ2 M243))
 (fun _ => (x_iconst g dL_law_950 kI_0
 x_none)))))))))) (fun hq23 => (x_if (fun he239 => x_tabIn (off := 919) g (21 : Int32) 952 dL_law_33 he239 (by decide) rfl rfl
 (x_aload_n g 1 dL_law_952 rfl rfl
 (x_aload_n g 0 dL_law_953 rfl rfl
 (x_iload_n g 3 dL_law_954 rfl rfl
 (x_iconst g dL_law_955 kI_1
 (x_iadd g dL_law_956
 (x_sald g hr ht dL_law_957
 (x_aload_n g 0 dL_law_958 rfl rfl
 (x_iload_n g 3 dL_law_959 rfl rfl
 (x_iconst g dL_law_960 kI_2
 (x_iadd g dL_law_961
 (x_sald g hr ht dL_law_962
 (x_callVi (As := [.int (xs (x3 + (1 : Int32)).toNatClampNeg), .int (xs (x3 + (2 : Int32)).toNatClampNeg)]) g mv_X10_tree mi_X10_tree lk_RL_109 hxr1 (fun b Mh_ hb => kX10_tree φ xr1 (xs (x3 + (1 : Int32)).toNatClampNeg) (xs (x3 + (2 : Int32)).toNatClampNeg) M hxr1 _ _ hb) rfl rfl hR ⟨Nat.le_of_ble_eq_true rfl, Nat.le_of_ble_eq_true rfl⟩ (Nat.le_of_ble_eq_true rfl) dL_law_963 (fun v235 M236 =>
 (x_aload_n g 2 dL_law_966 rfl rfl
 (x_aload_n g 0 dL_law_967 rfl rfl
 (x_iload_n g 3 dL_law_968 rfl rfl
 (x_iconst g dL_law_969 kI_1
 (x_iadd g dL_law_970
 (x_sald g hr ht dL_law_971
 (x_aload_n g 0 dL_law_972 rfl rfl
 (x_iload_n g 3 dL_law_973 rfl rfl
 (x_iconst g dL_law_974 kI_2
 (x_iadd g dL_law_975
 (x_sald g hr ht dL_law_976
 (x_callVi (As := [.int (xs (x3 + (1 : Int32)).toNatClampNeg), .int (xs (x3 + (2 : Int32)).toNatClampNeg)]) g mv_X11_tree mi_X11_tree lk_RL_112 hxr2 (fun b Mh_ hb => kX11_tree φ xr2 (xs (x3 + (1 : Int32)).toNatClampNeg) (xs (x3 + (2 : Int32)).toNatClampNeg) M236 hxr2 _ _ hb) rfl rfl hR ⟨Nat.le_of_ble_eq_true rfl, Nat.le_of_ble_eq_true rfl⟩ (Nat.le_of_ble_eq_true rfl) dL_law_977 (fun v237 M238 =>
 (x_icmp_eq g 2060 dL_law_980 rfl
 (fun _ => (hJ2 M238))
 (fun _ => (x_iconst g dL_law_983 kI_0
 x_none)))))))))))))))))))))))))))))) (fun hq24 => (x_if (fun he234 => x_tabIn (off := 952) g (22 : Int32) 985 dL_law_33 he234 (by decide) rfl rfl
 (x_aload_n g 1 dL_law_985 rfl rfl
 (x_callVi (As := []) g mv_X10_treeCost mi_X10_treeCost lk_RL_113 hxr1 (fun b Mh_ hb => kX10_treeCost φ xr1 M hxr1 _ _ hb) rfl rfl hR ⟨Nat.le_of_ble_eq_true rfl, Nat.le_of_ble_eq_true rfl⟩ (Nat.le_of_ble_eq_true rfl) dL_law_986 (fun v230 M231 =>
 (x_aload_n g 2 dL_law_989 rfl rfl
 (x_callVi (As := []) g mv_X11_treeCost mi_X11_treeCost lk_RL_116 hxr2 (fun b Mh_ hb => kX11_treeCost φ xr2 M231 hxr2 _ _ hb) rfl rfl hR ⟨Nat.le_of_ble_eq_true rfl, Nat.le_of_ble_eq_true rfl⟩ (Nat.le_of_ble_eq_true rfl) dL_law_990 (fun v232 M233 =>
 (x_icmp_eq g 2060 dL_law_993 rfl
 (fun _ => (hJ2 M233))
 (fun _ => (x_iconst g dL_law_996 kI_0
 x_none)))))))))) (fun hq25 => (x_if (fun he229 => x_tabIn (off := 965) g (23 : Int32) 998 dL_law_33 he229 (by decide) rfl rfl
 (x_aload_n g 1 dL_law_998 rfl rfl
 (x_callVi (As := []) g mv_X10_beds mi_X10_beds lk_RL_117 hxr1 (fun b Mh_ hb => kX10_beds φ xr1 M hxr1 _ _ hb) rfl rfl hR ⟨Nat.le_of_ble_eq_true rfl, Nat.le_of_ble_eq_true rfl⟩ (Nat.le_of_ble_eq_true rfl) dL_law_999 (fun v225 M226 =>
 (x_aload_n g 2 dL_law_1002 rfl rfl
 (x_callVi (As := []) g mv_X11_beds mi_X11_beds lk_RL_120 hxr2 (fun b Mh_ hb => kX11_beds φ xr2 M226 hxr2 _ _ hb) rfl rfl hR ⟨Nat.le_of_ble_eq_true rfl, Nat.le_of_ble_eq_true rfl⟩ (Nat.le_of_ble_eq_true rfl) dL_law_1003 (fun v227 M228 =>
 (x_icmp_eq g 2060 dL_law_1006 rfl
 (fun _ => (hJ2 M228))
 (fun _ => (x_iconst g dL_law_1009 kI_0
 x_none)))))))))) (fun hq26 => (x_if (fun he224 => x_tabIn (off := 978) g (24 : Int32) 1011 dL_law_33 he224 (by decide) rfl rfl
 (x_aload_n g 1 dL_law_1011 rfl rfl
 (x_aload_n g 0 dL_law_1012 rfl rfl
 (x_iload_n g 3 dL_law_1013 rfl rfl
 (x_iconst g dL_law_1014 kI_1
 (x_iadd g dL_law_1015
 (x_sald g hr ht dL_law_1016
 (x_aload_n g 0 dL_law_1017 rfl rfl
 (x_iload_n g 3 dL_law_1018 rfl rfl
 (x_iconst g dL_law_1019 kI_2
 (x_iadd g dL_law_1020
 (x_sald g hr ht dL_law_1021
 (x_callVi (As := [.int (xs (x3 + (1 : Int32)).toNatClampNeg), .int (xs (x3 + (2 : Int32)).toNatClampNeg)]) g mv_X10_bedOf mi_X10_bedOf lk_RL_121 hxr1 (fun b Mh_ hb => kX10_bedOf φ xr1 (xs (x3 + (1 : Int32)).toNatClampNeg) (xs (x3 + (2 : Int32)).toNatClampNeg) M hxr1 _ _ hb) rfl rfl hR ⟨Nat.le_of_ble_eq_true rfl, Nat.le_of_ble_eq_true rfl⟩ (Nat.le_of_ble_eq_true rfl) dL_law_1022 (fun v220 M221 =>
 (x_aload_n g 2 dL_law_1025 rfl rfl
 (x_aload_n g 0 dL_law_1026 rfl rfl
 (x_iload_n g 3 dL_law_1027 rfl rfl
 (x_iconst g dL_law_1028 kI_1
 (x_iadd g dL_law_1029
 (x_sald g hr ht dL_law_1030
 (x_aload_n g 0 dL_law_1031 rfl rfl
 (x_iload_n g 3 dL_law_1032 rfl rfl
 (x_iconst g dL_law_1033 kI_2
 (x_iadd g dL_law_1034
 (x_sald g hr ht dL_law_1035
 (x_callVi (As := [.int (xs (x3 + (1 : Int32)).toNatClampNeg), .int (xs (x3 + (2 : Int32)).toNatClampNeg)]) g mv_X11_bedOf mi_X11_bedOf lk_RL_124 hxr2 (fun b Mh_ hb => kX11_bedOf φ xr2 (xs (x3 + (1 : Int32)).toNatClampNeg) (xs (x3 + (2 : Int32)).toNatClampNeg) M221 hxr2 _ _ hb) rfl rfl hR ⟨Nat.le_of_ble_eq_true rfl, Nat.le_of_ble_eq_true rfl⟩ (Nat.le_of_ble_eq_true rfl) dL_law_1036 (fun v222 M223 =>
 (x_icmp_eq g 2060 dL_law_1039 rfl
 (fun _ => (hJ2 M223))
 (fun _ => (x_iconst g dL_law_1042 kI_0
 x_none)))))))))))))))))))))))))))))) (fun hq27 => (x_if (fun he219 => x_tabIn (off := 1011) g (25 : Int32) 1044 dL_law_33 he219 (by decide) rfl rfl
 (x_aload_n g 1 dL_law_1044 rfl rfl
 (x_aload_n g 0 dL_law_1045 rfl rfl
 (x_iload_n g 3 dL_law_1046 rfl rfl
 (x_iconst g dL_law_1047 kI_1
 (x_iadd g dL_law_1048
 (x_sald g hr ht dL_law_1049
 (x_callVi (As := [.int (xs (x3 + (1 : Int32)).toNatClampNeg)]) g mv_X10_holesOf mi_X10_holesOf lk_RL_125 hxr1 (fun b Mh_ hb => kX10_holesOf φ xr1 (xs (x3 + (1 : Int32)).toNatClampNeg) M hxr1 _ _ hb) rfl rfl hR ⟨Nat.le_of_ble_eq_true rfl, Nat.le_of_ble_eq_true rfl⟩ (Nat.le_of_ble_eq_true rfl) dL_law_1050 (fun v215 M216 =>
 (x_aload_n g 2 dL_law_1053 rfl rfl
 (x_aload_n g 0 dL_law_1054 rfl rfl
 (x_iload_n g 3 dL_law_1055 rfl rfl
 (x_iconst g dL_law_1056 kI_1
 (x_iadd g dL_law_1057
 (x_sald g hr ht dL_law_1058
 (x_callVi (As := [.int (xs (x3 + (1 : Int32)).toNatClampNeg)]) g mv_X11_holesOf mi_X11_holesOf lk_RL_128 hxr2 (fun b Mh_ hb => kX11_holesOf φ xr2 (xs (x3 + (1 : Int32)).toNatClampNeg) M216 hxr2 _ _ hb) rfl rfl hR ⟨Nat.le_of_ble_eq_true rfl, Nat.le_of_ble_eq_true rfl⟩ (Nat.le_of_ble_eq_true rfl) dL_law_1059 (fun v217 M218 =>
 (x_icmp_eq g 2060 dL_law_1062 rfl
 (fun _ => (hJ2 M218))
 (fun _ => (x_iconst g dL_law_1065 kI_0
 x_none)))))))))))))))))))) (fun hq28 => (x_if (fun he214 => x_tabIn (off := 1034) g (26 : Int32) 1067 dL_law_33 he214 (by decide) rfl rfl
 (x_aload_n g 1 dL_law_1067 rfl rfl
 (x_aload_n g 0 dL_law_1068 rfl rfl
 (x_iload_n g 3 dL_law_1069 rfl rfl
 (x_iconst g dL_law_1070 kI_1
 (x_iadd g dL_law_1071
 (x_sald g hr ht dL_law_1072
 (x_aload_n g 0 dL_law_1073 rfl rfl
 (x_iload_n g 3 dL_law_1074 rfl rfl
 (x_iconst g dL_law_1075 kI_2
 (x_iadd g dL_law_1076
 (x_sald g hr ht dL_law_1077
 (x_aload_n g 0 dL_law_1078 rfl rfl
 (x_iload_n g 3 dL_law_1079 rfl rfl
 (x_iconst g dL_law_1080 kI_3
 (x_iadd g dL_law_1081
 (x_sald g hr ht dL_law_1082
 (x_callVi (As := [.int (xs (x3 + (1 : Int32)).toNatClampNeg), .int (xs (x3 + (2 : Int32)).toNatClampNeg), .int (xs (x3 + (3 : Int32)).toNatClampNeg)]) g mv_X10_bed mi_X10_bed lk_RL_129 hxr1 (fun b Mh_ hb => kX10_bed φ xr1 (xs (x3 + (1 : Int32)).toNatClampNeg) (xs (x3 + (2 : Int32)).toNatClampNeg) (xs (x3 + (3 : Int32)).toNatClampNeg) M hxr1 _ _ hb) rfl rfl hR ⟨Nat.le_of_ble_eq_true rfl, Nat.le_of_ble_eq_true rfl⟩ (Nat.le_of_ble_eq_true rfl) dL_law_1083 (fun v210 M211 =>
 (x_aload_n g 2 dL_law_1086 rfl rfl
 (x_aload_n g 0 dL_law_1087 rfl rfl
 (x_iload_n g 3 dL_law_1088 rfl rfl
 (x_iconst g dL_law_1089 kI_1
 (x_iadd g dL_law_1090
 (x_sald g hr ht dL_law_1091
 (x_aload_n g 0 dL_law_1092 rfl rfl
 (x_iload_n g 3 dL_law_1093 rfl rfl
 (x_iconst g dL_law_1094 kI_2
 (x_iadd g dL_law_1095
 (x_sald g hr ht dL_law_1096
 (x_aload_n g 0 dL_law_1097 rfl rfl
 (x_iload_n g 3 dL_law_1098 rfl rfl
 (x_iconst g dL_law_1099 kI_3
 (x_iadd g dL_law_1100
 (x_sald g hr ht dL_law_1101
 (x_callVi (As := [.int (xs (x3 + (1 : Int32)).toNatClampNeg), .int (xs (x3 + (2 : Int32)).toNatClampNeg), .int (xs (x3 + (3 : Int32)).toNatClampNeg)]) g mv_X11_bed mi_X11_bed lk_RL_132 hxr2 (fun b Mh_ hb => kX11_bed φ xr2 (xs (x3 + (1 : Int32)).toNatClampNeg) (xs (x3 + (2 : Int32)).toNatClampNeg) (xs (x3 + (3 : Int32)).toNatClampNeg) M211 hxr2 _ _ hb) rfl rfl hR ⟨Nat.le_of_ble_eq_true rfl, Nat.le_of_ble_eq_true rfl⟩ (Nat.le_of_ble_eq_true rfl) dL_law_1102 (fun v212 M213 =>
 (x_icmp_eq g 2060 dL_law_1105 rfl
 (fun _ => (hJ2 M213))
 (fun _ => (x_iconst g dL_law_1108 kI_0
 x_none)))))))))))))))))))))))))))))))))))))))) (fun hq29 => (x_if (fun he209 => x_tabIn (off := 1077) g (27 : Int32) 1110 dL_law_33 he209 (by decide) rfl rfl
 (x_aload_n g 1 dL_law_1110 rfl rfl
 (x_aload_n g 0 dL_law_1111 rfl rfl
 (x_iload_n g 3 dL_law_1112 rfl rfl
 (x_iconst g dL_law_1113 kI_1
 (x_iadd g dL_law_1114
 (x_sald g hr ht dL_law_1115
 (x_aload_n g 0 dL_law_1116 rfl rfl
 (x_iload_n g 3 dL_law_1117 rfl rfl
 (x_iconst g dL_law_1118 kI_2
 (x_iadd g dL_law_1119
 (x_sald g hr ht dL_law_1120
 (x_callVi (As := [.int (xs (x3 + (1 : Int32)).toNatClampNeg), .int (xs (x3 + (2 : Int32)).toNatClampNeg)]) g mv_X10_above mi_X10_above lk_RL_133 hxr1 (fun b Mh_ hb => kX10_above φ xr1 (xs (x3 + (1 : Int32)).toNatClampNeg) (xs (x3 + (2 : Int32)).toNatClampNeg) M hxr1 _ _ hb) rfl rfl hR ⟨Nat.le_of_ble_eq_true rfl, Nat.le_of_ble_eq_true rfl⟩ (Nat.le_of_ble_eq_true rfl) dL_law_1121 (fun v205 M206 =>
 (x_aload_n g 2 dL_law_1124 rfl rfl
 (x_aload_n g 0 dL_law_1125 rfl rfl
 (x_iload_n g 3 dL_law_1126 rfl rfl
 (x_iconst g dL_law_1127 kI_1
 (x_iadd g dL_law_1128
 (x_sald g hr ht dL_law_1129
 (x_aload_n g 0 dL_law_1130 rfl rfl
 (x_iload_n g 3 dL_law_1131 rfl rfl
 (x_iconst g dL_law_1132 kI_2
 (x_iadd g dL_law_1133
 (x_sald g hr ht dL_law_1134
 (x_callVi (As := [.int (xs (x3 + (1 : Int32)).toNatClampNeg), .int (xs (x3 + (2 : Int32)).toNatClampNeg)]) g mv_X11_above mi_X11_above lk_RL_136 hxr2 (fun b Mh_ hb => kX11_above φ xr2 (xs (x3 + (1 : Int32)).toNatClampNeg) (xs (x3 + (2 : Int32)).toNatClampNeg) M206 hxr2 _ _ hb) rfl rfl hR ⟨Nat.le_of_ble_eq_true rfl, Nat.le_of_ble_eq_true rfl⟩ (Nat.le_of_ble_eq_true rfl) dL_law_1135 (fun v207 M208 =>
 (x_icmp_eq g 2060 dL_law_1138 rfl
 (fun _ => (hJ2 M208))
 (fun _ => (x_iconst g dL_law_1141 kI_0
 x_none)))))))))))))))))))))))))))))) (fun hq30 => (x_if (fun he204 => x_tabIn (off := 1110) g (28 : Int32) 1143 dL_law_33 he204 (by decide) rfl rfl
 (x_aload_n g 1 dL_law_1143 rfl rfl
 (x_aload_n g 0 dL_law_1144 rfl rfl
 (x_iload_n g 3 dL_law_1145 rfl rfl
 (x_iconst g dL_law_1146 kI_1
 (x_iadd g dL_law_1147
 (x_sald g hr ht dL_law_1148
 (x_callVi (As := [.int (xs (x3 + (1 : Int32)).toNatClampNeg)]) g mv_X10_order mi_X10_order lk_RL_137 hxr1 (fun b Mh_ hb => kX10_order φ xr1 (xs (x3 + (1 : Int32)).toNatClampNeg) M hxr1 _ _ hb) rfl rfl hR ⟨Nat.le_of_ble_eq_true rfl, Nat.le_of_ble_eq_true rfl⟩ (Nat.le_of_ble_eq_true rfl) dL_law_1149 (fun v200 M201 =>
 (x_aload_n g 2 dL_law_1152 rfl rfl
 (x_aload_n g 0 dL_law_1153 rfl rfl
 (x_iload_n g 3 dL_law_1154 rfl rfl
 (x_iconst g dL_law_1155 kI_1
 (x_iadd g dL_law_1156
 (x_sald g hr ht dL_law_1157
 (x_callVi (As := [.int (xs (x3 + (1 : Int32)).toNatClampNeg)]) g mv_X11_order mi_X11_order lk_RL_140 hxr2 (fun b Mh_ hb => kX11_order φ xr2 (xs (x3 + (1 : Int32)).toNatClampNeg) M201 hxr2 _ _ hb) rfl rfl hR ⟨Nat.le_of_ble_eq_true rfl, Nat.le_of_ble_eq_true rfl⟩ (Nat.le_of_ble_eq_true rfl) dL_law_1158 (fun v202 M203 =>
 (x_icmp_eq g 2060 dL_law_1161 rfl
 (fun _ => (hJ2 M203))
 (fun _ => (x_iconst g dL_law_1164 kI_0
 x_none)))))))))))))))))))) (fun hq31 => (x_if (fun he199 => x_tabIn (off := 1133) g (29 : Int32) 1166 dL_law_33 he199 (by decide) rfl rfl
 (x_aload_n g 1 dL_law_1166 rfl rfl
 (x_callVi (As := []) g mv_X10_widest mi_X10_widest lk_RL_141 hxr1 (fun b Mh_ hb => kX10_widest φ xr1 M hxr1 _ _ hb) rfl rfl hR ⟨Nat.le_of_ble_eq_true rfl, Nat.le_of_ble_eq_true rfl⟩ (Nat.le_of_ble_eq_true rfl) dL_law_1167 (fun v195 M196 =>
 (x_aload_n g 2 dL_law_1170 rfl rfl
 (x_callVi (As := []) g mv_X11_widest mi_X11_widest lk_RL_144 hxr2 (fun b Mh_ hb => kX11_widest φ xr2 M196 hxr2 _ _ hb) rfl rfl hR ⟨Nat.le_of_ble_eq_true rfl, Nat.le_of_ble_eq_true rfl⟩ (Nat.le_of_ble_eq_true rfl) dL_law_1171 (fun v197 M198 =>
 (x_icmp_eq g 2060 dL_law_1174 rfl
 (fun _ => (hJ2 M198))
 (fun _ => (x_iconst g dL_law_1177 kI_0
 x_none)))))))))) (fun hq32 => (x_if (fun he194 => x_tabIn (off := 1146) g (30 : Int32) 1179 dL_law_33 he194 (by decide) rfl rfl
 (x_aload_n g 1 dL_law_1179 rfl rfl
 (x_aload_n g 0 dL_law_1180 rfl rfl
 (x_iload_n g 3 dL_law_1181 rfl rfl
 (x_iconst g dL_law_1182 kI_1
 (x_iadd g dL_law_1183
 (x_sald g hr ht dL_law_1184
 (x_callVi (As := [.int (xs (x3 + (1 : Int32)).toNatClampNeg)]) g mv_X10_area mi_X10_area lk_RL_145 hxr1 (fun b Mh_ hb => kX10_area φ xr1 (xs (x3 + (1 : Int32)).toNatClampNeg) M hxr1 _ _ hb) rfl rfl hR ⟨Nat.le_of_ble_eq_true rfl, Nat.le_of_ble_eq_true rfl⟩ (Nat.le_of_ble_eq_true rfl) dL_law_1185 (fun v190 M191 =>
 (x_aload_n g 2 dL_law_1188 rfl rfl
 (x_aload_n g 0 dL_law_1189 rfl rfl
 (x_iload_n g 3 dL_law_1190 rfl rfl
 (x_iconst g dL_law_1191 kI_1
 (x_iadd g dL_law_1192
 (x_sald g hr ht dL_law_1193
 (x_callVi (As := [.int (xs (x3 + (1 : Int32)).toNatClampNeg)]) g mv_X11_area mi_X11_area lk_RL_149 hxr2 (fun b Mh_ hb => kX11_area φ xr2 (xs (x3 + (1 : Int32)).toNatClampNeg) M191 hxr2 _ _ hb) rfl rfl hR ⟨Nat.le_of_ble_eq_true rfl, Nat.le_of_ble_eq_true rfl⟩ (Nat.le_of_ble_eq_true rfl) dL_law_1194 (fun v192 M193 =>
 (x_icmp_eq g 2060 dL_law_1197 rfl
 (fun _ => (hJ2 M193))
 (fun _ => (x_iconst g dL_law_1200 kI_0
 x_none)))))))))))))))))))) (fun hq33 => (x_if (fun he189 => x_tabIn (off := 1169) g (31 : Int32) 1202 dL_law_33 he189 (by decide) rfl rfl
 (x_aload_n g 1 dL_law_1202 rfl rfl
 (x_aload_n g 0 dL_law_1203 rfl rfl
 (x_iload_n g 3 dL_law_1204 rfl rfl
 (x_iconst g dL_law_1205 kI_1
 (x_iadd g dL_law_1206
 (x_sald g hr ht dL_law_1207
 (x_callVi (As := [.int (xs (x3 + (1 : Int32)).toNatClampNeg)]) g mv_X10_across mi_X10_across lk_RL_150 hxr1 (fun b Mh_ hb => kX10_across φ xr1 (xs (x3 + (1 : Int32)).toNatClampNeg) M hxr1 _ _ hb) rfl rfl hR ⟨Nat.le_of_ble_eq_true rfl, Nat.le_of_ble_eq_true rfl⟩ (Nat.le_of_ble_eq_true rfl) dL_law_1208 (fun v185 M186 =>
 (x_aload_n g 2 dL_law_1211 rfl rfl
 (x_aload_n g 0 dL_law_1212 rfl rfl
 (x_iload_n g 3 dL_law_1213 rfl rfl
 (x_iconst g dL_law_1214 kI_1
 (x_iadd g dL_law_1215
 (x_sald g hr ht dL_law_1216
 (x_callVi (As := [.int (xs (x3 + (1 : Int32)).toNatClampNeg)]) g mv_X11_across mi_X11_across lk_RL_153 hxr2 (fun b Mh_ hb => kX11_across φ xr2 (xs (x3 + (1 : Int32)).toNatClampNeg) M186 hxr2 _ _ hb) rfl rfl hR ⟨Nat.le_of_ble_eq_true rfl, Nat.le_of_ble_eq_true rfl⟩ (Nat.le_of_ble_eq_true rfl) dL_law_1217 (fun v187 M188 =>
 (x_icmp_eq g 2060 dL_law_1220 rfl
 (fun _ => (hJ2 M188))
 (fun _ => (x_iconst g dL_law_1223 kI_0
 x_none)))))))))))))))))))) (fun hq34 => (x_if (fun he184 => x_tabIn (off := 1192) g (32 : Int32) 1225 dL_law_33 he184 (by decide) rfl rfl
 (x_aload_n g 1 dL_law_1225 rfl rfl
 (x_aload_n g 0 dL_law_1226 rfl rfl
 (x_iload_n g 3 dL_law_1227 rfl rfl
 (x_iconst g dL_law_1228 kI_1
 (x_iadd g dL_law_1229
 (x_sald g hr ht dL_law_1230
 (x_aload_n g 0 dL_law_1231 rfl rfl
 (x_iload_n g 3 dL_law_1232 rfl rfl
 (x_iconst g dL_law_1233 kI_2
 (x_iadd g dL_law_1234
 (x_sald g hr ht dL_law_1235
 (x_callVi (As := [.int (xs (x3 + (1 : Int32)).toNatClampNeg), .int (xs (x3 + (2 : Int32)).toNatClampNeg)]) g mv_X10_triangleAt mi_X10_triangleAt lk_RL_154 hxr1 (fun b Mh_ hb => kX10_triangleAt φ xr1 (xs (x3 + (1 : Int32)).toNatClampNeg) (xs (x3 + (2 : Int32)).toNatClampNeg) M hxr1 _ _ hb) rfl rfl hR ⟨Nat.le_of_ble_eq_true rfl, Nat.le_of_ble_eq_true rfl⟩ (Nat.le_of_ble_eq_true rfl) dL_law_1236 (fun v180 M181 =>
 (x_aload_n g 2 dL_law_1239 rfl rfl
 (x_aload_n g 0 dL_law_1240 rfl rfl
 (x_iload_n g 3 dL_law_1241 rfl rfl
 (x_iconst g dL_law_1242 kI_1
 (x_iadd g dL_law_1243
 (x_sald g hr ht dL_law_1244
 (x_aload_n g 0 dL_law_1245 rfl rfl
 (x_iload_n g 3 dL_law_1246 rfl rfl
 (x_iconst g dL_law_1247 kI_2
 (x_iadd g dL_law_1248
 (x_sald g hr ht dL_law_1249
 (x_callVi (As := [.int (xs (x3 + (1 : Int32)).toNatClampNeg), .int (xs (x3 + (2 : Int32)).toNatClampNeg)]) g mv_X11_triangleAt mi_X11_triangleAt lk_RL_157 hxr2 (fun b Mh_ hb => kX11_triangleAt φ xr2 (xs (x3 + (1 : Int32)).toNatClampNeg) (xs (x3 + (2 : Int32)).toNatClampNeg) M181 hxr2 _ _ hb) rfl rfl hR ⟨Nat.le_of_ble_eq_true rfl, Nat.le_of_ble_eq_true rfl⟩ (Nat.le_of_ble_eq_true rfl) dL_law_1250 (fun v182 M183 =>
 (x_icmp_eq g 2060 dL_law_1253 rfl
 (fun _ => (hJ2 M183))
 (fun _ => (x_iconst g dL_law_1256 kI_0
 x_none)))))))))))))))))))))))))))))) (fun hq35 => (x_if (fun he179 => x_tabIn (off := 1225) g (33 : Int32) 1258 dL_law_33 he179 (by decide) rfl rfl
 (x_aload_n g 1 dL_law_1258 rfl rfl
 (x_aload_n g 0 dL_law_1259 rfl rfl
 (x_iload_n g 3 dL_law_1260 rfl rfl
 (x_iconst g dL_law_1261 kI_1
 (x_iadd g dL_law_1262
 (x_sald g hr ht dL_law_1263
 (x_aload_n g 0 dL_law_1264 rfl rfl
 (x_iload_n g 3 dL_law_1265 rfl rfl
 (x_iconst g dL_law_1266 kI_2
 (x_iadd g dL_law_1267
 (x_sald g hr ht dL_law_1268
 (x_aload_n g 0 dL_law_1269 rfl rfl
 (x_iload_n g 3 dL_law_1270 rfl rfl
 (x_iconst g dL_law_1271 kI_3
 (x_iadd g dL_law_1272
 (x_sald g hr ht dL_law_1273
 (x_callVi (As := [.int (xs (x3 + (1 : Int32)).toNatClampNeg), .int (xs (x3 + (2 : Int32)).toNatClampNeg), .int (xs (x3 + (3 : Int32)).toNatClampNeg)]) g mv_X10_topAt mi_X10_topAt lk_RL_158 hxr1 (fun b Mh_ hb => kX10_topAt φ xr1 (xs (x3 + (1 : Int32)).toNatClampNeg) (xs (x3 + (2 : Int32)).toNatClampNeg) (xs (x3 + (3 : Int32)).toNatClampNeg) M hxr1 _ _ hb) rfl rfl hR ⟨Nat.le_of_ble_eq_true rfl, Nat.le_of_ble_eq_true rfl⟩ (Nat.le_of_ble_eq_true rfl) dL_law_1274 (fun v175 M176 =>
 (x_aload_n g 2 dL_law_1277 rfl rfl
 (x_aload_n g 0 dL_law_1278 rfl rfl
 (x_iload_n g 3 dL_law_1279 rfl rfl
 (x_iconst g dL_law_1280 kI_1
 (x_iadd g dL_law_1281
 (x_sald g hr ht dL_law_1282
 (x_aload_n g 0 dL_law_1283 rfl rfl
 (x_iload_n g 3 dL_law_1284 rfl rfl
 (x_iconst g dL_law_1285 kI_2
 (x_iadd g dL_law_1286
 (x_sald g hr ht dL_law_1287
 (x_aload_n g 0 dL_law_1288 rfl rfl
 (x_iload_n g 3 dL_law_1289 rfl rfl
 (x_iconst g dL_law_1290 kI_3
 (x_iadd g dL_law_1291
 (x_sald g hr ht dL_law_1292
 (x_callVi (As := [.int (xs (x3 + (1 : Int32)).toNatClampNeg), .int (xs (x3 + (2 : Int32)).toNatClampNeg), .int (xs (x3 + (3 : Int32)).toNatClampNeg)]) g mv_X11_topAt mi_X11_topAt lk_RL_161 hxr2 (fun b Mh_ hb => kX11_topAt φ xr2 (xs (x3 + (1 : Int32)).toNatClampNeg) (xs (x3 + (2 : Int32)).toNatClampNeg) (xs (x3 + (3 : Int32)).toNatClampNeg) M176 hxr2 _ _ hb) rfl rfl hR ⟨Nat.le_of_ble_eq_true rfl, Nat.le_of_ble_eq_true rfl⟩ (Nat.le_of_ble_eq_true rfl) dL_law_1293 (fun v177 M178 =>
 (x_icmp_eq g 2060 dL_law_1296 rfl
 (fun _ => (hJ2 M178))
 (fun _ => (x_iconst g dL_law_1299 kI_0
 x_none)))))))))))))))))))))))))))))))))))))))) (fun hq36 => (x_if (fun he174 => x_tabIn (off := 1268) g (34 : Int32) 1301 dL_law_33 he174 (by decide) rfl rfl
 (x_aload_n g 1 dL_law_1301 rfl rfl
 (x_aload_n g 0 dL_law_1302 rfl rfl
 (x_iload_n g 3 dL_law_1303 rfl rfl
 (x_iconst g dL_law_1304 kI_1
 (x_iadd g dL_law_1305
 (x_sald g hr ht dL_law_1306
 (x_aload_n g 0 dL_law_1307 rfl rfl
 (x_iload_n g 3 dL_law_1308 rfl rfl
 (x_iconst g dL_law_1309 kI_2
 (x_iadd g dL_law_1310
 (x_sald g hr ht dL_law_1311
 (x_aload_n g 0 dL_law_1312 rfl rfl
 (x_iload_n g 3 dL_law_1313 rfl rfl
 (x_iconst g dL_law_1314 kI_3
 (x_iadd g dL_law_1315
 (x_sald g hr ht dL_law_1316
 (x_callVi (As := [.int (xs (x3 + (1 : Int32)).toNatClampNeg), .int (xs (x3 + (2 : Int32)).toNatClampNeg), .int (xs (x3 + (3 : Int32)).toNatClampNeg)]) g mv_X10_thickAt mi_X10_thickAt lk_RL_162 hxr1 (fun b Mh_ hb => kX10_thickAt φ xr1 (xs (x3 + (1 : Int32)).toNatClampNeg) (xs (x3 + (2 : Int32)).toNatClampNeg) (xs (x3 + (3 : Int32)).toNatClampNeg) M hxr1 _ _ hb) rfl rfl hR ⟨Nat.le_of_ble_eq_true rfl, Nat.le_of_ble_eq_true rfl⟩ (Nat.le_of_ble_eq_true rfl) dL_law_1317 (fun v170 M171 =>
 (x_aload_n g 2 dL_law_1320 rfl rfl
 (x_aload_n g 0 dL_law_1321 rfl rfl
 (x_iload_n g 3 dL_law_1322 rfl rfl
 (x_iconst g dL_law_1323 kI_1
 (x_iadd g dL_law_1324
 (x_sald g hr ht dL_law_1325
 (x_aload_n g 0 dL_law_1326 rfl rfl
 (x_iload_n g 3 dL_law_1327 rfl rfl
 (x_iconst g dL_law_1328 kI_2
 (x_iadd g dL_law_1329
 (x_sald g hr ht dL_law_1330
 (x_aload_n g 0 dL_law_1331 rfl rfl
 (x_iload_n g 3 dL_law_1332 rfl rfl
 (x_iconst g dL_law_1333 kI_3
 (x_iadd g dL_law_1334
 (x_sald g hr ht dL_law_1335
 (x_callVi (As := [.int (xs (x3 + (1 : Int32)).toNatClampNeg), .int (xs (x3 + (2 : Int32)).toNatClampNeg), .int (xs (x3 + (3 : Int32)).toNatClampNeg)]) g mv_X11_thickAt mi_X11_thickAt lk_RL_165 hxr2 (fun b Mh_ hb => kX11_thickAt φ xr2 (xs (x3 + (1 : Int32)).toNatClampNeg) (xs (x3 + (2 : Int32)).toNatClampNeg) (xs (x3 + (3 : Int32)).toNatClampNeg) M171 hxr2 _ _ hb) rfl rfl hR ⟨Nat.le_of_ble_eq_true rfl, Nat.le_of_ble_eq_true rfl⟩ (Nat.le_of_ble_eq_true rfl) dL_law_1336 (fun v172 M173 =>
 (x_icmp_eq g 2060 dL_law_1339 rfl
 (fun _ => (hJ2 M173))
 (fun _ => (x_iconst g dL_law_1342 kI_0
 x_none)))))))))))))))))))))))))))))))))))))))) (fun hq37 => (x_if (fun he169 => x_tabIn (off := 1311) g (35 : Int32) 1344 dL_law_33 he169 (by decide) rfl rfl
 (x_aload_n g 1 dL_law_1344 rfl rfl
 (x_aload_n g 0 dL_law_1345 rfl rfl
 (x_iload_n g 3 dL_law_1346 rfl rfl
 (x_iconst g dL_law_1347 kI_1
 (x_iadd g dL_law_1348
 (x_sald g hr ht dL_law_1349
 (x_aload_n g 0 dL_law_1350 rfl rfl
 (x_iload_n g 3 dL_law_1351 rfl rfl
 (x_iconst g dL_law_1352 kI_2
 (x_iadd g dL_law_1353
 (x_sald g hr ht dL_law_1354
 (x_callVi (As := [.int (xs (x3 + (1 : Int32)).toNatClampNeg), .int (xs (x3 + (2 : Int32)).toNatClampNeg)]) g mv_X10_volume mi_X10_volume lk_RL_166 hxr1 (fun b Mh_ hb => kX10_volume φ xr1 (xs (x3 + (1 : Int32)).toNatClampNeg) (xs (x3 + (2 : Int32)).toNatClampNeg) M hxr1 _ _ hb) rfl rfl hR ⟨Nat.le_of_ble_eq_true rfl, Nat.le_of_ble_eq_true rfl⟩ (Nat.le_of_ble_eq_true rfl) dL_law_1355 (fun v165 M166 =>
 (x_aload_n g 2 dL_law_1358 rfl rfl
 (x_aload_n g 0 dL_law_1359 rfl rfl
 (x_iload_n g 3 dL_law_1360 rfl rfl
 (x_iconst g dL_law_1361 kI_1
 (x_iadd g dL_law_1362
 (x_sald g hr ht dL_law_1363
 (x_aload_n g 0 dL_law_1364 rfl rfl
 (x_iload_n g 3 dL_law_1365 rfl rfl
 (x_iconst g dL_law_1366 kI_2
 (x_iadd g dL_law_1367
 (x_sald g hr ht dL_law_1368
 (x_callVi (As := [.int (xs (x3 + (1 : Int32)).toNatClampNeg), .int (xs (x3 + (2 : Int32)).toNatClampNeg)]) g mv_X11_volume mi_X11_volume lk_RL_170 hxr2 (fun b Mh_ hb => kX11_volume φ xr2 (xs (x3 + (1 : Int32)).toNatClampNeg) (xs (x3 + (2 : Int32)).toNatClampNeg) M166 hxr2 _ _ hb) rfl rfl hR ⟨Nat.le_of_ble_eq_true rfl, Nat.le_of_ble_eq_true rfl⟩ (Nat.le_of_ble_eq_true rfl) dL_law_1369 (fun v167 M168 =>
 (x_icmp_eq g 2060 dL_law_1372 rfl
 (fun _ => (hJ2 M168))
 (fun _ => (x_iconst g dL_law_1375 kI_0
 x_none)))))))))))))))))))))))))))))) (fun hq38 => (x_if (fun he164 => x_tabIn (off := 1344) g (36 : Int32) 1377 dL_law_33 he164 (by decide) rfl rfl
 (x_aload_n g 1 dL_law_1377 rfl rfl
 (x_aload_n g 0 dL_law_1378 rfl rfl
 (x_iload_n g 3 dL_law_1379 rfl rfl
 (x_iconst g dL_law_1380 kI_1
 (x_iadd g dL_law_1381
 (x_sald g hr ht dL_law_1382
 (x_callVi (As := [.int (xs (x3 + (1 : Int32)).toNatClampNeg)]) g mv_X10_volumeOf mi_X10_volumeOf lk_RL_171 hxr1 (fun b Mh_ hb => kX10_volumeOf φ xr1 (xs (x3 + (1 : Int32)).toNatClampNeg) M hxr1 _ _ hb) rfl rfl hR ⟨Nat.le_of_ble_eq_true rfl, Nat.le_of_ble_eq_true rfl⟩ (Nat.le_of_ble_eq_true rfl) dL_law_1383 (fun v160 M161 =>
 (x_aload_n g 2 dL_law_1386 rfl rfl
 (x_aload_n g 0 dL_law_1387 rfl rfl
 (x_iload_n g 3 dL_law_1388 rfl rfl
 (x_iconst g dL_law_1389 kI_1
 (x_iadd g dL_law_1390
 (x_sald g hr ht dL_law_1391
 (x_callVi (As := [.int (xs (x3 + (1 : Int32)).toNatClampNeg)]) g mv_X11_volumeOf mi_X11_volumeOf lk_RL_174 hxr2 (fun b Mh_ hb => kX11_volumeOf φ xr2 (xs (x3 + (1 : Int32)).toNatClampNeg) M161 hxr2 _ _ hb) rfl rfl hR ⟨Nat.le_of_ble_eq_true rfl, Nat.le_of_ble_eq_true rfl⟩ (Nat.le_of_ble_eq_true rfl) dL_law_1392 (fun v162 M163 =>
 (x_icmp_eq g 2060 dL_law_1395 rfl
 (fun _ => (hJ2 M163))
 (fun _ => (x_iconst g dL_law_1398 kI_0
 x_none)))))))))))))))))))) (fun hq39 => (x_if (fun he159 => x_tabIn (off := 1367) g (37 : Int32) 1400 dL_law_33 he159 (by decide) rfl rfl
 (x_aload_n g 1 dL_law_1400 rfl rfl
 (x_aload_n g 0 dL_law_1401 rfl rfl
 (x_iload_n g 3 dL_law_1402 rfl rfl
 (x_iconst g dL_law_1403 kI_1
 (x_iadd g dL_law_1404
 (x_sald g hr ht dL_law_1405
 (x_aload_n g 0 dL_law_1406 rfl rfl
 (x_iload_n g 3 dL_law_1407 rfl rfl
 (x_iconst g dL_law_1408 kI_2
 (x_iadd g dL_law_1409
 (x_sald g hr ht dL_law_1410
 (x_aload_n g 0 dL_law_1411 rfl rfl
 (x_iload_n g 3 dL_law_1412 rfl rfl
 (x_iconst g dL_law_1413 kI_3
 (x_iadd g dL_law_1414
 (x_sald g hr ht dL_law_1415
 (x_callVi (As := [.int (xs (x3 + (1 : Int32)).toNatClampNeg), .int (xs (x3 + (2 : Int32)).toNatClampNeg), .int (xs (x3 + (3 : Int32)).toNatClampNeg)]) g mv_X10_tilt mi_X10_tilt lk_RL_175 hxr1 (fun b Mh_ hb => kX10_tilt φ xr1 (xs (x3 + (1 : Int32)).toNatClampNeg) (xs (x3 + (2 : Int32)).toNatClampNeg) (xs (x3 + (3 : Int32)).toNatClampNeg) M hxr1 _ _ hb) rfl rfl hR ⟨Nat.le_of_ble_eq_true rfl, Nat.le_of_ble_eq_true rfl⟩ (Nat.le_of_ble_eq_true rfl) dL_law_1416 (fun v155 M156 =>
 (x_aload_n g 2 dL_law_1419 rfl rfl
 (x_aload_n g 0 dL_law_1420 rfl rfl
 (x_iload_n g 3 dL_law_1421 rfl rfl
 (x_iconst g dL_law_1422 kI_1
 (x_iadd g dL_law_1423
 (x_sald g hr ht dL_law_1424
 (x_aload_n g 0 dL_law_1425 rfl rfl
 (x_iload_n g 3 dL_law_1426 rfl rfl
 (x_iconst g dL_law_1427 kI_2
 (x_iadd g dL_law_1428
 (x_sald g hr ht dL_law_1429
 (x_aload_n g 0 dL_law_1430 rfl rfl
 (x_iload_n g 3 dL_law_1431 rfl rfl
 (x_iconst g dL_law_1432 kI_3
 (x_iadd g dL_law_1433
 (x_sald g hr ht dL_law_1434
 (x_callVi (As := [.int (xs (x3 + (1 : Int32)).toNatClampNeg), .int (xs (x3 + (2 : Int32)).toNatClampNeg), .int (xs (x3 + (3 : Int32)).toNatClampNeg)]) g mv_X11_tilt mi_X11_tilt lk_RL_178 hxr2 (fun b Mh_ hb => kX11_tilt φ xr2 (xs (x3 + (1 : Int32)).toNatClampNeg) (xs (x3 + (2 : Int32)).toNatClampNeg) (xs (x3 + (3 : Int32)).toNatClampNeg) M156 hxr2 _ _ hb) rfl rfl hR ⟨Nat.le_of_ble_eq_true rfl, Nat.le_of_ble_eq_true rfl⟩ (Nat.le_of_ble_eq_true rfl) dL_law_1435 (fun v157 M158 =>
 (x_icmp_eq g 2060 dL_law_1438 rfl
 (fun _ => (hJ2 M158))
 (fun _ => (x_iconst g dL_law_1441 kI_0
 x_none)))))))))))))))))))))))))))))))))))))))) (fun hq40 => (x_if (fun he154 => x_tabIn (off := 1410) g (38 : Int32) 1443 dL_law_33 he154 (by decide) rfl rfl
 (x_aload_n g 1 dL_law_1443 rfl rfl
 (x_aload_n g 0 dL_law_1444 rfl rfl
 (x_iload_n g 3 dL_law_1445 rfl rfl
 (x_iconst g dL_law_1446 kI_1
 (x_iadd g dL_law_1447
 (x_sald g hr ht dL_law_1448
 (x_callVi (As := [.int (xs (x3 + (1 : Int32)).toNatClampNeg)]) g mv_X10_deepest mi_X10_deepest lk_RL_179 hxr1 (fun b Mh_ hb => kX10_deepest φ xr1 (xs (x3 + (1 : Int32)).toNatClampNeg) M hxr1 _ _ hb) rfl rfl hR ⟨Nat.le_of_ble_eq_true rfl, Nat.le_of_ble_eq_true rfl⟩ (Nat.le_of_ble_eq_true rfl) dL_law_1449 (fun v150 M151 =>
 (x_aload_n g 2 dL_law_1452 rfl rfl
 (x_aload_n g 0 dL_law_1453 rfl rfl
 (x_iload_n g 3 dL_law_1454 rfl rfl
 (x_iconst g dL_law_1455 kI_1
 (x_iadd g dL_law_1456
 (x_sald g hr ht dL_law_1457
 (x_callVi (As := [.int (xs (x3 + (1 : Int32)).toNatClampNeg)]) g mv_X11_deepest mi_X11_deepest lk_RL_182 hxr2 (fun b Mh_ hb => kX11_deepest φ xr2 (xs (x3 + (1 : Int32)).toNatClampNeg) M151 hxr2 _ _ hb) rfl rfl hR ⟨Nat.le_of_ble_eq_true rfl, Nat.le_of_ble_eq_true rfl⟩ (Nat.le_of_ble_eq_true rfl) dL_law_1458 (fun v152 M153 =>
 (x_icmp_eq g 2060 dL_law_1461 rfl
 (fun _ => (hJ2 M153))
 (fun _ => (x_iconst g dL_law_1464 kI_0
 x_none)))))))))))))))))))) (fun hq41 => (x_if (fun he149 => x_tabIn (off := 1433) g (39 : Int32) 1466 dL_law_33 he149 (by decide) rfl rfl
 (x_aload_n g 1 dL_law_1466 rfl rfl
 (x_aload_n g 0 dL_law_1467 rfl rfl
 (x_iload_n g 3 dL_law_1468 rfl rfl
 (x_iconst g dL_law_1469 kI_1
 (x_iadd g dL_law_1470
 (x_sald g hr ht dL_law_1471
 (x_aload_n g 0 dL_law_1472 rfl rfl
 (x_iload_n g 3 dL_law_1473 rfl rfl
 (x_iconst g dL_law_1474 kI_2
 (x_iadd g dL_law_1475
 (x_sald g hr ht dL_law_1476
 (x_callVi (As := [.int (xs (x3 + (1 : Int32)).toNatClampNeg), .int (xs (x3 + (2 : Int32)).toNatClampNeg)]) g mv_X10_shared mi_X10_shared lk_RL_183 hxr1 (fun b Mh_ hb => kX10_shared φ xr1 (xs (x3 + (1 : Int32)).toNatClampNeg) (xs (x3 + (2 : Int32)).toNatClampNeg) M hxr1 _ _ hb) rfl rfl hR ⟨Nat.le_of_ble_eq_true rfl, Nat.le_of_ble_eq_true rfl⟩ (Nat.le_of_ble_eq_true rfl) dL_law_1477 (fun v145 M146 =>
 (x_aload_n g 2 dL_law_1480 rfl rfl
 (x_aload_n g 0 dL_law_1481 rfl rfl
 (x_iload_n g 3 dL_law_1482 rfl rfl
 (x_iconst g dL_law_1483 kI_1
 (x_iadd g dL_law_1484
 (x_sald g hr ht dL_law_1485
 (x_aload_n g 0 dL_law_1486 rfl rfl
 (x_iload_n g 3 dL_law_1487 rfl rfl
 (x_iconst g dL_law_1488 kI_2
 (x_iadd g dL_law_1489
 (x_sald g hr ht dL_law_1490
 (x_callVi (As := [.int (xs (x3 + (1 : Int32)).toNatClampNeg), .int (xs (x3 + (2 : Int32)).toNatClampNeg)]) g mv_X11_shared mi_X11_shared lk_RL_186 hxr2 (fun b Mh_ hb => kX11_shared φ xr2 (xs (x3 + (1 : Int32)).toNatClampNeg) (xs (x3 + (2 : Int32)).toNatClampNeg) M146 hxr2 _ _ hb) rfl rfl hR ⟨Nat.le_of_ble_eq_true rfl, Nat.le_of_ble_eq_true rfl⟩ (Nat.le_of_ble_eq_true rfl) dL_law_1491 (fun v147 M148 =>
 (x_icmp_eq g 2060 dL_law_1494 rfl
 (fun _ => (hJ2 M148))
 (fun _ => (x_iconst g dL_law_1497 kI_0
 x_none)))))))))))))))))))))))))))))) (fun hq42 => (x_if (fun he144 => x_tabIn (off := 1466) g (40 : Int32) 1499 dL_law_33 he144 (by decide) rfl rfl
 (x_aload_n g 1 dL_law_1499 rfl rfl
 (x_aload_n g 0 dL_law_1500 rfl rfl
 (x_iload_n g 3 dL_law_1501 rfl rfl
 (x_iconst g dL_law_1502 kI_1
 (x_iadd g dL_law_1503
 (x_sald g hr ht dL_law_1504
 (x_callVi (As := [.int (xs (x3 + (1 : Int32)).toNatClampNeg)]) g mv_X10_gaps mi_X10_gaps lk_RL_187 hxr1 (fun b Mh_ hb => kX10_gaps φ xr1 (xs (x3 + (1 : Int32)).toNatClampNeg) M hxr1 _ _ hb) rfl rfl hR ⟨Nat.le_of_ble_eq_true rfl, Nat.le_of_ble_eq_true rfl⟩ (Nat.le_of_ble_eq_true rfl) dL_law_1505 (fun v140 M141 =>
 (x_aload_n g 2 dL_law_1508 rfl rfl
 (x_aload_n g 0 dL_law_1509 rfl rfl
 (x_iload_n g 3 dL_law_1510 rfl rfl
 (x_iconst g dL_law_1511 kI_1
 (x_iadd g dL_law_1512
 (x_sald g hr ht dL_law_1513
 (x_callVi (As := [.int (xs (x3 + (1 : Int32)).toNatClampNeg)]) g mv_X11_gaps mi_X11_gaps lk_RL_190 hxr2 (fun b Mh_ hb => kX11_gaps φ xr2 (xs (x3 + (1 : Int32)).toNatClampNeg) M141 hxr2 _ _ hb) rfl rfl hR ⟨Nat.le_of_ble_eq_true rfl, Nat.le_of_ble_eq_true rfl⟩ (Nat.le_of_ble_eq_true rfl) dL_law_1514 (fun v142 M143 =>
 (x_icmp_eq g 2060 dL_law_1517 rfl
 (fun _ => (hJ2 M143))
 (fun _ => (x_iconst g dL_law_1520 kI_0
 x_none)))))))))))))))))))) (fun hq43 => (x_if (fun he139 => x_tabIn (off := 1489) g (41 : Int32) 1522 dL_law_33 he139 (by decide) rfl rfl
 (x_aload_n g 1 dL_law_1522 rfl rfl
 (x_aload_n g 0 dL_law_1523 rfl rfl
 (x_iload_n g 3 dL_law_1524 rfl rfl
 (x_iconst g dL_law_1525 kI_1
 (x_iadd g dL_law_1526
 (x_sald g hr ht dL_law_1527
 (x_aload_n g 0 dL_law_1528 rfl rfl
 (x_iload_n g 3 dL_law_1529 rfl rfl
 (x_iconst g dL_law_1530 kI_2
 (x_iadd g dL_law_1531
 (x_sald g hr ht dL_law_1532
 (x_callVi (As := [.int (xs (x3 + (1 : Int32)).toNatClampNeg), .int (xs (x3 + (2 : Int32)).toNatClampNeg)]) g mv_X10_draws mi_X10_draws lk_RL_191 hxr1 (fun b Mh_ hb => kX10_draws φ xr1 (xs (x3 + (1 : Int32)).toNatClampNeg) (xs (x3 + (2 : Int32)).toNatClampNeg) M hxr1 _ _ hb) rfl rfl hR ⟨Nat.le_of_ble_eq_true rfl, Nat.le_of_ble_eq_true rfl⟩ (Nat.le_of_ble_eq_true rfl) dL_law_1533 (fun v135 M136 =>
 (x_aload_n g 2 dL_law_1536 rfl rfl
 (x_aload_n g 0 dL_law_1537 rfl rfl
 (x_iload_n g 3 dL_law_1538 rfl rfl
 (x_iconst g dL_law_1539 kI_1
 (x_iadd g dL_law_1540
 (x_sald g hr ht dL_law_1541
 (x_aload_n g 0 dL_law_1542 rfl rfl
 (x_iload_n g 3 dL_law_1543 rfl rfl
 (x_iconst g dL_law_1544 kI_2
 (x_iadd g dL_law_1545
 (x_sald g hr ht dL_law_1546
 (x_callVi (As := [.int (xs (x3 + (1 : Int32)).toNatClampNeg), .int (xs (x3 + (2 : Int32)).toNatClampNeg)]) g mv_X11_draws mi_X11_draws lk_RL_194 hxr2 (fun b Mh_ hb => kX11_draws φ xr2 (xs (x3 + (1 : Int32)).toNatClampNeg) (xs (x3 + (2 : Int32)).toNatClampNeg) M136 hxr2 _ _ hb) rfl rfl hR ⟨Nat.le_of_ble_eq_true rfl, Nat.le_of_ble_eq_true rfl⟩ (Nat.le_of_ble_eq_true rfl) dL_law_1547 (fun v137 M138 =>
 (x_icmp_eq g 2060 dL_law_1550 rfl
 (fun _ => (hJ2 M138))
 (fun _ => (x_iconst g dL_law_1553 kI_0
 x_none)))))))))))))))))))))))))))))) (fun hq44 => (x_if (fun he134 => x_tabIn (off := 1522) g (42 : Int32) 1555 dL_law_33 he134 (by decide) rfl rfl
 (x_aload_n g 1 dL_law_1555 rfl rfl
 (x_aload_n g 0 dL_law_1556 rfl rfl
 (x_iload_n g 3 dL_law_1557 rfl rfl
 (x_iconst g dL_law_1558 kI_1
 (x_iadd g dL_law_1559
 (x_sald g hr ht dL_law_1560
 (x_aload_n g 0 dL_law_1561 rfl rfl
 (x_iload_n g 3 dL_law_1562 rfl rfl
 (x_iconst g dL_law_1563 kI_2
 (x_iadd g dL_law_1564
 (x_sald g hr ht dL_law_1565
 (x_aload_n g 0 dL_law_1566 rfl rfl
 (x_iload_n g 3 dL_law_1567 rfl rfl
 (x_iconst g dL_law_1568 kI_3
 (x_iadd g dL_law_1569
 (x_sald g hr ht dL_law_1570
 (x_aload_n g 0 dL_law_1571 rfl rfl
 (x_iload_n g 3 dL_law_1572 rfl rfl
 (x_iconst g dL_law_1573 kI_4
 (x_iadd g dL_law_1574
 (x_sald g hr ht dL_law_1575
 (x_callVi (As := [.int (xs (x3 + (1 : Int32)).toNatClampNeg), .int (xs (x3 + (2 : Int32)).toNatClampNeg), .int (xs (x3 + (3 : Int32)).toNatClampNeg), .int (xs (x3 + (4 : Int32)).toNatClampNeg)]) g mv_X10_picks mi_X10_picks lk_RL_195 hxr1 (fun b Mh_ hb => kX10_picks φ xr1 (xs (x3 + (1 : Int32)).toNatClampNeg) (xs (x3 + (2 : Int32)).toNatClampNeg) (xs (x3 + (3 : Int32)).toNatClampNeg) (xs (x3 + (4 : Int32)).toNatClampNeg) M hxr1 _ _ hb) rfl rfl hR ⟨Nat.le_of_ble_eq_true rfl, Nat.le_of_ble_eq_true rfl⟩ (Nat.le_of_ble_eq_true rfl) dL_law_1576 (fun v130 M131 =>
 (x_aload_n g 2 dL_law_1579 rfl rfl
 (x_aload_n g 0 dL_law_1580 rfl rfl
 (x_iload_n g 3 dL_law_1581 rfl rfl
 (x_iconst g dL_law_1582 kI_1
 (x_iadd g dL_law_1583
 (x_sald g hr ht dL_law_1584
 (x_aload_n g 0 dL_law_1585 rfl rfl
 (x_iload_n g 3 dL_law_1586 rfl rfl
 (x_iconst g dL_law_1587 kI_2
 (x_iadd g dL_law_1588
 (x_sald g hr ht dL_law_1589
 (x_aload_n g 0 dL_law_1590 rfl rfl
 (x_iload_n g 3 dL_law_1591 rfl rfl
 (x_iconst g dL_law_1592 kI_3
 (x_iadd g dL_law_1593
 (x_sald g hr ht dL_law_1594
 (x_aload_n g 0 dL_law_1595 rfl rfl
 (x_iload_n g 3 dL_law_1596 rfl rfl
 (x_iconst g dL_law_1597 kI_4
 (x_iadd g dL_law_1598
 (x_sald g hr ht dL_law_1599
 (x_callVi (As := [.int (xs (x3 + (1 : Int32)).toNatClampNeg), .int (xs (x3 + (2 : Int32)).toNatClampNeg), .int (xs (x3 + (3 : Int32)).toNatClampNeg), .int (xs (x3 + (4 : Int32)).toNatClampNeg)]) g mv_X11_picks mi_X11_picks lk_RL_199 hxr2 (fun b Mh_ hb => kX11_picks φ xr2 (xs (x3 + (1 : Int32)).toNatClampNeg) (xs (x3 + (2 : Int32)).toNatClampNeg) (xs (x3 + (3 : Int32)).toNatClampNeg) (xs (x3 + (4 : Int32)).toNatClampNeg) M131 hxr2 _ _ hb) rfl rfl hR ⟨Nat.le_of_ble_eq_true rfl, Nat.le_of_ble_eq_true rfl⟩ (Nat.le_of_ble_eq_true rfl) dL_law_1600 (fun v132 M133 =>
 (x_icmp_eq g 2060 dL_law_1603 rfl
 (fun _ => (hJ2 M133))
 (fun _ => (x_iconst g dL_law_1606 kI_0
 x_none)))))))))))))))))))))))))))))))))))))))))))))))))) (fun hq45 => (x_if (fun he129 => x_tabIn (off := 1575) g (43 : Int32) 1608 dL_law_33 he129 (by decide) rfl rfl
 (x_aload_n g 1 dL_law_1608 rfl rfl
 (x_aload_n g 0 dL_law_1609 rfl rfl
 (x_iload_n g 3 dL_law_1610 rfl rfl
 (x_iconst g dL_law_1611 kI_1
 (x_iadd g dL_law_1612
 (x_sald g hr ht dL_law_1613
 (x_callVi (As := [.int (xs (x3 + (1 : Int32)).toNatClampNeg)]) g mv_X10_pickAt mi_X10_pickAt lk_RL_200 hxr1 (fun b Mh_ hb => kX10_pickAt xr1 (xs (x3 + (1 : Int32)).toNatClampNeg) M hxr1 _ _ hb) rfl rfl hR ⟨Nat.le_of_ble_eq_true rfl, Nat.le_of_ble_eq_true rfl⟩ (Nat.le_of_ble_eq_true rfl) dL_law_1614 (fun v125 M126 =>
 (x_aload_n g 2 dL_law_1617 rfl rfl
 (x_aload_n g 0 dL_law_1618 rfl rfl
 (x_iload_n g 3 dL_law_1619 rfl rfl
 (x_iconst g dL_law_1620 kI_1
 (x_iadd g dL_law_1621
 (x_sald g hr ht dL_law_1622
 (x_callVi (As := [.int (xs (x3 + (1 : Int32)).toNatClampNeg)]) g mv_X11_pickAt mi_X11_pickAt lk_RL_203 hxr2 (fun b Mh_ hb => kX11_pickAt xr2 (xs (x3 + (1 : Int32)).toNatClampNeg) M126 hxr2 _ _ hb) rfl rfl hR ⟨Nat.le_of_ble_eq_true rfl, Nat.le_of_ble_eq_true rfl⟩ (Nat.le_of_ble_eq_true rfl) dL_law_1623 (fun v127 M128 =>
 (x_icmp_eq g 2060 dL_law_1626 rfl
 (fun _ => (hJ2 M128))
 (fun _ => (x_iconst g dL_law_1629 kI_0
 x_none)))))))))))))))))))) (fun hq46 => (x_if (fun he124 => x_tabIn (off := 1598) g (44 : Int32) 1631 dL_law_33 he124 (by decide) rfl rfl
 (x_aload_n g 1 dL_law_1631 rfl rfl
 (x_aload_n g 0 dL_law_1632 rfl rfl
 (x_iload_n g 3 dL_law_1633 rfl rfl
 (x_iconst g dL_law_1634 kI_1
 (x_iadd g dL_law_1635
 (x_sald g hr ht dL_law_1636
 (x_aload_n g 0 dL_law_1637 rfl rfl
 (x_iload_n g 3 dL_law_1638 rfl rfl
 (x_iconst g dL_law_1639 kI_2
 (x_iadd g dL_law_1640
 (x_sald g hr ht dL_law_1641
 (x_callVi (As := [.int (xs (x3 + (1 : Int32)).toNatClampNeg), .int (xs (x3 + (2 : Int32)).toNatClampNeg)]) g mv_X10_fill mi_X10_fill lk_RL_204 hxr1 (fun b Mh_ hb => kX10_fill φ xr1 (xs (x3 + (1 : Int32)).toNatClampNeg) (xs (x3 + (2 : Int32)).toNatClampNeg) M hxr1 _ _ hb) rfl rfl hR ⟨Nat.le_of_ble_eq_true rfl, Nat.le_of_ble_eq_true rfl⟩ (Nat.le_of_ble_eq_true rfl) dL_law_1642 (fun v120 M121 =>
 (x_aload_n g 2 dL_law_1645 rfl rfl
 (x_aload_n g 0 dL_law_1646 rfl rfl
 (x_iload_n g 3 dL_law_1647 rfl rfl
 (x_iconst g dL_law_1648 kI_1
 (x_iadd g dL_law_1649
 (x_sald g hr ht dL_law_1650
 (x_aload_n g 0 dL_law_1651 rfl rfl
 (x_iload_n g 3 dL_law_1652 rfl rfl
 (x_iconst g dL_law_1653 kI_2
 (x_iadd g dL_law_1654
 (x_sald g hr ht dL_law_1655
 (x_callVi (As := [.int (xs (x3 + (1 : Int32)).toNatClampNeg), .int (xs (x3 + (2 : Int32)).toNatClampNeg)]) g mv_X11_fill mi_X11_fill lk_RL_207 hxr2 (fun b Mh_ hb => kX11_fill φ xr2 (xs (x3 + (1 : Int32)).toNatClampNeg) (xs (x3 + (2 : Int32)).toNatClampNeg) M121 hxr2 _ _ hb) rfl rfl hR ⟨Nat.le_of_ble_eq_true rfl, Nat.le_of_ble_eq_true rfl⟩ (Nat.le_of_ble_eq_true rfl) dL_law_1656 (fun v122 M123 =>
 (x_icmp_eq g 2060 dL_law_1659 rfl
 (fun _ => (hJ2 M123))
 (fun _ => (x_iconst g dL_law_1662 kI_0
 x_none)))))))))))))))))))))))))))))) (fun hq47 => (x_if (fun he119 => x_tabIn (off := 1631) g (45 : Int32) 1664 dL_law_33 he119 (by decide) rfl rfl
 (x_aload_n g 1 dL_law_1664 rfl rfl
 (x_aload_n g 0 dL_law_1665 rfl rfl
 (x_iload_n g 3 dL_law_1666 rfl rfl
 (x_iconst g dL_law_1667 kI_1
 (x_iadd g dL_law_1668
 (x_sald g hr ht dL_law_1669
 (x_aload_n g 0 dL_law_1670 rfl rfl
 (x_iload_n g 3 dL_law_1671 rfl rfl
 (x_iconst g dL_law_1672 kI_2
 (x_iadd g dL_law_1673
 (x_sald g hr ht dL_law_1674
 (x_callVi (As := [.int (xs (x3 + (1 : Int32)).toNatClampNeg), .int (xs (x3 + (2 : Int32)).toNatClampNeg)]) g mv_X10_runs mi_X10_runs lk_RL_208 hxr1 (fun b Mh_ hb => kX10_runs φ xr1 (xs (x3 + (1 : Int32)).toNatClampNeg) (xs (x3 + (2 : Int32)).toNatClampNeg) M hxr1 _ _ hb) rfl rfl hR ⟨Nat.le_of_ble_eq_true rfl, Nat.le_of_ble_eq_true rfl⟩ (Nat.le_of_ble_eq_true rfl) dL_law_1675 (fun v115 M116 =>
 (x_aload_n g 2 dL_law_1678 rfl rfl
 (x_aload_n g 0 dL_law_1679 rfl rfl
 (x_iload_n g 3 dL_law_1680 rfl rfl
 (x_iconst g dL_law_1681 kI_1
 (x_iadd g dL_law_1682
 (x_sald g hr ht dL_law_1683
 (x_aload_n g 0 dL_law_1684 rfl rfl
 (x_iload_n g 3 dL_law_1685 rfl rfl
 (x_iconst g dL_law_1686 kI_2
 (x_iadd g dL_law_1687
 (x_sald g hr ht dL_law_1688
 (x_callVi (As := [.int (xs (x3 + (1 : Int32)).toNatClampNeg), .int (xs (x3 + (2 : Int32)).toNatClampNeg)]) g mv_X11_runs mi_X11_runs lk_RL_211 hxr2 (fun b Mh_ hb => kX11_runs φ xr2 (xs (x3 + (1 : Int32)).toNatClampNeg) (xs (x3 + (2 : Int32)).toNatClampNeg) M116 hxr2 _ _ hb) rfl rfl hR ⟨Nat.le_of_ble_eq_true rfl, Nat.le_of_ble_eq_true rfl⟩ (Nat.le_of_ble_eq_true rfl) dL_law_1689 (fun v117 M118 =>
 (x_icmp_eq g 2060 dL_law_1692 rfl
 (fun _ => (hJ2 M118))
 (fun _ => (x_iconst g dL_law_1695 kI_0
 x_none)))))))))))))))))))))))))))))) (fun hq48 => (x_if (fun he114 => x_tabIn (off := 1664) g (46 : Int32) 1697 dL_law_33 he114 (by decide) rfl rfl
 (x_aload_n g 1 dL_law_1697 rfl rfl
 (x_aload_n g 0 dL_law_1698 rfl rfl
 (x_iload_n g 3 dL_law_1699 rfl rfl
 (x_iconst g dL_law_1700 kI_1
 (x_iadd g dL_law_1701
 (x_sald g hr ht dL_law_1702
 (x_aload_n g 0 dL_law_1703 rfl rfl
 (x_iload_n g 3 dL_law_1704 rfl rfl
 (x_iconst g dL_law_1705 kI_2
 (x_iadd g dL_law_1706
 (x_sald g hr ht dL_law_1707
 (x_aload_n g 0 dL_law_1708 rfl rfl
 (x_iload_n g 3 dL_law_1709 rfl rfl
 (x_iconst g dL_law_1710 kI_3
 (x_iadd g dL_law_1711
 (x_sald g hr ht dL_law_1712
 (x_callVi (As := [.int (xs (x3 + (1 : Int32)).toNatClampNeg), .int (xs (x3 + (2 : Int32)).toNatClampNeg), .int (xs (x3 + (3 : Int32)).toNatClampNeg)]) g mv_X10_agrees mi_X10_agrees lk_RL_212 hxr1 (fun b Mh_ hb => kX10_agrees φ xr1 (xs (x3 + (1 : Int32)).toNatClampNeg) (xs (x3 + (2 : Int32)).toNatClampNeg) (xs (x3 + (3 : Int32)).toNatClampNeg) M hxr1 _ _ hb) rfl rfl hR ⟨Nat.le_of_ble_eq_true rfl, Nat.le_of_ble_eq_true rfl⟩ (Nat.le_of_ble_eq_true rfl) dL_law_1713 (fun v110 M111 =>
 (x_aload_n g 2 dL_law_1716 rfl rfl
 (x_aload_n g 0 dL_law_1717 rfl rfl
 (x_iload_n g 3 dL_law_1718 rfl rfl
 (x_iconst g dL_law_1719 kI_1
 (x_iadd g dL_law_1720
 (x_sald g hr ht dL_law_1721
 (x_aload_n g 0 dL_law_1722 rfl rfl
 (x_iload_n g 3 dL_law_1723 rfl rfl
 (x_iconst g dL_law_1724 kI_2
 (x_iadd g dL_law_1725
 (x_sald g hr ht dL_law_1726
 (x_aload_n g 0 dL_law_1727 rfl rfl
 (x_iload_n g 3 dL_law_1728 rfl rfl
 (x_iconst g dL_law_1729 kI_3
 (x_iadd g dL_law_1730
 (x_sald g hr ht dL_law_1731
 (x_callVi (As := [.int (xs (x3 + (1 : Int32)).toNatClampNeg), .int (xs (x3 + (2 : Int32)).toNatClampNeg), .int (xs (x3 + (3 : Int32)).toNatClampNeg)]) g mv_X11_agrees mi_X11_agrees lk_RL_215 hxr2 (fun b Mh_ hb => kX11_agrees φ xr2 (xs (x3 + (1 : Int32)).toNatClampNeg) (xs (x3 + (2 : Int32)).toNatClampNeg) (xs (x3 + (3 : Int32)).toNatClampNeg) M111 hxr2 _ _ hb) rfl rfl hR ⟨Nat.le_of_ble_eq_true rfl, Nat.le_of_ble_eq_true rfl⟩ (Nat.le_of_ble_eq_true rfl) dL_law_1732 (fun v112 M113 =>
 (x_icmp_eq g 2060 dL_law_1735 rfl
 (fun _ => (hJ2 M113))
 (fun _ => (x_iconst g dL_law_1738 kI_0
 x_none)))))))))))))))))))))))))))))))))))))))) (fun hq49 => (x_if (fun he109 => x_tabIn (off := 1707) g (47 : Int32) 1740 dL_law_33 he109 (by decide) rfl rfl
 (x_aload_n g 1 dL_law_1740 rfl rfl
 (x_aload_n g 0 dL_law_1741 rfl rfl
 (x_iload_n g 3 dL_law_1742 rfl rfl
 (x_iconst g dL_law_1743 kI_1
 (x_iadd g dL_law_1744
 (x_sald g hr ht dL_law_1745
 (x_aload_n g 0 dL_law_1746 rfl rfl
 (x_iload_n g 3 dL_law_1747 rfl rfl
 (x_iconst g dL_law_1748 kI_2
 (x_iadd g dL_law_1749
 (x_sald g hr ht dL_law_1750
 (x_aload_n g 0 dL_law_1751 rfl rfl
 (x_iload_n g 3 dL_law_1752 rfl rfl
 (x_iconst g dL_law_1753 kI_3
 (x_iadd g dL_law_1754
 (x_sald g hr ht dL_law_1755
 (x_aload_n g 0 dL_law_1756 rfl rfl
 (x_iload_n g 3 dL_law_1757 rfl rfl
 (x_iconst g dL_law_1758 kI_4
 (x_iadd g dL_law_1759
 (x_sald g hr ht dL_law_1760
 (x_callVi (As := [.int (xs (x3 + (1 : Int32)).toNatClampNeg), .int (xs (x3 + (2 : Int32)).toNatClampNeg), .int (xs (x3 + (3 : Int32)).toNatClampNeg), .int (xs (x3 + (4 : Int32)).toNatClampNeg)]) g mv_X10_shift mi_X10_shift lk_RL_216 hxr1 (fun b Mh_ hb => kX10_shift φ xr1 (xs (x3 + (1 : Int32)).toNatClampNeg) (xs (x3 + (2 : Int32)).toNatClampNeg) (xs (x3 + (3 : Int32)).toNatClampNeg) (xs (x3 + (4 : Int32)).toNatClampNeg) M hxr1 _ _ hb) rfl rfl hR ⟨Nat.le_of_ble_eq_true rfl, Nat.le_of_ble_eq_true rfl⟩ (Nat.le_of_ble_eq_true rfl) dL_law_1761 (fun v105 M106 =>
 (x_aload_n g 2 dL_law_1764 rfl rfl
 (x_aload_n g 0 dL_law_1765 rfl rfl
 (x_iload_n g 3 dL_law_1766 rfl rfl
 (x_iconst g dL_law_1767 kI_1
 (x_iadd g dL_law_1768
 (x_sald g hr ht dL_law_1769
 (x_aload_n g 0 dL_law_1770 rfl rfl
 (x_iload_n g 3 dL_law_1771 rfl rfl
 (x_iconst g dL_law_1772 kI_2
 (x_iadd g dL_law_1773
 (x_sald g hr ht dL_law_1774
 (x_aload_n g 0 dL_law_1775 rfl rfl
 (x_iload_n g 3 dL_law_1776 rfl rfl
 (x_iconst g dL_law_1777 kI_3
 (x_iadd g dL_law_1778
 (x_sald g hr ht dL_law_1779
 (x_aload_n g 0 dL_law_1780 rfl rfl
 (x_iload_n g 3 dL_law_1781 rfl rfl
 (x_iconst g dL_law_1782 kI_4
 (x_iadd g dL_law_1783
 (x_sald g hr ht dL_law_1784
 (x_callVi (As := [.int (xs (x3 + (1 : Int32)).toNatClampNeg), .int (xs (x3 + (2 : Int32)).toNatClampNeg), .int (xs (x3 + (3 : Int32)).toNatClampNeg), .int (xs (x3 + (4 : Int32)).toNatClampNeg)]) g mv_X11_shift mi_X11_shift lk_RL_219 hxr2 (fun b Mh_ hb => kX11_shift φ xr2 (xs (x3 + (1 : Int32)).toNatClampNeg) (xs (x3 + (2 : Int32)).toNatClampNeg) (xs (x3 + (3 : Int32)).toNatClampNeg) (xs (x3 + (4 : Int32)).toNatClampNeg) M106 hxr2 _ _ hb) rfl rfl hR ⟨Nat.le_of_ble_eq_true rfl, Nat.le_of_ble_eq_true rfl⟩ (Nat.le_of_ble_eq_true rfl) dL_law_1785 (fun v107 M108 =>
 (x_icmp_eq g 2060 dL_law_1788 rfl
 (fun _ => (hJ2 M108))
 (fun _ => (x_iconst g dL_law_1791 kI_0
 x_none)))))))))))))))))))))))))))))))))))))))))))))))))) (fun hq50 => (x_if (fun he104 => x_tabIn (off := 1760) g (48 : Int32) 1793 dL_law_33 he104 (by decide) rfl rfl
 (x_aload_n g 1 dL_law_1793 rfl rfl
 (x_aload_n g 0 dL_law_1794 rfl rfl
 (x_iload_n g 3 dL_law_1795 rfl rfl
 (x_iconst g dL_law_1796 kI_1
 (x_iadd g dL_law_1797
 (x_sald g hr ht dL_law_1798
 (x_aload_n g 0 dL_law_1799 rfl rfl
 (x_iload_n g 3 dL_law_1800 rfl rfl
 (x_iconst g dL_law_1801 kI_2
 (x_iadd g dL_law_1802
 (x_sald g hr ht dL_law_1803
 (x_callVi (As := [.int (xs (x3 + (1 : Int32)).toNatClampNeg), .int (xs (x3 + (2 : Int32)).toNatClampNeg)]) g mv_X10_likest mi_X10_likest lk_RL_220 hxr1 (fun b Mh_ hb => kX10_likest φ xr1 (xs (x3 + (1 : Int32)).toNatClampNeg) (xs (x3 + (2 : Int32)).toNatClampNeg) M hxr1 _ _ hb) rfl rfl hR ⟨Nat.le_of_ble_eq_true rfl, Nat.le_of_ble_eq_true rfl⟩ (Nat.le_of_ble_eq_true rfl) dL_law_1804 (fun v100 M101 =>
 (x_aload_n g 2 dL_law_1807 rfl rfl
 (x_aload_n g 0 dL_law_1808 rfl rfl
 (x_iload_n g 3 dL_law_1809 rfl rfl
 (x_iconst g dL_law_1810 kI_1
 (x_iadd g dL_law_1811
 (x_sald g hr ht dL_law_1812
 (x_aload_n g 0 dL_law_1813 rfl rfl
 (x_iload_n g 3 dL_law_1814 rfl rfl
 (x_iconst g dL_law_1815 kI_2
 (x_iadd g dL_law_1816
 (x_sald g hr ht dL_law_1817
 (x_callVi (As := [.int (xs (x3 + (1 : Int32)).toNatClampNeg), .int (xs (x3 + (2 : Int32)).toNatClampNeg)]) g mv_X11_likest mi_X11_likest lk_RL_223 hxr2 (fun b Mh_ hb => kX11_likest φ xr2 (xs (x3 + (1 : Int32)).toNatClampNeg) (xs (x3 + (2 : Int32)).toNatClampNeg) M101 hxr2 _ _ hb) rfl rfl hR ⟨Nat.le_of_ble_eq_true rfl, Nat.le_of_ble_eq_true rfl⟩ (Nat.le_of_ble_eq_true rfl) dL_law_1818 (fun v102 M103 =>
 (x_icmp_eq g 2060 dL_law_1821 rfl
 (fun _ => (hJ2 M103))
 (fun _ => (x_iconst g dL_law_1824 kI_0
 x_none)))))))))))))))))))))))))))))) (fun hq51 => (x_if (fun he99 => x_tabIn (off := 1793) g (49 : Int32) 1826 dL_law_33 he99 (by decide) rfl rfl
 (x_aload_n g 1 dL_law_1826 rfl rfl
 (x_aload_n g 0 dL_law_1827 rfl rfl
 (x_iload_n g 3 dL_law_1828 rfl rfl
 (x_iconst g dL_law_1829 kI_1
 (x_iadd g dL_law_1830
 (x_sald g hr ht dL_law_1831
 (x_aload_n g 0 dL_law_1832 rfl rfl
 (x_iload_n g 3 dL_law_1833 rfl rfl
 (x_iconst g dL_law_1834 kI_2
 (x_iadd g dL_law_1835
 (x_sald g hr ht dL_law_1836
 (x_aload_n g 0 dL_law_1837 rfl rfl
 (x_iload_n g 3 dL_law_1838 rfl rfl
 (x_iconst g dL_law_1839 kI_3
 (x_iadd g dL_law_1840
 (x_sald g hr ht dL_law_1841
 (x_callVi (As := [.int (xs (x3 + (1 : Int32)).toNatClampNeg), .int (xs (x3 + (2 : Int32)).toNatClampNeg), .int (xs (x3 + (3 : Int32)).toNatClampNeg)]) g mv_X10_lay mi_X10_lay lk_RL_224 hxr1 (fun b Mh_ hb => kX10_lay xr1 (xs (x3 + (1 : Int32)).toNatClampNeg) (xs (x3 + (2 : Int32)).toNatClampNeg) (xs (x3 + (3 : Int32)).toNatClampNeg) M hxr1 _ _ hb) rfl rfl hR ⟨Nat.le_of_ble_eq_true rfl, Nat.le_of_ble_eq_true rfl⟩ (Nat.le_of_ble_eq_true rfl) dL_law_1842 (fun v95 M96 =>
 (x_aload_n g 2 dL_law_1845 rfl rfl
 (x_aload_n g 0 dL_law_1846 rfl rfl
 (x_iload_n g 3 dL_law_1847 rfl rfl
 (x_iconst g dL_law_1848 kI_1
 (x_iadd g dL_law_1849
 (x_sald g hr ht dL_law_1850
 (x_aload_n g 0 dL_law_1851 rfl rfl
 (x_iload_n g 3 dL_law_1852 rfl rfl
 (x_iconst g dL_law_1853 kI_2
 (x_iadd g dL_law_1854
 (x_sald g hr ht dL_law_1855
 (x_aload_n g 0 dL_law_1856 rfl rfl
 (x_iload_n g 3 dL_law_1857 rfl rfl
 (x_iconst g dL_law_1858 kI_3
 (x_iadd g dL_law_1859
 (x_sald g hr ht dL_law_1860
 (x_callVi (As := [.int (xs (x3 + (1 : Int32)).toNatClampNeg), .int (xs (x3 + (2 : Int32)).toNatClampNeg), .int (xs (x3 + (3 : Int32)).toNatClampNeg)]) g mv_X11_lay mi_X11_lay lk_RL_227 hxr2 (fun b Mh_ hb => kX11_lay φ xr2 (xs (x3 + (1 : Int32)).toNatClampNeg) (xs (x3 + (2 : Int32)).toNatClampNeg) (xs (x3 + (3 : Int32)).toNatClampNeg) M96 hxr2 _ _ hb) rfl rfl hR ⟨Nat.le_of_ble_eq_true rfl, Nat.le_of_ble_eq_true rfl⟩ (Nat.le_of_ble_eq_true rfl) dL_law_1861 (fun v97 M98 =>
 (x_icmp_eq g 2060 dL_law_1864 rfl
 (fun _ => (hJ2 M98))
 (fun _ => (x_iconst g dL_law_1867 kI_0
 x_none)))))))))))))))))))))))))))))))))))))))) (fun hq52 => (x_if (fun he94 => x_tabIn (off := 1836) g (50 : Int32) 1869 dL_law_33 he94 (by decide) rfl rfl
 (x_aload_n g 1 dL_law_1869 rfl rfl
 (x_aload_n g 0 dL_law_1870 rfl rfl
 (x_iload_n g 3 dL_law_1871 rfl rfl
 (x_iconst g dL_law_1872 kI_1
 (x_iadd g dL_law_1873
 (x_sald g hr ht dL_law_1874
 (x_aload_n g 0 dL_law_1875 rfl rfl
 (x_iload_n g 3 dL_law_1876 rfl rfl
 (x_iconst g dL_law_1877 kI_2
 (x_iadd g dL_law_1878
 (x_sald g hr ht dL_law_1879
 (x_callVi (As := [.int (xs (x3 + (1 : Int32)).toNatClampNeg), .int (xs (x3 + (2 : Int32)).toNatClampNeg)]) g mv_X10_wear mi_X10_wear lk_RL_228 hxr1 (fun b Mh_ hb => kX10_wear φ xr1 (xs (x3 + (1 : Int32)).toNatClampNeg) (xs (x3 + (2 : Int32)).toNatClampNeg) M hxr1 _ _ hb) rfl rfl hR ⟨Nat.le_of_ble_eq_true rfl, Nat.le_of_ble_eq_true rfl⟩ (Nat.le_of_ble_eq_true rfl) dL_law_1880 (fun v90 M91 =>
 (x_aload_n g 2 dL_law_1883 rfl rfl
 (x_aload_n g 0 dL_law_1884 rfl rfl
 (x_iload_n g 3 dL_law_1885 rfl rfl
 (x_iconst g dL_law_1886 kI_1
 (x_iadd g dL_law_1887
 (x_sald g hr ht dL_law_1888
 (x_aload_n g 0 dL_law_1889 rfl rfl
 (x_iload_n g 3 dL_law_1890 rfl rfl
 (x_iconst g dL_law_1891 kI_2
 (x_iadd g dL_law_1892
 (x_sald g hr ht dL_law_1893
 (x_callVi (As := [.int (xs (x3 + (1 : Int32)).toNatClampNeg), .int (xs (x3 + (2 : Int32)).toNatClampNeg)]) g mv_X11_wear mi_X11_wear lk_RL_231 hxr2 (fun b Mh_ hb => kX11_wear φ xr2 (xs (x3 + (1 : Int32)).toNatClampNeg) (xs (x3 + (2 : Int32)).toNatClampNeg) M91 hxr2 _ _ hb) rfl rfl hR ⟨Nat.le_of_ble_eq_true rfl, Nat.le_of_ble_eq_true rfl⟩ (Nat.le_of_ble_eq_true rfl) dL_law_1894 (fun v92 M93 =>
 (x_icmp_eq g 2060 dL_law_1897 rfl
 (fun _ => (hJ2 M93))
 (fun _ => (x_iconst g dL_law_1900 kI_0
 x_none)))))))))))))))))))))))))))))) (fun hq53 => (x_if (fun he89 => x_tabIn (off := 1869) g (51 : Int32) 1902 dL_law_33 he89 (by decide) rfl rfl
 (x_aload_n g 1 dL_law_1902 rfl rfl
 (x_aload_n g 0 dL_law_1903 rfl rfl
 (x_iload_n g 3 dL_law_1904 rfl rfl
 (x_iconst g dL_law_1905 kI_1
 (x_iadd g dL_law_1906
 (x_sald g hr ht dL_law_1907
 (x_aload_n g 0 dL_law_1908 rfl rfl
 (x_iload_n g 3 dL_law_1909 rfl rfl
 (x_iconst g dL_law_1910 kI_2
 (x_iadd g dL_law_1911
 (x_sald g hr ht dL_law_1912
 (x_callVi (As := [.int (xs (x3 + (1 : Int32)).toNatClampNeg), .int (xs (x3 + (2 : Int32)).toNatClampNeg)]) g mv_X10_throwing mi_X10_throwing lk_RL_232 hxr1 (fun b Mh_ hb => kX10_throwing xr1 (xs (x3 + (1 : Int32)).toNatClampNeg) (xs (x3 + (2 : Int32)).toNatClampNeg) M hxr1 _ _ hb) rfl rfl hR ⟨Nat.le_of_ble_eq_true rfl, Nat.le_of_ble_eq_true rfl⟩ (Nat.le_of_ble_eq_true rfl) dL_law_1913 (fun v85 M86 =>
 (x_aload_n g 2 dL_law_1916 rfl rfl
 (x_aload_n g 0 dL_law_1917 rfl rfl
 (x_iload_n g 3 dL_law_1918 rfl rfl
 (x_iconst g dL_law_1919 kI_1
 (x_iadd g dL_law_1920
 (x_sald g hr ht dL_law_1921
 (x_aload_n g 0 dL_law_1922 rfl rfl
 (x_iload_n g 3 dL_law_1923 rfl rfl
 (x_iconst g dL_law_1924 kI_2
 (x_iadd g dL_law_1925
 (x_sald g hr ht dL_law_1926
 (x_callVi (As := [.int (xs (x3 + (1 : Int32)).toNatClampNeg), .int (xs (x3 + (2 : Int32)).toNatClampNeg)]) g mv_X11_throwing mi_X11_throwing lk_RL_235 hxr2 (fun b Mh_ hb => kX11_throwing xr2 (xs (x3 + (1 : Int32)).toNatClampNeg) (xs (x3 + (2 : Int32)).toNatClampNeg) M86 hxr2 _ _ hb) rfl rfl hR ⟨Nat.le_of_ble_eq_true rfl, Nat.le_of_ble_eq_true rfl⟩ (Nat.le_of_ble_eq_true rfl) dL_law_1927 (fun v87 M88 =>
 (x_icmp_eq g 2060 dL_law_1930 rfl
 (fun _ => (hJ2 M88))
 (fun _ => (x_iconst g dL_law_1933 kI_0
 x_none)))))))))))))))))))))))))))))) (fun hq54 => (x_if (fun he84 => x_tabIn (off := 1902) g (52 : Int32) 1935 dL_law_33 he84 (by decide) rfl rfl
 (x_aload_n g 1 dL_law_1935 rfl rfl
 (x_aload_n g 0 dL_law_1936 rfl rfl
 (x_iload_n g 3 dL_law_1937 rfl rfl
 (x_iconst g dL_law_1938 kI_1
 (x_iadd g dL_law_1939
 (x_sald g hr ht dL_law_1940
 (x_callVi (As := [.int (xs (x3 + (1 : Int32)).toNatClampNeg)]) g mv_X10_live mi_X10_live lk_RL_236 hxr1 (fun b Mh_ hb => kX10_live φ xr1 (xs (x3 + (1 : Int32)).toNatClampNeg) M hxr1 _ _ hb) rfl rfl hR ⟨Nat.le_of_ble_eq_true rfl, Nat.le_of_ble_eq_true rfl⟩ (Nat.le_of_ble_eq_true rfl) dL_law_1941 (fun v80 M81 =>
 (x_aload_n g 2 dL_law_1944 rfl rfl
 (x_aload_n g 0 dL_law_1945 rfl rfl
 (x_iload_n g 3 dL_law_1946 rfl rfl
 (x_iconst g dL_law_1947 kI_1
 (x_iadd g dL_law_1948
 (x_sald g hr ht dL_law_1949
 (x_callVi (As := [.int (xs (x3 + (1 : Int32)).toNatClampNeg)]) g mv_X11_live mi_X11_live lk_RL_239 hxr2 (fun b Mh_ hb => kX11_live φ xr2 (xs (x3 + (1 : Int32)).toNatClampNeg) M81 hxr2 _ _ hb) rfl rfl hR ⟨Nat.le_of_ble_eq_true rfl, Nat.le_of_ble_eq_true rfl⟩ (Nat.le_of_ble_eq_true rfl) dL_law_1950 (fun v82 M83 =>
 (x_icmp_eq g 2060 dL_law_1953 rfl
 (fun _ => (hJ2 M83))
 (fun _ => (x_iconst g dL_law_1956 kI_0
 x_none)))))))))))))))))))) (fun hq55 => (x_if (fun he79 => x_tabIn (off := 1925) g (53 : Int32) 1958 dL_law_33 he79 (by decide) rfl rfl
 (x_aload_n g 1 dL_law_1958 rfl rfl
 (x_aload_n g 0 dL_law_1959 rfl rfl
 (x_iload_n g 3 dL_law_1960 rfl rfl
 (x_iconst g dL_law_1961 kI_1
 (x_iadd g dL_law_1962
 (x_sald g hr ht dL_law_1963
 (x_callVi (As := [.int (xs (x3 + (1 : Int32)).toNatClampNeg)]) g mv_X10_lived mi_X10_lived lk_RL_240 hxr1 (fun b Mh_ hb => kX10_lived xr1 (xs (x3 + (1 : Int32)).toNatClampNeg) M hxr1 _ _ hb) rfl rfl hR ⟨Nat.le_of_ble_eq_true rfl, Nat.le_of_ble_eq_true rfl⟩ (Nat.le_of_ble_eq_true rfl) dL_law_1964 (fun v75 M76 =>
 (x_aload_n g 2 dL_law_1967 rfl rfl
 (x_aload_n g 0 dL_law_1968 rfl rfl
 (x_iload_n g 3 dL_law_1969 rfl rfl
 (x_iconst g dL_law_1970 kI_1
 (x_iadd g dL_law_1971
 (x_sald g hr ht dL_law_1972
 (x_callVi (As := [.int (xs (x3 + (1 : Int32)).toNatClampNeg)]) g mv_X11_lived mi_X11_lived lk_RL_243 hxr2 (fun b Mh_ hb => kX11_lived xr2 (xs (x3 + (1 : Int32)).toNatClampNeg) M76 hxr2 _ _ hb) rfl rfl hR ⟨Nat.le_of_ble_eq_true rfl, Nat.le_of_ble_eq_true rfl⟩ (Nat.le_of_ble_eq_true rfl) dL_law_1973 (fun v77 M78 =>
 (x_icmp_eq g 2060 dL_law_1976 rfl
 (fun _ => (hJ2 M78))
 (fun _ => (x_iconst g dL_law_1979 kI_0
 x_none)))))))))))))))))))) (fun hq56 => (x_if (fun he74 => x_tabIn (off := 1948) g (54 : Int32) 1981 dL_law_33 he74 (by decide) rfl rfl
 (x_aload_n g 1 dL_law_1981 rfl rfl
 (x_aload_n g 0 dL_law_1982 rfl rfl
 (x_iload_n g 3 dL_law_1983 rfl rfl
 (x_iconst g dL_law_1984 kI_1
 (x_iadd g dL_law_1985
 (x_sald g hr ht dL_law_1986
 (x_aload_n g 0 dL_law_1987 rfl rfl
 (x_iload_n g 3 dL_law_1988 rfl rfl
 (x_iconst g dL_law_1989 kI_2
 (x_iadd g dL_law_1990
 (x_sald g hr ht dL_law_1991
 (x_aload_n g 0 dL_law_1992 rfl rfl
 (x_iload_n g 3 dL_law_1993 rfl rfl
 (x_iconst g dL_law_1994 kI_3
 (x_iadd g dL_law_1995
 (x_sald g hr ht dL_law_1996
 (x_aload_n g 0 dL_law_1997 rfl rfl
 (x_iload_n g 3 dL_law_1998 rfl rfl
 (x_iconst g dL_law_1999 kI_4
 (x_iadd g dL_law_2000
 (x_sald g hr ht dL_law_2001
 (x_callVi (As := [.int (xs (x3 + (1 : Int32)).toNatClampNeg), .int (xs (x3 + (2 : Int32)).toNatClampNeg), .int (xs (x3 + (3 : Int32)).toNatClampNeg), .int (xs (x3 + (4 : Int32)).toNatClampNeg)]) g mv_X10_odds mi_X10_odds lk_RL_244 hxr1 (fun b Mh_ hb => kX10_odds φ xr1 (xs (x3 + (1 : Int32)).toNatClampNeg) (xs (x3 + (2 : Int32)).toNatClampNeg) (xs (x3 + (3 : Int32)).toNatClampNeg) (xs (x3 + (4 : Int32)).toNatClampNeg) M hxr1 _ _ hb) rfl rfl hR ⟨Nat.le_of_ble_eq_true rfl, Nat.le_of_ble_eq_true rfl⟩ (Nat.le_of_ble_eq_true rfl) dL_law_2002 (fun v70 M71 =>
 (x_aload_n g 2 dL_law_2005 rfl rfl
 (x_aload_n g 0 dL_law_2006 rfl rfl
 (x_iload_n g 3 dL_law_2007 rfl rfl
 (x_iconst g dL_law_2008 kI_1
 (x_iadd g dL_law_2009
 (x_sald g hr ht dL_law_2010
 (x_aload_n g 0 dL_law_2011 rfl rfl
 (x_iload_n g 3 dL_law_2012 rfl rfl
 (x_iconst g dL_law_2013 kI_2
 (x_iadd g dL_law_2014
 (x_sald g hr ht dL_law_2015
 (x_aload_n g 0 dL_law_2016 rfl rfl
 (x_iload_n g 3 dL_law_2017 rfl rfl
 (x_iconst g dL_law_2018 kI_3
 (x_iadd g dL_law_2019
 (x_sald g hr ht dL_law_2020
 (x_aload_n g 0 dL_law_2021 rfl rfl
 (x_iload_n g 3 dL_law_2022 rfl rfl
 (x_iconst g dL_law_2023 kI_4
 (x_iadd g dL_law_2024
 (x_sald g hr ht dL_law_2025
 (x_callVi (As := [.int (xs (x3 + (1 : Int32)).toNatClampNeg), .int (xs (x3 + (2 : Int32)).toNatClampNeg), .int (xs (x3 + (3 : Int32)).toNatClampNeg), .int (xs (x3 + (4 : Int32)).toNatClampNeg)]) g mv_X11_odds mi_X11_odds lk_RL_248 hxr2 (fun b Mh_ hb => kX11_odds φ xr2 (xs (x3 + (1 : Int32)).toNatClampNeg) (xs (x3 + (2 : Int32)).toNatClampNeg) (xs (x3 + (3 : Int32)).toNatClampNeg) (xs (x3 + (4 : Int32)).toNatClampNeg) M71 hxr2 _ _ hb) rfl rfl hR ⟨Nat.le_of_ble_eq_true rfl, Nat.le_of_ble_eq_true rfl⟩ (Nat.le_of_ble_eq_true rfl) dL_law_2026 (fun v72 M73 =>
 (x_icmp_eq g 2060 dL_law_2029 rfl
 (fun _ => (hJ2 M73))
 (fun _ => (x_iconst g dL_law_2032 kI_0
 x_none)))))))))))))))))))))))))))))))))))))))))))))))))) (fun hq57 => (x_if (fun he69 => x_tabIn (off := 2001) g (55 : Int32) 2034 dL_law_33 he69 (by decide) rfl rfl
 (x_aload_n g 1 dL_law_2034 rfl rfl
 (x_callVi (As := []) g mv_X10_mark mi_X10_mark lk_RL_249 hxr1 (fun b Mh_ hb => kX10_mark xr1 M hxr1 _ _ hb) rfl rfl hR ⟨Nat.le_of_ble_eq_true rfl, Nat.le_of_ble_eq_true rfl⟩ (Nat.le_of_ble_eq_true rfl) dL_law_2035 (fun v65 M66 =>
 (x_aload_n g 2 dL_law_2038 rfl rfl
 (x_callVi (As := []) g mv_X11_mark mi_X11_mark lk_RL_252 hxr2 (fun b Mh_ hb => kX11_mark φ xr2 M66 hxr2 _ _ hb) rfl rfl hR ⟨Nat.le_of_ble_eq_true rfl, Nat.le_of_ble_eq_true rfl⟩ (Nat.le_of_ble_eq_true rfl) dL_law_2039 (fun v67 M68 =>
 (x_icmp_eq g 2060 dL_law_2042 rfl
 (fun _ => (hJ2 M68))
 (fun _ => (x_iconst g dL_law_2045 kI_0
 x_none)))))))))) (fun hq58 => (x_if (fun he64 => x_tabIn (off := 2014) g (56 : Int32) 2047 dL_law_33 he64 (by decide) rfl rfl
 (x_aload_n g 1 dL_law_2047 rfl rfl
 (x_callVi (As := []) g mv_X10_back mi_X10_back lk_RL_253 hxr1 (fun b Mh_ hb => kX10_back xr1 M hxr1 _ _ hb) rfl rfl hR ⟨Nat.le_of_ble_eq_true rfl, Nat.le_of_ble_eq_true rfl⟩ (Nat.le_of_ble_eq_true rfl) dL_law_2048 (fun v60 M61 =>
 (x_aload_n g 2 dL_law_2051 rfl rfl
 (x_callVi (As := []) g mv_X11_back mi_X11_back lk_RL_256 hxr2 (fun b Mh_ hb => kX11_back φ xr2 M61 hxr2 _ _ hb) rfl rfl hR ⟨Nat.le_of_ble_eq_true rfl, Nat.le_of_ble_eq_true rfl⟩ (Nat.le_of_ble_eq_true rfl) dL_law_2052 (fun v62 M63 =>
 (x_icmp_eq g 2060 dL_law_2055 rfl
 (fun _ => (hJ2 M63))
 (fun _ => (x_iconst g dL_law_2058 kI_0
 x_none)))))))))) (fun hq59 => (x_tabOut g 2060 dL_law_33 (by have a0 := tab_ne hq3 (by decide : (0 : Int32).toInt = 0); have a1 := tab_ne hq4 (by decide : (1 : Int32).toInt = 1); have a2 := tab_ne hq5 (by decide : (2 : Int32).toInt = 2); have a3 := tab_ne hq6 (by decide : (3 : Int32).toInt = 3); have a4 := tab_ne hq7 (by decide : (4 : Int32).toInt = 4); have a5 := tab_ne hq8 (by decide : (5 : Int32).toInt = 5); have a6 := tab_ne hq9 (by decide : (6 : Int32).toInt = 6); have a7 := tab_ne hq10 (by decide : (7 : Int32).toInt = 7); have a8 := tab_ne hq11 (by decide : (8 : Int32).toInt = 8); have a9 := tab_ne hq12 (by decide : (9 : Int32).toInt = 9); have a10 := tab_ne hq13 (by decide : (10 : Int32).toInt = 10); have a11 := tab_ne hq14 (by decide : (11 : Int32).toInt = 11); have a12 := tab_ne hq15 (by decide : (12 : Int32).toInt = 12); have a13 := tab_ne hq16 (by decide : (13 : Int32).toInt = 13); have a14 := tab_ne hq17 (by decide : (14 : Int32).toInt = 14); have a15 := tab_ne hq18 (by decide : (15 : Int32).toInt = 15); have a16 := tab_ne hq19 (by decide : (16 : Int32).toInt = 16); have a17 := tab_ne hq20 (by decide : (17 : Int32).toInt = 17); have a18 := tab_ne hq21 (by decide : (18 : Int32).toInt = 18); have a19 := tab_ne hq22 (by decide : (19 : Int32).toInt = 19); have a20 := tab_ne hq23 (by decide : (20 : Int32).toInt = 20); have a21 := tab_ne hq24 (by decide : (21 : Int32).toInt = 21); have a22 := tab_ne hq25 (by decide : (22 : Int32).toInt = 22); have a23 := tab_ne hq26 (by decide : (23 : Int32).toInt = 23); have a24 := tab_ne hq27 (by decide : (24 : Int32).toInt = 24); have a25 := tab_ne hq28 (by decide : (25 : Int32).toInt = 25); have a26 := tab_ne hq29 (by decide : (26 : Int32).toInt = 26); have a27 := tab_ne hq30 (by decide : (27 : Int32).toInt = 27); have a28 := tab_ne hq31 (by decide : (28 : Int32).toInt = 28); have a29 := tab_ne hq32 (by decide : (29 : Int32).toInt = 29); have a30 := tab_ne hq33 (by decide : (30 : Int32).toInt = 30); have a31 := tab_ne hq34 (by decide : (31 : Int32).toInt = 31); have a32 := tab_ne hq35 (by decide : (32 : Int32).toInt = 32); have a33 := tab_ne hq36 (by decide : (33 : Int32).toInt = 33); have a34 := tab_ne hq37 (by decide : (34 : Int32).toInt = 34); have a35 := tab_ne hq38 (by decide : (35 : Int32).toInt = 35); have a36 := tab_ne hq39 (by decide : (36 : Int32).toInt = 36); have a37 := tab_ne hq40 (by decide : (37 : Int32).toInt = 37); have a38 := tab_ne hq41 (by decide : (38 : Int32).toInt = 38); have a39 := tab_ne hq42 (by decide : (39 : Int32).toInt = 39); have a40 := tab_ne hq43 (by decide : (40 : Int32).toInt = 40); have a41 := tab_ne hq44 (by decide : (41 : Int32).toInt = 41); have a42 := tab_ne hq45 (by decide : (42 : Int32).toInt = 42); have a43 := tab_ne hq46 (by decide : (43 : Int32).toInt = 43); have a44 := tab_ne hq47 (by decide : (44 : Int32).toInt = 44); have a45 := tab_ne hq48 (by decide : (45 : Int32).toInt = 45); have a46 := tab_ne hq49 (by decide : (46 : Int32).toInt = 46); have a47 := tab_ne hq50 (by decide : (47 : Int32).toInt = 47); have a48 := tab_ne hq51 (by decide : (48 : Int32).toInt = 48); have a49 := tab_ne hq52 (by decide : (49 : Int32).toInt = 49); have a50 := tab_ne hq53 (by decide : (50 : Int32).toInt = 50); have a51 := tab_ne hq54 (by decide : (51 : Int32).toInt = 51); have a52 := tab_ne hq55 (by decide : (52 : Int32).toInt = 52); have a53 := tab_ne hq56 (by decide : (53 : Int32).toInt = 53); have a54 := tab_ne hq57 (by decide : (54 : Int32).toInt = 54); have a55 := tab_ne hq58 (by decide : (55 : Int32).toInt = 55); have a56 := tab_ne hq59 (by decide : (56 : Int32).toInt = 56); omega) rfl
 (hJ2 M))))))))))))))))))))))))))))))))))))))))))))))))))))))))))))))))))))))))))))))))))))))))))))))))))))))))))))))))))))))))))))))))))
def fL_law (φ : Nat) (xn : Nat) (xs : Nat → Int32) (t xr1 xr2 : Nat) (M : Mem) : Option (Int32 × Mem) :=
  lL_law_18 φ xn xs t xr1 xr2 φ (0 : Int32) M
set_option maxRecDepth 100000 in
set_option maxHeartbeats 4000000 in
theorem kL_law {J : JT} {xn : Nat} {xs : Nat → Int32} (g : Gd J cL_law RL) (hr : LawR J xn xs) (hR : (JR J).frames = 15 ∧ (JR J).locals = 582) (hn : Jn J = 4) (φ : Nat) (t xr1 xr2 : Nat) (hs : t = 1000) (hb : isO 10 xr1) (hm : isO 11 xr2) (M : Mem) : X J (fun q : Int32 × Mem => (some (Value.int q.1), q.2)) (fL_law φ xn xs t xr1 xr2 M) 16 [(2, .ref xr2), (1, .ref xr1), (0, .ref t)] [] M := by
  unfold fL_law
  exact (x_iconst g dL_law_16 kI_0
 (x_istore_n (L' := [(3, .int (0 : Int32)), (2, .ref xr2), (1, .ref xr1), (0, .ref t)]) g dL_law_17 rfl hn (Nat.le_of_ble_eq_true rfl) rfl
 (x_sub [3, 2, 1, 0] rfl (wlL_law_18 g hr hR hn  φ t xr1 xr2 hs hb hm φ (0 : Int32) M))))
