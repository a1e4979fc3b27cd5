/-! facts of the tables: links, methods, fields, cells -/
theorem kB_m2 : (Int8.ofInt (-2)).toInt32 = (-2 : Int32) := by decide +kernel
theorem kB_6 : (Int8.ofInt 6).toInt32 = (6 : Int32) := by decide +kernel
theorem kB_7 : (Int8.ofInt 7).toInt32 = (7 : Int32) := by decide +kernel
theorem kB_8 : (Int8.ofInt 8).toInt32 = (8 : Int32) := by decide +kernel
theorem kB_9 : (Int8.ofInt 9).toInt32 = (9 : Int32) := by decide +kernel
theorem kB_10 : (Int8.ofInt 10).toInt32 = (10 : Int32) := by decide +kernel
theorem kB_11 : (Int8.ofInt 11).toInt32 = (11 : Int32) := by decide +kernel
theorem kB_12 : (Int8.ofInt 12).toInt32 = (12 : Int32) := by decide +kernel
theorem kB_13 : (Int8.ofInt 13).toInt32 = (13 : Int32) := by decide +kernel
theorem kB_14 : (Int8.ofInt 14).toInt32 = (14 : Int32) := by decide +kernel
theorem kB_15 : (Int8.ofInt 15).toInt32 = (15 : Int32) := by decide +kernel
theorem kB_16 : (Int8.ofInt 16).toInt32 = (16 : Int32) := by decide +kernel
theorem kB_17 : (Int8.ofInt 17).toInt32 = (17 : Int32) := by decide +kernel
theorem kB_18 : (Int8.ofInt 18).toInt32 = (18 : Int32) := by decide +kernel
theorem kB_19 : (Int8.ofInt 19).toInt32 = (19 : Int32) := by decide +kernel
theorem kB_20 : (Int8.ofInt 20).toInt32 = (20 : Int32) := by decide +kernel
theorem kB_21 : (Int8.ofInt 21).toInt32 = (21 : Int32) := by decide +kernel
theorem kB_22 : (Int8.ofInt 22).toInt32 = (22 : Int32) := by decide +kernel
theorem kB_23 : (Int8.ofInt 23).toInt32 = (23 : Int32) := by decide +kernel
theorem kB_24 : (Int8.ofInt 24).toInt32 = (24 : Int32) := by decide +kernel
theorem kB_27 : (Int8.ofInt 27).toInt32 = (27 : Int32) := by decide +kernel
theorem kB_30 : (Int8.ofInt 30).toInt32 = (30 : Int32) := by decide +kernel
theorem kB_32 : (Int8.ofInt 32).toInt32 = (32 : Int32) := by decide +kernel
theorem kB_48 : (Int8.ofInt 48).toInt32 = (48 : Int32) := by decide +kernel
theorem kB_57 : (Int8.ofInt 57).toInt32 = (57 : Int32) := by decide +kernel
theorem kB_59 : (Int8.ofInt 59).toInt32 = (59 : Int32) := by decide +kernel
theorem kB_60 : (Int8.ofInt 60).toInt32 = (60 : Int32) := by decide +kernel
theorem kB_61 : (Int8.ofInt 61).toInt32 = (61 : Int32) := by decide +kernel
theorem kB_62 : (Int8.ofInt 62).toInt32 = (62 : Int32) := by decide +kernel
theorem kB_63 : (Int8.ofInt 63).toInt32 = (63 : Int32) := by decide +kernel
theorem kB_64 : (Int8.ofInt 64).toInt32 = (64 : Int32) := by decide +kernel
theorem kB_72 : (Int8.ofInt 72).toInt32 = (72 : Int32) := by decide +kernel
theorem kB_78 : (Int8.ofInt 78).toInt32 = (78 : Int32) := by decide +kernel
theorem kB_80 : (Int8.ofInt 80).toInt32 = (80 : Int32) := by decide +kernel
theorem kB_82 : (Int8.ofInt 82).toInt32 = (82 : Int32) := by decide +kernel
theorem kB_97 : (Int8.ofInt 97).toInt32 = (97 : Int32) := by decide +kernel
theorem kB_99 : (Int8.ofInt 99).toInt32 = (99 : Int32) := by decide +kernel
theorem kB_100 : (Int8.ofInt 100).toInt32 = (100 : Int32) := by decide +kernel
theorem kB_122 : (Int8.ofInt 122).toInt32 = (122 : Int32) := by decide +kernel
theorem kI_m8 : Int32.ofInt (-8) = (-8 : Int32) := by decide +kernel
theorem kI_m1 : Int32.ofInt (-1) = (-1 : Int32) := by decide +kernel
theorem kI_0 : Int32.ofInt 0 = (0 : Int32) := by decide +kernel
theorem kI_1 : Int32.ofInt 1 = (1 : Int32) := by decide +kernel
theorem kI_2 : Int32.ofInt 2 = (2 : Int32) := by decide +kernel
theorem kI_3 : Int32.ofInt 3 = (3 : Int32) := by decide +kernel
theorem kI_4 : Int32.ofInt 4 = (4 : Int32) := by decide +kernel
theorem kI_5 : Int32.ofInt 5 = (5 : Int32) := by decide +kernel
theorem kI_6 : Int32.ofInt 6 = (6 : Int32) := by decide +kernel
theorem kI_27 : Int32.ofInt 27 = (27 : Int32) := by decide +kernel
theorem kL_0 : Int64.ofNat ((0 : Fin 2) : Nat) = (0 : Int64) := by decide +kernel
theorem kL_1 : Int64.ofNat ((1 : Fin 2) : Nat) = (1 : Int64) := by decide +kernel
theorem kS_244 : (Int16.ofInt 244).toInt32 = (244 : Int32) := by decide +kernel
theorem kS_255 : (Int16.ofInt 255).toInt32 = (255 : Int32) := by decide +kernel
theorem kS_268 : (Int16.ofInt 268).toInt32 = (268 : Int32) := by decide +kernel
theorem kS_280 : (Int16.ofInt 280).toInt32 = (280 : Int32) := by decide +kernel
theorem kS_300 : (Int16.ofInt 300).toInt32 = (300 : Int32) := by decide +kernel
theorem kS_432 : (Int16.ofInt 432).toInt32 = (432 : Int32) := by decide +kernel
theorem kS_645 : (Int16.ofInt 645).toInt32 = (645 : Int32) := by decide +kernel
theorem kS_650 : (Int16.ofInt 650).toInt32 = (650 : Int32) := by decide +kernel
theorem kS_900 : (Int16.ofInt 900).toInt32 = (900 : Int32) := by decide +kernel
theorem kS_999 : (Int16.ofInt 999).toInt32 = (999 : Int32) := by decide +kernel
theorem kS_1700 : (Int16.ofInt 1700).toInt32 = (1700 : Int32) := by decide +kernel
theorem kS_2600 : (Int16.ofInt 2600).toInt32 = (2600 : Int32) := by decide +kernel
theorem kS_2601 : (Int16.ofInt 2601).toInt32 = (2601 : Int32) := by decide +kernel
theorem kS_2602 : (Int16.ofInt 2602).toInt32 = (2602 : Int32) := by decide +kernel
theorem kS_2603 : (Int16.ofInt 2603).toInt32 = (2603 : Int32) := by decide +kernel
theorem kS_2604 : (Int16.ofInt 2604).toInt32 = (2604 : Int32) := by decide +kernel
theorem kS_2610 : (Int16.ofInt 2610).toInt32 = (2610 : Int32) := by decide +kernel
theorem kS_2618 : (Int16.ofInt 2618).toInt32 = (2618 : Int32) := by decide +kernel
theorem kS_2682 : (Int16.ofInt 2682).toInt32 = (2682 : Int32) := by decide +kernel
theorem kS_2777 : (Int16.ofInt 2777).toInt32 = (2777 : Int32) := by decide +kernel
theorem kS_2844 : (Int16.ofInt 2844).toInt32 = (2844 : Int32) := by decide +kernel
theorem kS_2868 : (Int16.ofInt 2868).toInt32 = (2868 : Int32) := by decide +kernel
theorem kS_2880 : (Int16.ofInt 2880).toInt32 = (2880 : Int32) := by decide +kernel
theorem kS_3245 : (Int16.ofInt 3245).toInt32 = (3245 : Int32) := by decide +kernel
theorem kS_3250 : (Int16.ofInt 3250).toInt32 = (3250 : Int32) := by decide +kernel
theorem kS_9551 : (Int16.ofInt 9551).toInt32 = (9551 : Int32) := by decide +kernel
theorem kS_9999 : (Int16.ofInt 9999).toInt32 = (9999 : Int32) := by decide +kernel
theorem u_eq0 : u_ws RX0 TX0 (nfs 0) = [Cond.laysFinal RX0 "BoreDesk$Beds" "match" "LBoreDesk$Match;", Cond.lays RX0 "BoreDesk$Beds" "isStale" "Z", Cond.lays RX0 "BoreDesk$Beds" "couples" "I", Cond.laysFinal RX0 "BoreDesk$Beds" "first" "[I", Cond.laysFinal RX0 "BoreDesk$Beds" "second" "[I", Cond.laysFinal RX0 "BoreDesk$Beds" "square" "[I", Cond.lays RX0 "BoreDesk$Beds" "cost" "I", Cond.lays RX0 "BoreDesk$Beds" "many" "I", Cond.laysFinal RX0 "BoreDesk$Beds" "joined" "[I", Cond.laysFinal RX0 "BoreDesk$Beds" "group" "[I", Cond.laysFinal RX0 "BoreDesk$Beds" "bedAt" "[I", Cond.laysFinal RX0 "BoreDesk$Beds" "bedOfGroup" "[I", Cond.laysFinal RX0 "BoreDesk$Beds" "layerOfBed" "[I", Cond.lays RX0 "BoreDesk$Beds" "isOrderStale" "Z", Cond.lays RX0 "BoreDesk$Beds" "hasOrder" "Z", Cond.laysFinal RX0 "BoreDesk$Beds" "inOrder" "[I", Cond.laysFinal RX0 "BoreDesk$Beds" "isOut" "[Z"] := by decide +kernel
set_option maxRecDepth 10000 in
theorem u_in0 : ∀ w ∈ u_ws RX0 TX0 (nfs 0), w ∈ okT := by
  rw [u_eq0]
  exact List.forall_mem_cons.mpr ⟨ok_mem (tb_at2 62 rfl) rfl, List.forall_mem_cons.mpr ⟨ok_mem (tb_at2 64 rfl) rfl, List.forall_mem_cons.mpr ⟨ok_mem (tb_at2 66 rfl) rfl, List.forall_mem_cons.mpr ⟨ok_mem (tb_at2 68 rfl) rfl, List.forall_mem_cons.mpr ⟨ok_mem (tb_at2 70 rfl) rfl, List.forall_mem_cons.mpr ⟨ok_mem (tb_at2 72 rfl) rfl, List.forall_mem_cons.mpr ⟨ok_mem (tb_at2 74 rfl) rfl, List.forall_mem_cons.mpr ⟨ok_mem (tb_at2 76 rfl) rfl, List.forall_mem_cons.mpr ⟨ok_mem (tb_at2 78 rfl) rfl, List.forall_mem_cons.mpr ⟨ok_mem (tb_at2 80 rfl) rfl, List.forall_mem_cons.mpr ⟨ok_mem (tb_at2 82 rfl) rfl, List.forall_mem_cons.mpr ⟨ok_mem (tb_at2 84 rfl) rfl, List.forall_mem_cons.mpr ⟨ok_mem (tb_at2 86 rfl) rfl, List.forall_mem_cons.mpr ⟨ok_mem (tb_at2 88 rfl) rfl, List.forall_mem_cons.mpr ⟨ok_mem (tb_at2 90 rfl) rfl, List.forall_mem_cons.mpr ⟨ok_mem (tb_at2 92 rfl) rfl, List.forall_mem_cons.mpr ⟨ok_mem (tb_at2 94 rfl) rfl, fun _ h => absurd h List.not_mem_nil⟩⟩⟩⟩⟩⟩⟩⟩⟩⟩⟩⟩⟩⟩⟩⟩⟩
theorem cls0 : CLS 0 RX0 TX0 tyX0 := ⟨rfl, u_in0, tyX0_ok, nmX0⟩
theorem u_eq1 : u_ws RX1 TX1 (nfs 1) = [Cond.laysFinal RX1 "BoreDesk$FieldText" "points" "[I", Cond.lays RX1 "BoreDesk$FieldText" "in" "LBoreDesk$Reader;", Cond.lays RX1 "BoreDesk$FieldText" "draft" "LBoreDesk$Ground;"] := by decide +kernel
set_option maxRecDepth 10000 in
theorem u_in1 : ∀ w ∈ u_ws RX1 TX1 (nfs 1), w ∈ okT := by
  rw [u_eq1]
  exact List.forall_mem_cons.mpr ⟨ok_mem (tb_at1 86 rfl) rfl, List.forall_mem_cons.mpr ⟨ok_mem (tb_at1 88 rfl) rfl, List.forall_mem_cons.mpr ⟨ok_mem (tb_at1 90 rfl) rfl, fun _ h => absurd h List.not_mem_nil⟩⟩⟩
theorem cls1 : CLS 1 RX1 TX1 tyX1 := ⟨rfl, u_in1, tyX1_ok, nmX1⟩
theorem u_eq2 : u_ws RX2 TX2 (nfs 2) = [Cond.lays RX2 "BoreDesk$Ground" "rocks" "I", Cond.laysFinal RX2 "BoreDesk$Ground" "rockName" "[J", Cond.laysFinal RX2 "BoreDesk$Ground" "skipCost" "[I", Cond.laysFinal RX2 "BoreDesk$Ground" "unlikeCost" "[I", Cond.lays RX2 "BoreDesk$Ground" "holes" "I", Cond.laysFinal RX2 "BoreDesk$Ground" "holeName" "[J", Cond.laysFinal RX2 "BoreDesk$Ground" "x" "[I", Cond.laysFinal RX2 "BoreDesk$Ground" "y" "[I", Cond.laysFinal RX2 "BoreDesk$Ground" "layers" "[I", Cond.laysFinal RX2 "BoreDesk$Ground" "rock" "[I", Cond.laysFinal RX2 "BoreDesk$Ground" "thick" "[I", Cond.lays RX2 "BoreDesk$Ground" "triangles" "I", Cond.laysFinal RX2 "BoreDesk$Ground" "corners" "[I", Cond.lays RX2 "BoreDesk$Ground" "faults" "I", Cond.laysFinal RX2 "BoreDesk$Ground" "faultName" "[J", Cond.laysFinal RX2 "BoreDesk$Ground" "faultLine" "[I", Cond.laysFinal RX2 "BoreDesk$Ground" "faultThrow" "[I"] := by decide +kernel
set_option maxRecDepth 10000 in
theorem u_in2 : ∀ w ∈ u_ws RX2 TX2 (nfs 2), w ∈ okT := by
  rw [u_eq2]
  exact List.forall_mem_cons.mpr ⟨ok_mem (tb_at1 166 rfl) rfl, List.forall_mem_cons.mpr ⟨ok_mem (tb_at1 168 rfl) rfl, List.forall_mem_cons.mpr ⟨ok_mem (tb_at1 170 rfl) rfl, List.forall_mem_cons.mpr ⟨ok_mem (tb_at1 172 rfl) rfl, List.forall_mem_cons.mpr ⟨ok_mem (tb_at1 174 rfl) rfl, List.forall_mem_cons.mpr ⟨ok_mem (tb_at1 176 rfl) rfl, List.forall_mem_cons.mpr ⟨ok_mem (tb_at1 178 rfl) rfl, List.forall_mem_cons.mpr ⟨ok_mem (tb_at1 180 rfl) rfl, List.forall_mem_cons.mpr ⟨ok_mem (tb_at1 182 rfl) rfl, List.forall_mem_cons.mpr ⟨ok_mem (tb_at1 184 rfl) rfl, List.forall_mem_cons.mpr ⟨ok_mem (tb_at1 186 rfl) rfl, List.forall_mem_cons.mpr ⟨ok_mem (tb_at1 188 rfl) rfl, List.forall_mem_cons.mpr ⟨ok_mem (tb_at1 190 rfl) rfl, List.forall_mem_cons.mpr ⟨ok_mem (tb_at1 192 rfl) rfl, List.forall_mem_cons.mpr ⟨ok_mem (tb_at1 194 rfl) rfl, List.forall_mem_cons.mpr ⟨ok_mem (tb_at1 196 rfl) rfl, List.forall_mem_cons.mpr ⟨ok_mem (tb_at1 198 rfl) rfl, fun _ h => absurd h List.not_mem_nil⟩⟩⟩⟩⟩⟩⟩⟩⟩⟩⟩⟩⟩⟩⟩⟩⟩
theorem cls2 : CLS 2 RX2 TX2 tyX2 := ⟨rfl, u_in2, tyX2_ok, nmX2⟩
theorem u_eq3 : u_ws RX3 TX3 (nfs 3) = [Cond.laysFinal RX3 "BoreDesk$Life" "left" "[I", Cond.lays RX3 "BoreDesk$Life" "hasRun" "Z", Cond.lays RX3 "BoreDesk$Life" "steps" "I", Cond.lays RX3 "BoreDesk$Life" "missed" "I", Cond.lays RX3 "BoreDesk$Life" "laid" "I", Cond.lays RX3 "BoreDesk$Life" "worn" "I", Cond.lays RX3 "BoreDesk$Life" "isCutShort" "Z", Cond.lays RX3 "BoreDesk$Life" "chance" "I"] := by decide +kernel
set_option maxRecDepth 10000 in
theorem u_in3 : ∀ w ∈ u_ws RX3 TX3 (nfs 3), w ∈ okT := by
  rw [u_eq3]
  exact List.forall_mem_cons.mpr ⟨ok_mem (tb_at2 136 rfl) rfl, List.forall_mem_cons.mpr ⟨ok_mem (tb_at2 138 rfl) rfl, List.forall_mem_cons.mpr ⟨ok_mem (tb_at2 140 rfl) rfl, List.forall_mem_cons.mpr ⟨ok_mem (tb_at2 142 rfl) rfl, List.forall_mem_cons.mpr ⟨ok_mem (tb_at2 144 rfl) rfl, List.forall_mem_cons.mpr ⟨ok_mem (tb_at2 146 rfl) rfl, List.forall_mem_cons.mpr ⟨ok_mem (tb_at2 148 rfl) rfl, List.forall_mem_cons.mpr ⟨ok_mem (tb_at2 150 rfl) rfl, fun _ h => absurd h List.not_mem_nil⟩⟩⟩⟩⟩⟩⟩⟩
theorem cls3 : CLS 3 RX3 TX3 tyX3 := ⟨rfl, u_in3, tyX3_ok, nmX3⟩
theorem u_eq4 : u_ws RX4 TX4 (nfs 4) = [Cond.laysFinal RX4 "BoreDesk$Logs" "pickPlace" "[I", Cond.lays RX4 "BoreDesk$Logs" "picked" "I", Cond.laysFinal RX4 "BoreDesk$Logs" "unitRock" "[I"] := by decide +kernel
set_option maxRecDepth 10000 in
theorem u_in4 : ∀ w ∈ u_ws RX4 TX4 (nfs 4), w ∈ okT := by
  rw [u_eq4]
  exact List.forall_mem_cons.mpr ⟨ok_mem (tb_at2 109 rfl) rfl, List.forall_mem_cons.mpr ⟨ok_mem (tb_at2 111 rfl) rfl, List.forall_mem_cons.mpr ⟨ok_mem (tb_at2 113 rfl) rfl, fun _ h => absurd h List.not_mem_nil⟩⟩⟩
theorem cls4 : CLS 4 RX4 TX4 tyX4 := ⟨rfl, u_in4, tyX4_ok, nmX4⟩
theorem u_eq5 : u_ws RX5 TX5 (nfs 5) = [Cond.laysFinal RX5 "BoreDesk$Match" "cost" "[I", Cond.laysFinal RX5 "BoreDesk$Match" "mate" "[I", Cond.lays RX5 "BoreDesk$Match" "firstLayers" "I", Cond.lays RX5 "BoreDesk$Match" "paired" "I"] := by decide +kernel
set_option maxRecDepth 10000 in
theorem u_in5 : ∀ w ∈ u_ws RX5 TX5 (nfs 5), w ∈ okT := by
  rw [u_eq5]
  exact List.forall_mem_cons.mpr ⟨ok_mem (tb_at2 20 rfl) rfl, List.forall_mem_cons.mpr ⟨ok_mem (tb_at2 22 rfl) rfl, List.forall_mem_cons.mpr ⟨ok_mem (tb_at2 24 rfl) rfl, List.forall_mem_cons.mpr ⟨ok_mem (tb_at2 26 rfl) rfl, fun _ h => absurd h List.not_mem_nil⟩⟩⟩⟩
theorem cls5 : CLS 5 RX5 TX5 tyX5 := ⟨rfl, u_in5, tyX5_ok, nmX5⟩
theorem u_eq6 : u_ws RX6 TX6 (nfs 6) = [Cond.laysFinal RX6 "BoreDesk$Reader" "tape" "[B", Cond.lays RX6 "BoreDesk$Reader" "fed" "I", Cond.laysFinal RX6 "BoreDesk$Reader" "kinds" "[I", Cond.laysFinal RX6 "BoreDesk$Reader" "starts" "[I", Cond.laysFinal RX6 "BoreDesk$Reader" "values" "[I", Cond.laysFinal RX6 "BoreDesk$Reader" "names" "[J", Cond.lays RX6 "BoreDesk$Reader" "tokens" "I", Cond.lays RX6 "BoreDesk$Reader" "now" "I", Cond.lays RX6 "BoreDesk$Reader" "hasRead" "Z", Cond.lays RX6 "BoreDesk$Reader" "fault" "I", Cond.lays RX6 "BoreDesk$Reader" "faultPlace" "I"] := by decide +kernel
set_option maxRecDepth 10000 in
theorem u_in6 : ∀ w ∈ u_ws RX6 TX6 (nfs 6), w ∈ okT := by
  rw [u_eq6]
  exact List.forall_mem_cons.mpr ⟨ok_mem (tb_at1 51 rfl) rfl, List.forall_mem_cons.mpr ⟨ok_mem (tb_at1 53 rfl) rfl, List.forall_mem_cons.mpr ⟨ok_mem (tb_at1 55 rfl) rfl, List.forall_mem_cons.mpr ⟨ok_mem (tb_at1 57 rfl) rfl, List.forall_mem_cons.mpr ⟨ok_mem (tb_at1 59 rfl) rfl, List.forall_mem_cons.mpr ⟨ok_mem (tb_at1 61 rfl) rfl, List.forall_mem_cons.mpr ⟨ok_mem (tb_at1 63 rfl) rfl, List.forall_mem_cons.mpr ⟨ok_mem (tb_at1 65 rfl) rfl, List.forall_mem_cons.mpr ⟨ok_mem (tb_at1 67 rfl) rfl, List.forall_mem_cons.mpr ⟨ok_mem (tb_at1 69 rfl) rfl, List.forall_mem_cons.mpr ⟨ok_mem (tb_at1 71 rfl) rfl, fun _ h => absurd h List.not_mem_nil⟩⟩⟩⟩⟩⟩⟩⟩⟩⟩⟩
theorem cls6 : CLS 6 RX6 TX6 tyX6 := ⟨rfl, u_in6, tyX6_ok, nmX6⟩
theorem u_eq7 : u_ws RX7 TX7 (nfs 7) = [Cond.laysFinal RX7 "BoreDesk$Tray" "numbers" "[J", Cond.lays RX7 "BoreDesk$Tray" "sort" "I", Cond.lays RX7 "BoreDesk$Tray" "many" "I"] := by decide +kernel
set_option maxRecDepth 10000 in
theorem u_in7 : ∀ w ∈ u_ws RX7 TX7 (nfs 7), w ∈ okT := by
  rw [u_eq7]
  exact List.forall_mem_cons.mpr ⟨ok_mem (tb_at2 165 rfl) rfl, List.forall_mem_cons.mpr ⟨ok_mem (tb_at2 167 rfl) rfl, List.forall_mem_cons.mpr ⟨ok_mem (tb_at2 169 rfl) rfl, fun _ h => absurd h List.not_mem_nil⟩⟩⟩
theorem cls7 : CLS 7 RX7 TX7 tyX7 := ⟨rfl, u_in7, tyX7_ok, nmX7⟩
theorem u_eq8 : u_ws RX8 TX8 (nfs 8) = [Cond.lays RX8 "BoreDesk$Years" "isTold" "Z", Cond.lays RX8 "BoreDesk$Years" "steps" "I", Cond.lays RX8 "BoreDesk$Years" "rows" "I", Cond.laysFinal RX8 "BoreDesk$Years" "kind" "[I", Cond.laysFinal RX8 "BoreDesk$Years" "what" "[I", Cond.laysFinal RX8 "BoreDesk$Years" "other" "[I", Cond.laysFinal RX8 "BoreDesk$Years" "number" "[I", Cond.laysFinal RX8 "BoreDesk$Years" "mate" "[I"] := by decide +kernel
set_option maxRecDepth 10000 in
theorem u_in8 : ∀ w ∈ u_ws RX8 TX8 (nfs 8), w ∈ okT := by
  rw [u_eq8]
  exact List.forall_mem_cons.mpr ⟨ok_mem (tb_at1 228 rfl) rfl, List.forall_mem_cons.mpr ⟨ok_mem (tb_at1 230 rfl) rfl, List.forall_mem_cons.mpr ⟨ok_mem (tb_at1 232 rfl) rfl, List.forall_mem_cons.mpr ⟨ok_mem (tb_at1 234 rfl) rfl, List.forall_mem_cons.mpr ⟨ok_mem (tb_at1 236 rfl) rfl, List.forall_mem_cons.mpr ⟨ok_mem (tb_at1 238 rfl) rfl, List.forall_mem_cons.mpr ⟨ok_mem (tb_at2 0 rfl) rfl, List.forall_mem_cons.mpr ⟨ok_mem (tb_at2 2 rfl) rfl, fun _ h => absurd h List.not_mem_nil⟩⟩⟩⟩⟩⟩⟩⟩
theorem cls8 : CLS 8 RX8 TX8 tyX8 := ⟨rfl, u_in8, tyX8_ok, nmX8⟩
theorem u_eq9 : u_ws RX9 TX9 (nfs 9) = [Cond.laysFinal RX9 "BoreDesk$YearsText" "open" "[I", Cond.lays RX9 "BoreDesk$YearsText" "depth" "I", Cond.lays RX9 "BoreDesk$YearsText" "in" "LBoreDesk$Reader;", Cond.lays RX9 "BoreDesk$YearsText" "ground" "LBoreDesk$Ground;", Cond.lays RX9 "BoreDesk$YearsText" "draft" "LBoreDesk$Years;"] := by decide +kernel
set_option maxRecDepth 10000 in
theorem u_in9 : ∀ w ∈ u_ws RX9 TX9 (nfs 9), w ∈ okT := by
  rw [u_eq9]
  exact List.forall_mem_cons.mpr ⟨ok_mem (tb_at1 104 rfl) rfl, List.forall_mem_cons.mpr ⟨ok_mem (tb_at1 106 rfl) rfl, List.forall_mem_cons.mpr ⟨ok_mem (tb_at1 108 rfl) rfl, List.forall_mem_cons.mpr ⟨ok_mem (tb_at1 110 rfl) rfl, List.forall_mem_cons.mpr ⟨ok_mem (tb_at1 112 rfl) rfl, fun _ h => absurd h List.not_mem_nil⟩⟩⟩⟩⟩
theorem cls9 : CLS 9 RX9 TX9 tyX9 := ⟨rfl, u_in9, tyX9_ok, nmX9⟩
theorem u_eq10 : u_ws RX10 TX10 (nfs 10) = [Cond.lays RX10 "BoreDesk" "status" "I", Cond.lays RX10 "BoreDesk" "fractionTop" "J", Cond.lays RX10 "BoreDesk" "fractionBottom" "J", Cond.laysFinal RX10 "BoreDesk" "trays" "[LBoreDesk$Tray;", Cond.laysFinal RX10 "BoreDesk" "reader" "LBoreDesk$Reader;", Cond.laysFinal RX10 "BoreDesk" "fieldText" "LBoreDesk$FieldText;", Cond.laysFinal RX10 "BoreDesk" "yearsText" "LBoreDesk$YearsText;", Cond.lays RX10 "BoreDesk" "ground" "LBoreDesk$Ground;", Cond.lays RX10 "BoreDesk" "spareGround" "LBoreDesk$Ground;", Cond.lays RX10 "BoreDesk" "years" "LBoreDesk$Years;", Cond.lays RX10 "BoreDesk" "spareYears" "LBoreDesk$Years;", Cond.laysFinal RX10 "BoreDesk" "markedGrounds" "[LBoreDesk$Ground;", Cond.laysFinal RX10 "BoreDesk" "markedYears" "[LBoreDesk$Years;", Cond.lays RX10 "BoreDesk" "marks" "I", Cond.laysFinal RX10 "BoreDesk" "latestMatch" "LBoreDesk$Match;", Cond.laysFinal RX10 "BoreDesk" "beds" "LBoreDesk$Beds;", Cond.laysFinal RX10 "BoreDesk" "logs" "LBoreDesk$Logs;", Cond.laysFinal RX10 "BoreDesk" "life" "LBoreDesk$Life;", Cond.laysFinal RX10 "BoreDesk" "trial" "LBoreDesk$Life;"] := by decide +kernel
set_option maxRecDepth 10000 in
theorem u_in10 : ∀ w ∈ u_ws RX10 TX10 (nfs 10), w ∈ okT := by
  rw [u_eq10]
  exact List.forall_mem_cons.mpr ⟨ok_mem (tb_at2 191 rfl) rfl, List.forall_mem_cons.mpr ⟨ok_mem (tb_at2 193 rfl) rfl, List.forall_mem_cons.mpr ⟨ok_mem (tb_at2 195 rfl) rfl, List.forall_mem_cons.mpr ⟨ok_mem (tb_at2 197 rfl) rfl, List.forall_mem_cons.mpr ⟨ok_mem (tb_at2 199 rfl) rfl, List.forall_mem_cons.mpr ⟨ok_mem (tb_at2 201 rfl) rfl, List.forall_mem_cons.mpr ⟨ok_mem (tb_at2 203 rfl) rfl, List.forall_mem_cons.mpr ⟨ok_mem (tb_at2 205 rfl) rfl, List.forall_mem_cons.mpr ⟨ok_mem (tb_at2 207 rfl) rfl, List.forall_mem_cons.mpr ⟨ok_mem (tb_at2 209 rfl) rfl, List.forall_mem_cons.mpr ⟨ok_mem (tb_at2 211 rfl) rfl, List.forall_mem_cons.mpr ⟨ok_mem (tb_at2 213 rfl) rfl, List.forall_mem_cons.mpr ⟨ok_mem (tb_at2 215 rfl) rfl, List.forall_mem_cons.mpr ⟨ok_mem (tb_at2 217 rfl) rfl, List.forall_mem_cons.mpr ⟨ok_mem (tb_at2 219 rfl) rfl, List.forall_mem_cons.mpr ⟨ok_mem (tb_at2 221 rfl) rfl, List.forall_mem_cons.mpr ⟨ok_mem (tb_at2 223 rfl) rfl, List.forall_mem_cons.mpr ⟨ok_mem (tb_at2 225 rfl) rfl, List.forall_mem_cons.mpr ⟨ok_mem (tb_at2 227 rfl) rfl, fun _ h => absurd h List.not_mem_nil⟩⟩⟩⟩⟩⟩⟩⟩⟩⟩⟩⟩⟩⟩⟩⟩⟩⟩⟩
theorem cls10 : CLS 10 RX10 TX10 tyX10 := ⟨rfl, u_in10, tyX10_ok, nmX10⟩
theorem u_eq11 : u_ws RX11 TX11 (nfs 11) = [Cond.laysFinal RX11 "BoreDeskModel" "at" "[I", Cond.laysFinal RX11 "BoreDeskModel" "names" "[J", Cond.lays RX11 "BoreDeskModel" "status" "I", Cond.lays RX11 "BoreDeskModel" "top" "J", Cond.lays RX11 "BoreDeskModel" "bottom" "J", Cond.laysFinal RX11 "BoreDeskModel" "sort" "[I", Cond.laysFinal RX11 "BoreDeskModel" "trayMany" "[I", Cond.laysFinal RX11 "BoreDeskModel" "trays" "[J", Cond.laysFinal RX11 "BoreDeskModel" "tape" "[B", Cond.laysFinal RX11 "BoreDeskModel" "text" "[B", Cond.lays RX11 "BoreDeskModel" "taped" "I", Cond.lays RX11 "BoreDeskModel" "size" "I", Cond.lays RX11 "BoreDeskModel" "token" "I", Cond.lays RX11 "BoreDeskModel" "from" "I", Cond.lays RX11 "BoreDeskModel" "end" "I", Cond.lays RX11 "BoreDeskModel" "value" "I", Cond.lays RX11 "BoreDeskModel" "faultKind" "I", Cond.lays RX11 "BoreDeskModel" "faultPlace" "I", Cond.lays RX11 "BoreDeskModel" "faults" "I", Cond.lays RX11 "BoreDeskModel" "seen" "I", Cond.laysFinal RX11 "BoreDeskModel" "opened" "[I", Cond.lays RX11 "BoreDeskModel" "depth" "I", Cond.lays RX11 "BoreDeskModel" "counted" "I", Cond.laysFinal RX11 "BoreDeskModel" "costs" "[I", Cond.laysFinal RX11 "BoreDeskModel" "paired" "[I", Cond.laysFinal RX11 "BoreDeskModel" "toldPairs" "[I", Cond.lays RX11 "BoreDeskModel" "toldMany" "I", Cond.laysFinal RX11 "BoreDeskModel" "treeA" "[I", Cond.laysFinal RX11 "BoreDeskModel" "treeB" "[I", Cond.laysFinal RX11 "BoreDeskModel" "part" "[I", Cond.lays RX11 "BoreDeskModel" "treeMany" "I", Cond.laysFinal RX11 "BoreDeskModel" "bedAt" "[I", Cond.lays RX11 "BoreDeskModel" "bedMany" "I", Cond.laysFinal RX11 "BoreDeskModel" "isOut" "[Z", Cond.laysFinal RX11 "BoreDeskModel" "ordered" "[I", Cond.laysFinal RX11 "BoreDeskModel" "weights" "[J", Cond.laysFinal RX11 "BoreDeskModel" "aside" "[J", Cond.laysFinal RX11 "BoreDeskModel" "picked" "[I", Cond.lays RX11 "BoreDeskModel" "pickedMany" "I", Cond.lays RX11 "BoreDeskModel" "drawn" "I", Cond.lays RX11 "BoreDeskModel" "ranSteps" "I", Cond.laysFinal RX11 "BoreDeskModel" "rounds" "[I", Cond.laysFinal RX11 "BoreDeskModel" "ran" "[I", Cond.laysFinal RX11 "BoreDeskModel" "told0" "[I", Cond.lays RX11 "BoreDeskModel" "isTold" "Z", Cond.lays RX11 "BoreDeskModel" "marks" "I"] := by decide +kernel
set_option maxRecDepth 10000 in
theorem u_in11 : ∀ w ∈ u_ws RX11 TX11 (nfs 11), w ∈ okT := by
  rw [u_eq11]
  exact List.forall_mem_cons.mpr ⟨ok_mem (tb_at7 55 rfl) rfl, List.forall_mem_cons.mpr ⟨ok_mem (tb_at7 57 rfl) rfl, List.forall_mem_cons.mpr ⟨ok_mem (tb_at7 59 rfl) rfl, List.forall_mem_cons.mpr ⟨ok_mem (tb_at7 61 rfl) rfl, List.forall_mem_cons.mpr ⟨ok_mem (tb_at7 63 rfl) rfl, List.forall_mem_cons.mpr ⟨ok_mem (tb_at7 65 rfl) rfl, List.forall_mem_cons.mpr ⟨ok_mem (tb_at7 67 rfl) rfl, List.forall_mem_cons.mpr ⟨ok_mem (tb_at7 69 rfl) rfl, List.forall_mem_cons.mpr ⟨ok_mem (tb_at7 71 rfl) rfl, List.forall_mem_cons.mpr ⟨ok_mem (tb_at7 73 rfl) rfl, List.forall_mem_cons.mpr ⟨ok_mem (tb_at7 75 rfl) rfl, List.forall_mem_cons.mpr ⟨ok_mem (tb_at7 77 rfl) rfl, List.forall_mem_cons.mpr ⟨ok_mem (tb_at7 79 rfl) rfl, List.forall_mem_cons.mpr ⟨ok_mem (tb_at7 81 rfl) rfl, List.forall_mem_cons.mpr ⟨ok_mem (tb_at7 83 rfl) rfl, List.forall_mem_cons.mpr ⟨ok_mem (tb_at7 85 rfl) rfl, List.forall_mem_cons.mpr ⟨ok_mem (tb_at7 87 rfl) rfl, List.forall_mem_cons.mpr ⟨ok_mem (tb_at7 89 rfl) rfl, List.forall_mem_cons.mpr ⟨ok_mem (tb_at7 91 rfl) rfl, List.forall_mem_cons.mpr ⟨ok_mem (tb_at7 93 rfl) rfl, List.forall_mem_cons.mpr ⟨ok_mem (tb_at7 95 rfl) rfl, List.forall_mem_cons.mpr ⟨ok_mem (tb_at7 97 rfl) rfl, List.forall_mem_cons.mpr ⟨ok_mem (tb_at7 99 rfl) rfl, List.forall_mem_cons.mpr ⟨ok_mem (tb_at7 101 rfl) rfl, List.forall_mem_cons.mpr ⟨ok_mem (tb_at7 103 rfl) rfl, List.forall_mem_cons.mpr ⟨ok_mem (tb_at7 105 rfl) rfl, List.forall_mem_cons.mpr ⟨ok_mem (tb_at7 107 rfl) rfl, List.forall_mem_cons.mpr ⟨ok_mem (tb_at7 109 rfl) rfl, List.forall_mem_cons.mpr ⟨ok_mem (tb_at7 111 rfl) rfl, List.forall_mem_cons.mpr ⟨ok_mem (tb_at7 113 rfl) rfl, List.forall_mem_cons.mpr ⟨ok_mem (tb_at7 115 rfl) rfl, List.forall_mem_cons.mpr ⟨ok_mem (tb_at7 117 rfl) rfl, List.forall_mem_cons.mpr ⟨ok_mem (tb_at7 119 rfl) rfl, List.forall_mem_cons.mpr ⟨ok_mem (tb_at7 121 rfl) rfl, List.forall_mem_cons.mpr ⟨ok_mem (tb_at7 123 rfl) rfl, List.forall_mem_cons.mpr ⟨ok_mem (tb_at7 125 rfl) rfl, List.forall_mem_cons.mpr ⟨ok_mem (tb_at7 127 rfl) rfl, List.forall_mem_cons.mpr ⟨ok_mem (tb_at7 129 rfl) rfl, List.forall_mem_cons.mpr ⟨ok_mem (tb_at7 131 rfl) rfl, List.forall_mem_cons.mpr ⟨ok_mem (tb_at7 133 rfl) rfl, List.forall_mem_cons.mpr ⟨ok_mem (tb_at7 135 rfl) rfl, List.forall_mem_cons.mpr ⟨ok_mem (tb_at7 137 rfl) rfl, List.forall_mem_cons.mpr ⟨ok_mem (tb_at7 139 rfl) rfl, List.forall_mem_cons.mpr ⟨ok_mem (tb_at7 141 rfl) rfl, List.forall_mem_cons.mpr ⟨ok_mem (tb_at7 143 rfl) rfl, List.forall_mem_cons.mpr ⟨ok_mem (tb_at7 145 rfl) rfl, fun _ h => absurd h List.not_mem_nil⟩⟩⟩⟩⟩⟩⟩⟩⟩⟩⟩⟩⟩⟩⟩⟩⟩⟩⟩⟩⟩⟩⟩⟩⟩⟩⟩⟩⟩⟩⟩⟩⟩⟩⟩⟩⟩⟩⟩⟩⟩⟩⟩⟩⟩⟩
theorem cls11 : CLS 11 RX11 TX11 tyX11 := ⟨rfl, u_in11, tyX11_ok, nmX11⟩
theorem fl_RX10_9 : FL RX10 9 10 0 := ⟨RX10, TX10, tyX10, cls10, Nat.le_of_ble_eq_true rfl, Or.inl (ok_mem (tb_at2 172 rfl) (by decide +kernel))⟩
theorem fl_RX10_13 : FL RX10 13 10 1 := ⟨RX10, TX10, tyX10, cls10, Nat.le_of_ble_eq_true rfl, Or.inl (ok_mem (tb_at2 173 rfl) (by decide +kernel))⟩
theorem fl_RX10_17 : FL RX10 17 10 2 := ⟨RX10, TX10, tyX10, cls10, Nat.le_of_ble_eq_true rfl, Or.inl (ok_mem (tb_at2 174 rfl) (by decide +kernel))⟩
theorem fl_RX10_22 : FL RX10 22 10 3 := ⟨RX10, TX10, tyX10, cls10, Nat.le_of_ble_eq_true rfl, Or.inl (ok_mem (tb_at2 175 rfl) (by decide +kernel))⟩
theorem fl_RX10_29 : FL RX10 29 10 4 := ⟨RX10, TX10, tyX10, cls10, Nat.le_of_ble_eq_true rfl, Or.inl (ok_mem (tb_at2 176 rfl) (by decide +kernel))⟩
theorem fl_RX10_36 : FL RX10 36 10 5 := ⟨RX10, TX10, tyX10, cls10, Nat.le_of_ble_eq_true rfl, Or.inl (ok_mem (tb_at2 177 rfl) (by decide +kernel))⟩
theorem fl_RX10_43 : FL RX10 43 10 6 := ⟨RX10, TX10, tyX10, cls10, Nat.le_of_ble_eq_true rfl, Or.inl (ok_mem (tb_at2 178 rfl) (by decide +kernel))⟩
theorem fl_RX10_50 : FL RX10 50 10 7 := ⟨RX10, TX10, tyX10, cls10, Nat.le_of_ble_eq_true rfl, Or.inl (ok_mem (tb_at2 179 rfl) (by decide +kernel))⟩
theorem fl_RX10_54 : FL RX10 54 10 8 := ⟨RX10, TX10, tyX10, cls10, Nat.le_of_ble_eq_true rfl, Or.inl (ok_mem (tb_at2 180 rfl) (by decide +kernel))⟩
theorem fl_RX10_60 : FL RX10 60 10 9 := ⟨RX10, TX10, tyX10, cls10, Nat.le_of_ble_eq_true rfl, Or.inl (ok_mem (tb_at2 181 rfl) (by decide +kernel))⟩
theorem fl_RX10_64 : FL RX10 64 10 10 := ⟨RX10, TX10, tyX10, cls10, Nat.le_of_ble_eq_true rfl, Or.inl (ok_mem (tb_at2 182 rfl) (by decide +kernel))⟩
theorem fl_RX10_67 : FL RX10 67 10 11 := ⟨RX10, TX10, tyX10, cls10, Nat.le_of_ble_eq_true rfl, Or.inl (ok_mem (tb_at2 183 rfl) (by decide +kernel))⟩
theorem fl_RX10_71 : FL RX10 71 10 12 := ⟨RX10, TX10, tyX10, cls10, Nat.le_of_ble_eq_true rfl, Or.inl (ok_mem (tb_at2 184 rfl) (by decide +kernel))⟩
theorem fl_RX10_75 : FL RX10 75 10 13 := ⟨RX10, TX10, tyX10, cls10, Nat.le_of_ble_eq_true rfl, Or.inl (ok_mem (tb_at2 185 rfl) (by decide +kernel))⟩
theorem fl_RX10_81 : FL RX10 81 10 14 := ⟨RX10, TX10, tyX10, cls10, Nat.le_of_ble_eq_true rfl, Or.inl (ok_mem (tb_at2 186 rfl) (by decide +kernel))⟩
theorem fl_RX10_88 : FL RX10 88 10 15 := ⟨RX10, TX10, tyX10, cls10, Nat.le_of_ble_eq_true rfl, Or.inl (ok_mem (tb_at2 187 rfl) (by decide +kernel))⟩
theorem fl_RX10_95 : FL RX10 95 10 16 := ⟨RX10, TX10, tyX10, cls10, Nat.le_of_ble_eq_true rfl, Or.inl (ok_mem (tb_at2 188 rfl) (by decide +kernel))⟩
theorem fl_RX10_102 : FL RX10 102 10 17 := ⟨RX10, TX10, tyX10, cls10, Nat.le_of_ble_eq_true rfl, Or.inl (ok_mem (tb_at2 189 rfl) (by decide +kernel))⟩
theorem fl_RX10_106 : FL RX10 106 10 18 := ⟨RX10, TX10, tyX10, cls10, Nat.le_of_ble_eq_true rfl, Or.inl (ok_mem (tb_at2 190 rfl) (by decide +kernel))⟩
theorem fl_RX10_141 : FL RX10 141 7 0 := ⟨RX7, TX7, tyX7, cls7, Nat.le_of_ble_eq_true rfl, Or.inr ⟨"BoreDesk", nest_mem (tb_at2 160 rfl) rfl⟩⟩
theorem fl_RX10_148 : FL RX10 148 7 1 := ⟨RX7, TX7, tyX7, cls7, Nat.le_of_ble_eq_true rfl, Or.inr ⟨"BoreDesk", nest_mem (tb_at2 162 rfl) rfl⟩⟩
theorem fl_RX10_168 : FL RX10 168 6 1 := ⟨RX6, TX6, tyX6, cls6, Nat.le_of_ble_eq_true rfl, Or.inr ⟨"BoreDesk", nest_mem (tb_at1 38 rfl) rfl⟩⟩
theorem fl_RX10_184 : FL RX10 184 2 4 := ⟨RX2, TX2, tyX2, cls2, Nat.le_of_ble_eq_true rfl, Or.inr ⟨"BoreDesk", nest_mem (tb_at1 133 rfl) rfl⟩⟩
theorem fl_RX10_193 : FL RX10 193 8 1 := ⟨RX8, TX8, tyX8, cls8, Nat.le_of_ble_eq_true rfl, Or.inr ⟨"BoreDesk", nest_mem (tb_at1 211 rfl) rfl⟩⟩
theorem fl_RX10_196 : FL RX10 196 6 8 := ⟨RX6, TX6, tyX6, cls6, Nat.le_of_ble_eq_true rfl, Or.inr ⟨"BoreDesk", nest_mem (tb_at1 46 rfl) rfl⟩⟩
theorem fl_RX10_200 : FL RX10 200 6 9 := ⟨RX6, TX6, tyX6, cls6, Nat.le_of_ble_eq_true rfl, Or.inr ⟨"BoreDesk", nest_mem (tb_at1 48 rfl) rfl⟩⟩
theorem fl_RX10_203 : FL RX10 203 6 10 := ⟨RX6, TX6, tyX6, cls6, Nat.le_of_ble_eq_true rfl, Or.inr ⟨"BoreDesk", nest_mem (tb_at1 50 rfl) rfl⟩⟩
theorem fl_RX10_206 : FL RX10 206 2 0 := ⟨RX2, TX2, tyX2, cls2, Nat.le_of_ble_eq_true rfl, Or.inr ⟨"BoreDesk", nest_mem (tb_at1 123 rfl) rfl⟩⟩
theorem fl_RX10_209 : FL RX10 209 2 11 := ⟨RX2, TX2, tyX2, cls2, Nat.le_of_ble_eq_true rfl, Or.inr ⟨"BoreDesk", nest_mem (tb_at1 156 rfl) rfl⟩⟩
theorem fl_RX10_212 : FL RX10 212 2 13 := ⟨RX2, TX2, tyX2, cls2, Nat.le_of_ble_eq_true rfl, Or.inr ⟨"BoreDesk", nest_mem (tb_at1 160 rfl) rfl⟩⟩
theorem fl_RX10_218 : FL RX10 218 2 2 := ⟨RX2, TX2, tyX2, cls2, Nat.le_of_ble_eq_true rfl, Or.inr ⟨"BoreDesk", nest_mem (tb_at1 127 rfl) rfl⟩⟩
theorem fl_RX10_228 : FL RX10 228 2 6 := ⟨RX2, TX2, tyX2, cls2, Nat.le_of_ble_eq_true rfl, Or.inr ⟨"BoreDesk", nest_mem (tb_at1 137 rfl) rfl⟩⟩
theorem fl_RX10_231 : FL RX10 231 2 7 := ⟨RX2, TX2, tyX2, cls2, Nat.le_of_ble_eq_true rfl, Or.inr ⟨"BoreDesk", nest_mem (tb_at1 140 rfl) rfl⟩⟩
theorem fl_RX10_234 : FL RX10 234 2 8 := ⟨RX2, TX2, tyX2, cls2, Nat.le_of_ble_eq_true rfl, Or.inr ⟨"BoreDesk", nest_mem (tb_at1 145 rfl) rfl⟩⟩
theorem fl_RX10_246 : FL RX10 246 2 9 := ⟨RX2, TX2, tyX2, cls2, Nat.le_of_ble_eq_true rfl, Or.inr ⟨"BoreDesk", nest_mem (tb_at1 149 rfl) rfl⟩⟩
theorem fl_RX10_252 : FL RX10 252 2 10 := ⟨RX2, TX2, tyX2, cls2, Nat.le_of_ble_eq_true rfl, Or.inr ⟨"BoreDesk", nest_mem (tb_at1 153 rfl) rfl⟩⟩
theorem fl_RX10_281 : FL RX10 281 5 2 := ⟨RX5, TX5, tyX5, cls5, Nat.le_of_ble_eq_true rfl, Or.inr ⟨"BoreDesk", nest_mem (tb_at2 17 rfl) rfl⟩⟩
theorem fl_RX10_284 : FL RX10 284 5 3 := ⟨RX5, TX5, tyX5, cls5, Nat.le_of_ble_eq_true rfl, Or.inr ⟨"BoreDesk", nest_mem (tb_at2 19 rfl) rfl⟩⟩
theorem fl_RX10_291 : FL RX10 291 0 2 := ⟨RX0, TX0, tyX0, cls0, Nat.le_of_ble_eq_true rfl, Or.inr ⟨"BoreDesk", nest_mem (tb_at2 40 rfl) rfl⟩⟩
theorem fl_RX10_294 : FL RX10 294 0 5 := ⟨RX0, TX0, tyX0, cls0, Nat.le_of_ble_eq_true rfl, Or.inr ⟨"BoreDesk", nest_mem (tb_at2 46 rfl) rfl⟩⟩
theorem fl_RX10_297 : FL RX10 297 0 3 := ⟨RX0, TX0, tyX0, cls0, Nat.le_of_ble_eq_true rfl, Or.inr ⟨"BoreDesk", nest_mem (tb_at2 42 rfl) rfl⟩⟩
theorem fl_RX10_300 : FL RX10 300 0 4 := ⟨RX0, TX0, tyX0, cls0, Nat.le_of_ble_eq_true rfl, Or.inr ⟨"BoreDesk", nest_mem (tb_at2 44 rfl) rfl⟩⟩
theorem fl_RX10_303 : FL RX10 303 0 6 := ⟨RX0, TX0, tyX0, cls0, Nat.le_of_ble_eq_true rfl, Or.inr ⟨"BoreDesk", nest_mem (tb_at2 48 rfl) rfl⟩⟩
theorem fl_RX10_306 : FL RX10 306 0 7 := ⟨RX0, TX0, tyX0, cls0, Nat.le_of_ble_eq_true rfl, Or.inr ⟨"BoreDesk", nest_mem (tb_at2 50 rfl) rfl⟩⟩
theorem fl_RX10_309 : FL RX10 309 0 10 := ⟨RX0, TX0, tyX0, cls0, Nat.le_of_ble_eq_true rfl, Or.inr ⟨"BoreDesk", nest_mem (tb_at2 54 rfl) rfl⟩⟩
theorem fl_RX10_327 : FL RX10 327 0 15 := ⟨RX0, TX0, tyX0, cls0, Nat.le_of_ble_eq_true rfl, Or.inr ⟨"BoreDesk", nest_mem (tb_at2 60 rfl) rfl⟩⟩
theorem fl_RX10_403 : FL RX10 403 4 1 := ⟨RX4, TX4, tyX4, cls4, Nat.le_of_ble_eq_true rfl, Or.inr ⟨"BoreDesk", nest_mem (tb_at2 107 rfl) rfl⟩⟩
theorem fl_RX10_406 : FL RX10 406 4 0 := ⟨RX4, TX4, tyX4, cls4, Nat.le_of_ble_eq_true rfl, Or.inr ⟨"BoreDesk", nest_mem (tb_at2 105 rfl) rfl⟩⟩
theorem fl_RX10_433 : FL RX10 433 2 16 := ⟨RX2, TX2, tyX2, cls2, Nat.le_of_ble_eq_true rfl, Or.inr ⟨"BoreDesk", nest_mem (tb_at1 165 rfl) rfl⟩⟩
theorem fl_RX10_436 : FL RX10 436 8 0 := ⟨RX8, TX8, tyX8, cls8, Nat.le_of_ble_eq_true rfl, Or.inr ⟨"BoreDesk", nest_mem (tb_at1 209 rfl) rfl⟩⟩
theorem fl_RX10_443 : FL RX10 443 3 2 := ⟨RX3, TX3, tyX3, cls3, Nat.le_of_ble_eq_true rfl, Or.inr ⟨"BoreDesk", nest_mem (tb_at2 126 rfl) rfl⟩⟩
theorem fl_RX10_444 : FL RX10 444 3 1 := ⟨RX3, TX3, tyX3, cls3, Nat.le_of_ble_eq_true rfl, Or.inr ⟨"BoreDesk", nest_mem (tb_at2 124 rfl) rfl⟩⟩
theorem fl_RX10_447 : FL RX10 447 3 3 := ⟨RX3, TX3, tyX3, cls3, Nat.le_of_ble_eq_true rfl, Or.inr ⟨"BoreDesk", nest_mem (tb_at2 128 rfl) rfl⟩⟩
theorem fl_RX10_450 : FL RX10 450 3 4 := ⟨RX3, TX3, tyX3, cls3, Nat.le_of_ble_eq_true rfl, Or.inr ⟨"BoreDesk", nest_mem (tb_at2 130 rfl) rfl⟩⟩
theorem fl_RX10_453 : FL RX10 453 3 5 := ⟨RX3, TX3, tyX3, cls3, Nat.le_of_ble_eq_true rfl, Or.inr ⟨"BoreDesk", nest_mem (tb_at2 132 rfl) rfl⟩⟩
theorem fl_RX10_456 : FL RX10 456 3 6 := ⟨RX3, TX3, tyX3, cls3, Nat.le_of_ble_eq_true rfl, Or.inr ⟨"BoreDesk", nest_mem (tb_at2 134 rfl) rfl⟩⟩
theorem fl_RX0_12 : FL RX0 12 0 0 := ⟨RX0, TX0, tyX0, cls0, Nat.le_of_ble_eq_true rfl, Or.inl (ok_mem (tb_at2 37 rfl) (by decide +kernel))⟩
theorem fl_RX0_18 : FL RX0 18 0 1 := ⟨RX0, TX0, tyX0, cls0, Nat.le_of_ble_eq_true rfl, Or.inl (ok_mem (tb_at2 38 rfl) (by decide +kernel))⟩
theorem fl_RX0_22 : FL RX0 22 0 2 := ⟨RX0, TX0, tyX0, cls0, Nat.le_of_ble_eq_true rfl, Or.inl (ok_mem (tb_at2 39 rfl) (by decide +kernel))⟩
theorem fl_RX0_26 : FL RX0 26 0 3 := ⟨RX0, TX0, tyX0, cls0, Nat.le_of_ble_eq_true rfl, Or.inl (ok_mem (tb_at2 41 rfl) (by decide +kernel))⟩
theorem fl_RX0_30 : FL RX0 30 0 4 := ⟨RX0, TX0, tyX0, cls0, Nat.le_of_ble_eq_true rfl, Or.inl (ok_mem (tb_at2 43 rfl) (by decide +kernel))⟩
theorem fl_RX0_33 : FL RX0 33 0 5 := ⟨RX0, TX0, tyX0, cls0, Nat.le_of_ble_eq_true rfl, Or.inl (ok_mem (tb_at2 45 rfl) (by decide +kernel))⟩
theorem fl_RX0_36 : FL RX0 36 0 6 := ⟨RX0, TX0, tyX0, cls0, Nat.le_of_ble_eq_true rfl, Or.inl (ok_mem (tb_at2 47 rfl) (by decide +kernel))⟩
theorem fl_RX0_39 : FL RX0 39 0 7 := ⟨RX0, TX0, tyX0, cls0, Nat.le_of_ble_eq_true rfl, Or.inl (ok_mem (tb_at2 49 rfl) (by decide +kernel))⟩
theorem fl_RX0_42 : FL RX0 42 0 8 := ⟨RX0, TX0, tyX0, cls0, Nat.le_of_ble_eq_true rfl, Or.inl (ok_mem (tb_at2 51 rfl) (by decide +kernel))⟩
theorem fl_RX0_45 : FL RX0 45 0 9 := ⟨RX0, TX0, tyX0, cls0, Nat.le_of_ble_eq_true rfl, Or.inl (ok_mem (tb_at2 52 rfl) (by decide +kernel))⟩
theorem fl_RX0_48 : FL RX0 48 0 10 := ⟨RX0, TX0, tyX0, cls0, Nat.le_of_ble_eq_true rfl, Or.inl (ok_mem (tb_at2 53 rfl) (by decide +kernel))⟩
theorem fl_RX0_51 : FL RX0 51 0 11 := ⟨RX0, TX0, tyX0, cls0, Nat.le_of_ble_eq_true rfl, Or.inl (ok_mem (tb_at2 55 rfl) (by decide +kernel))⟩
theorem fl_RX0_54 : FL RX0 54 0 12 := ⟨RX0, TX0, tyX0, cls0, Nat.le_of_ble_eq_true rfl, Or.inl (ok_mem (tb_at2 56 rfl) (by decide +kernel))⟩
theorem fl_RX0_57 : FL RX0 57 0 13 := ⟨RX0, TX0, tyX0, cls0, Nat.le_of_ble_eq_true rfl, Or.inl (ok_mem (tb_at2 57 rfl) (by decide +kernel))⟩
theorem fl_RX0_60 : FL RX0 60 0 14 := ⟨RX0, TX0, tyX0, cls0, Nat.le_of_ble_eq_true rfl, Or.inl (ok_mem (tb_at2 58 rfl) (by decide +kernel))⟩
theorem fl_RX0_63 : FL RX0 63 0 15 := ⟨RX0, TX0, tyX0, cls0, Nat.le_of_ble_eq_true rfl, Or.inl (ok_mem (tb_at2 59 rfl) (by decide +kernel))⟩
theorem fl_RX0_66 : FL RX0 66 0 16 := ⟨RX0, TX0, tyX0, cls0, Nat.le_of_ble_eq_true rfl, Or.inl (ok_mem (tb_at2 61 rfl) (by decide +kernel))⟩
theorem fl_RX0_85 : FL RX0 85 2 4 := ⟨RX2, TX2, tyX2, cls2, Nat.le_of_ble_eq_true rfl, Or.inr ⟨"BoreDesk", nest_mem (tb_at1 130 rfl) rfl⟩⟩
theorem fl_RX0_101 : FL RX0 101 2 6 := ⟨RX2, TX2, tyX2, cls2, Nat.le_of_ble_eq_true rfl, Or.inr ⟨"BoreDesk", nest_mem (tb_at1 136 rfl) rfl⟩⟩
theorem fl_RX0_104 : FL RX0 104 2 7 := ⟨RX2, TX2, tyX2, cls2, Nat.le_of_ble_eq_true rfl, Or.inr ⟨"BoreDesk", nest_mem (tb_at1 139 rfl) rfl⟩⟩
theorem fl_RX0_107 : FL RX0 107 5 2 := ⟨RX5, TX5, tyX5, cls5, Nat.le_of_ble_eq_true rfl, Or.inr ⟨"BoreDesk", nest_mem (tb_at2 16 rfl) rfl⟩⟩
theorem fl_RX0_118 : FL RX0 118 2 8 := ⟨RX2, TX2, tyX2, cls2, Nat.le_of_ble_eq_true rfl, Or.inr ⟨"BoreDesk", nest_mem (tb_at1 144 rfl) rfl⟩⟩
theorem fl_RX1_9 : FL RX1 9 1 0 := ⟨RX1, TX1, tyX1, cls1, Nat.le_of_ble_eq_true rfl, Or.inl (ok_mem (tb_at1 83 rfl) (by decide +kernel))⟩
theorem fl_RX1_15 : FL RX1 15 1 1 := ⟨RX1, TX1, tyX1, cls1, Nat.le_of_ble_eq_true rfl, Or.inl (ok_mem (tb_at1 84 rfl) (by decide +kernel))⟩
theorem fl_RX1_19 : FL RX1 19 1 2 := ⟨RX1, TX1, tyX1, cls1, Nat.le_of_ble_eq_true rfl, Or.inl (ok_mem (tb_at1 85 rfl) (by decide +kernel))⟩
theorem fl_RX1_60 : FL RX1 60 2 0 := ⟨RX2, TX2, tyX2, cls2, Nat.le_of_ble_eq_true rfl, Or.inr ⟨"BoreDesk", nest_mem (tb_at1 122 rfl) rfl⟩⟩
theorem fl_RX1_102 : FL RX1 102 2 4 := ⟨RX2, TX2, tyX2, cls2, Nat.le_of_ble_eq_true rfl, Or.inr ⟨"BoreDesk", nest_mem (tb_at1 131 rfl) rfl⟩⟩
theorem fl_RX1_125 : FL RX1 125 2 11 := ⟨RX2, TX2, tyX2, cls2, Nat.le_of_ble_eq_true rfl, Or.inr ⟨"BoreDesk", nest_mem (tb_at1 155 rfl) rfl⟩⟩
theorem fl_RX1_138 : FL RX1 138 2 13 := ⟨RX2, TX2, tyX2, cls2, Nat.le_of_ble_eq_true rfl, Or.inr ⟨"BoreDesk", nest_mem (tb_at1 159 rfl) rfl⟩⟩
theorem fl_RX2_9 : FL RX2 9 2 0 := ⟨RX2, TX2, tyX2, cls2, Nat.le_of_ble_eq_true rfl, Or.inl (ok_mem (tb_at1 121 rfl) (by decide +kernel))⟩
theorem fl_RX2_15 : FL RX2 15 2 1 := ⟨RX2, TX2, tyX2, cls2, Nat.le_of_ble_eq_true rfl, Or.inl (ok_mem (tb_at1 124 rfl) (by decide +kernel))⟩
theorem fl_RX2_19 : FL RX2 19 2 2 := ⟨RX2, TX2, tyX2, cls2, Nat.le_of_ble_eq_true rfl, Or.inl (ok_mem (tb_at1 125 rfl) (by decide +kernel))⟩
theorem fl_RX2_23 : FL RX2 23 2 3 := ⟨RX2, TX2, tyX2, cls2, Nat.le_of_ble_eq_true rfl, Or.inl (ok_mem (tb_at1 128 rfl) (by decide +kernel))⟩
theorem fl_RX2_26 : FL RX2 26 2 4 := ⟨RX2, TX2, tyX2, cls2, Nat.le_of_ble_eq_true rfl, Or.inl (ok_mem (tb_at1 129 rfl) (by decide +kernel))⟩
theorem fl_RX2_29 : FL RX2 29 2 5 := ⟨RX2, TX2, tyX2, cls2, Nat.le_of_ble_eq_true rfl, Or.inl (ok_mem (tb_at1 134 rfl) (by decide +kernel))⟩
theorem fl_RX2_32 : FL RX2 32 2 6 := ⟨RX2, TX2, tyX2, cls2, Nat.le_of_ble_eq_true rfl, Or.inl (ok_mem (tb_at1 135 rfl) (by decide +kernel))⟩
theorem fl_RX2_35 : FL RX2 35 2 7 := ⟨RX2, TX2, tyX2, cls2, Nat.le_of_ble_eq_true rfl, Or.inl (ok_mem (tb_at1 138 rfl) (by decide +kernel))⟩
theorem fl_RX2_38 : FL RX2 38 2 8 := ⟨RX2, TX2, tyX2, cls2, Nat.le_of_ble_eq_true rfl, Or.inl (ok_mem (tb_at1 141 rfl) (by decide +kernel))⟩
theorem fl_RX2_41 : FL RX2 41 2 9 := ⟨RX2, TX2, tyX2, cls2, Nat.le_of_ble_eq_true rfl, Or.inl (ok_mem (tb_at1 146 rfl) (by decide +kernel))⟩
theorem fl_RX2_44 : FL RX2 44 2 10 := ⟨RX2, TX2, tyX2, cls2, Nat.le_of_ble_eq_true rfl, Or.inl (ok_mem (tb_at1 150 rfl) (by decide +kernel))⟩
theorem fl_RX2_47 : FL RX2 47 2 11 := ⟨RX2, TX2, tyX2, cls2, Nat.le_of_ble_eq_true rfl, Or.inl (ok_mem (tb_at1 154 rfl) (by decide +kernel))⟩
theorem fl_RX2_50 : FL RX2 50 2 12 := ⟨RX2, TX2, tyX2, cls2, Nat.le_of_ble_eq_true rfl, Or.inl (ok_mem (tb_at1 157 rfl) (by decide +kernel))⟩
theorem fl_RX2_53 : FL RX2 53 2 13 := ⟨RX2, TX2, tyX2, cls2, Nat.le_of_ble_eq_true rfl, Or.inl (ok_mem (tb_at1 158 rfl) (by decide +kernel))⟩
theorem fl_RX2_56 : FL RX2 56 2 14 := ⟨RX2, TX2, tyX2, cls2, Nat.le_of_ble_eq_true rfl, Or.inl (ok_mem (tb_at1 161 rfl) (by decide +kernel))⟩
theorem fl_RX2_59 : FL RX2 59 2 15 := ⟨RX2, TX2, tyX2, cls2, Nat.le_of_ble_eq_true rfl, Or.inl (ok_mem (tb_at1 162 rfl) (by decide +kernel))⟩
theorem fl_RX2_62 : FL RX2 62 2 16 := ⟨RX2, TX2, tyX2, cls2, Nat.le_of_ble_eq_true rfl, Or.inl (ok_mem (tb_at1 163 rfl) (by decide +kernel))⟩
theorem fl_RX3_11 : FL RX3 11 3 0 := ⟨RX3, TX3, tyX3, cls3, Nat.le_of_ble_eq_true rfl, Or.inl (ok_mem (tb_at2 122 rfl) (by decide +kernel))⟩
theorem fl_RX3_21 : FL RX3 21 3 2 := ⟨RX3, TX3, tyX3, cls3, Nat.le_of_ble_eq_true rfl, Or.inl (ok_mem (tb_at2 125 rfl) (by decide +kernel))⟩
theorem fl_RX3_25 : FL RX3 25 3 3 := ⟨RX3, TX3, tyX3, cls3, Nat.le_of_ble_eq_true rfl, Or.inl (ok_mem (tb_at2 127 rfl) (by decide +kernel))⟩
theorem fl_RX3_28 : FL RX3 28 3 4 := ⟨RX3, TX3, tyX3, cls3, Nat.le_of_ble_eq_true rfl, Or.inl (ok_mem (tb_at2 129 rfl) (by decide +kernel))⟩
theorem fl_RX3_31 : FL RX3 31 3 5 := ⟨RX3, TX3, tyX3, cls3, Nat.le_of_ble_eq_true rfl, Or.inl (ok_mem (tb_at2 131 rfl) (by decide +kernel))⟩
theorem fl_RX3_34 : FL RX3 34 3 6 := ⟨RX3, TX3, tyX3, cls3, Nat.le_of_ble_eq_true rfl, Or.inl (ok_mem (tb_at2 133 rfl) (by decide +kernel))⟩
theorem fl_RX3_37 : FL RX3 37 3 7 := ⟨RX3, TX3, tyX3, cls3, Nat.le_of_ble_eq_true rfl, Or.inl (ok_mem (tb_at2 135 rfl) (by decide +kernel))⟩
theorem fl_RX3_41 : FL RX3 41 8 2 := ⟨RX8, TX8, tyX8, cls8, Nat.le_of_ble_eq_true rfl, Or.inr ⟨"BoreDesk", nest_mem (tb_at1 213 rfl) rfl⟩⟩
theorem fl_RX3_44 : FL RX3 44 8 3 := ⟨RX8, TX8, tyX8, cls8, Nat.le_of_ble_eq_true rfl, Or.inr ⟨"BoreDesk", nest_mem (tb_at1 215 rfl) rfl⟩⟩
theorem fl_RX3_55 : FL RX3 55 8 7 := ⟨RX8, TX8, tyX8, cls8, Nat.le_of_ble_eq_true rfl, Or.inr ⟨"BoreDesk", nest_mem (tb_at1 226 rfl) rfl⟩⟩
theorem fl_RX3_58 : FL RX3 58 8 4 := ⟨RX8, TX8, tyX8, cls8, Nat.le_of_ble_eq_true rfl, Or.inr ⟨"BoreDesk", nest_mem (tb_at1 217 rfl) rfl⟩⟩
theorem fl_RX3_61 : FL RX3 61 8 5 := ⟨RX8, TX8, tyX8, cls8, Nat.le_of_ble_eq_true rfl, Or.inr ⟨"BoreDesk", nest_mem (tb_at1 220 rfl) rfl⟩⟩
theorem fl_RX3_64 : FL RX3 64 8 6 := ⟨RX8, TX8, tyX8, cls8, Nat.le_of_ble_eq_true rfl, Or.inr ⟨"BoreDesk", nest_mem (tb_at1 223 rfl) rfl⟩⟩
theorem fl_RX3_93 : FL RX3 93 2 4 := ⟨RX2, TX2, tyX2, cls2, Nat.le_of_ble_eq_true rfl, Or.inr ⟨"BoreDesk", nest_mem (tb_at1 132 rfl) rfl⟩⟩
theorem fl_RX3_101 : FL RX3 101 2 16 := ⟨RX2, TX2, tyX2, cls2, Nat.le_of_ble_eq_true rfl, Or.inr ⟨"BoreDesk", nest_mem (tb_at1 164 rfl) rfl⟩⟩
theorem fl_RX4_9 : FL RX4 9 4 0 := ⟨RX4, TX4, tyX4, cls4, Nat.le_of_ble_eq_true rfl, Or.inl (ok_mem (tb_at2 104 rfl) (by decide +kernel))⟩
theorem fl_RX4_15 : FL RX4 15 4 1 := ⟨RX4, TX4, tyX4, cls4, Nat.le_of_ble_eq_true rfl, Or.inl (ok_mem (tb_at2 106 rfl) (by decide +kernel))⟩
theorem fl_RX4_19 : FL RX4 19 4 2 := ⟨RX4, TX4, tyX4, cls4, Nat.le_of_ble_eq_true rfl, Or.inl (ok_mem (tb_at2 108 rfl) (by decide +kernel))⟩
theorem fl_RX4_26 : FL RX4 26 7 0 := ⟨RX7, TX7, tyX7, cls7, Nat.le_of_ble_eq_true rfl, Or.inr ⟨"BoreDesk", nest_mem (tb_at2 159 rfl) rfl⟩⟩
theorem fl_RX4_34 : FL RX4 34 2 8 := ⟨RX2, TX2, tyX2, cls2, Nat.le_of_ble_eq_true rfl, Or.inr ⟨"BoreDesk", nest_mem (tb_at1 143 rfl) rfl⟩⟩
theorem fl_RX4_39 : FL RX4 39 2 10 := ⟨RX2, TX2, tyX2, cls2, Nat.le_of_ble_eq_true rfl, Or.inr ⟨"BoreDesk", nest_mem (tb_at1 152 rfl) rfl⟩⟩
theorem fl_RX4_46 : FL RX4 46 2 9 := ⟨RX2, TX2, tyX2, cls2, Nat.le_of_ble_eq_true rfl, Or.inr ⟨"BoreDesk", nest_mem (tb_at1 148 rfl) rfl⟩⟩
theorem fl_RX4_53 : FL RX4 53 7 2 := ⟨RX7, TX7, tyX7, cls7, Nat.le_of_ble_eq_true rfl, Or.inr ⟨"BoreDesk", nest_mem (tb_at2 164 rfl) rfl⟩⟩
theorem fl_RX5_11 : FL RX5 11 5 0 := ⟨RX5, TX5, tyX5, cls5, Nat.le_of_ble_eq_true rfl, Or.inl (ok_mem (tb_at2 13 rfl) (by decide +kernel))⟩
theorem fl_RX5_15 : FL RX5 15 5 1 := ⟨RX5, TX5, tyX5, cls5, Nat.le_of_ble_eq_true rfl, Or.inl (ok_mem (tb_at2 14 rfl) (by decide +kernel))⟩
theorem fl_RX5_18 : FL RX5 18 5 2 := ⟨RX5, TX5, tyX5, cls5, Nat.le_of_ble_eq_true rfl, Or.inl (ok_mem (tb_at2 15 rfl) (by decide +kernel))⟩
theorem fl_RX5_22 : FL RX5 22 5 3 := ⟨RX5, TX5, tyX5, cls5, Nat.le_of_ble_eq_true rfl, Or.inl (ok_mem (tb_at2 18 rfl) (by decide +kernel))⟩
theorem fl_RX5_25 : FL RX5 25 2 8 := ⟨RX2, TX2, tyX2, cls2, Nat.le_of_ble_eq_true rfl, Or.inr ⟨"BoreDesk", nest_mem (tb_at1 142 rfl) rfl⟩⟩
theorem fl_RX5_56 : FL RX5 56 2 9 := ⟨RX2, TX2, tyX2, cls2, Nat.le_of_ble_eq_true rfl, Or.inr ⟨"BoreDesk", nest_mem (tb_at1 147 rfl) rfl⟩⟩
theorem fl_RX5_62 : FL RX5 62 2 10 := ⟨RX2, TX2, tyX2, cls2, Nat.le_of_ble_eq_true rfl, Or.inr ⟨"BoreDesk", nest_mem (tb_at1 151 rfl) rfl⟩⟩
theorem fl_RX5_69 : FL RX5 69 2 2 := ⟨RX2, TX2, tyX2, cls2, Nat.le_of_ble_eq_true rfl, Or.inr ⟨"BoreDesk", nest_mem (tb_at1 126 rfl) rfl⟩⟩
theorem fl_RX6_9 : FL RX6 9 6 0 := ⟨RX6, TX6, tyX6, cls6, Nat.le_of_ble_eq_true rfl, Or.inl (ok_mem (tb_at1 36 rfl) (by decide +kernel))⟩
theorem fl_RX6_15 : FL RX6 15 6 1 := ⟨RX6, TX6, tyX6, cls6, Nat.le_of_ble_eq_true rfl, Or.inl (ok_mem (tb_at1 37 rfl) (by decide +kernel))⟩
theorem fl_RX6_19 : FL RX6 19 6 2 := ⟨RX6, TX6, tyX6, cls6, Nat.le_of_ble_eq_true rfl, Or.inl (ok_mem (tb_at1 39 rfl) (by decide +kernel))⟩
theorem fl_RX6_23 : FL RX6 23 6 3 := ⟨RX6, TX6, tyX6, cls6, Nat.le_of_ble_eq_true rfl, Or.inl (ok_mem (tb_at1 40 rfl) (by decide +kernel))⟩
theorem fl_RX6_26 : FL RX6 26 6 4 := ⟨RX6, TX6, tyX6, cls6, Nat.le_of_ble_eq_true rfl, Or.inl (ok_mem (tb_at1 41 rfl) (by decide +kernel))⟩
theorem fl_RX6_29 : FL RX6 29 6 5 := ⟨RX6, TX6, tyX6, cls6, Nat.le_of_ble_eq_true rfl, Or.inl (ok_mem (tb_at1 42 rfl) (by decide +kernel))⟩
theorem fl_RX6_33 : FL RX6 33 6 6 := ⟨RX6, TX6, tyX6, cls6, Nat.le_of_ble_eq_true rfl, Or.inl (ok_mem (tb_at1 43 rfl) (by decide +kernel))⟩
theorem fl_RX6_36 : FL RX6 36 6 7 := ⟨RX6, TX6, tyX6, cls6, Nat.le_of_ble_eq_true rfl, Or.inl (ok_mem (tb_at1 44 rfl) (by decide +kernel))⟩
theorem fl_RX7_9 : FL RX7 9 7 0 := ⟨RX7, TX7, tyX7, cls7, Nat.le_of_ble_eq_true rfl, Or.inl (ok_mem (tb_at2 158 rfl) (by decide +kernel))⟩
theorem fl_RX7_15 : FL RX7 15 7 1 := ⟨RX7, TX7, tyX7, cls7, Nat.le_of_ble_eq_true rfl, Or.inl (ok_mem (tb_at2 161 rfl) (by decide +kernel))⟩
theorem fl_RX7_19 : FL RX7 19 7 2 := ⟨RX7, TX7, tyX7, cls7, Nat.le_of_ble_eq_true rfl, Or.inl (ok_mem (tb_at2 163 rfl) (by decide +kernel))⟩
theorem fl_RX8_11 : FL RX8 11 8 0 := ⟨RX8, TX8, tyX8, cls8, Nat.le_of_ble_eq_true rfl, Or.inl (ok_mem (tb_at1 207 rfl) (by decide +kernel))⟩
theorem fl_RX8_15 : FL RX8 15 8 1 := ⟨RX8, TX8, tyX8, cls8, Nat.le_of_ble_eq_true rfl, Or.inl (ok_mem (tb_at1 210 rfl) (by decide +kernel))⟩
theorem fl_RX8_19 : FL RX8 19 8 2 := ⟨RX8, TX8, tyX8, cls8, Nat.le_of_ble_eq_true rfl, Or.inl (ok_mem (tb_at1 212 rfl) (by decide +kernel))⟩
theorem fl_RX8_22 : FL RX8 22 8 3 := ⟨RX8, TX8, tyX8, cls8, Nat.le_of_ble_eq_true rfl, Or.inl (ok_mem (tb_at1 214 rfl) (by decide +kernel))⟩
theorem fl_RX8_26 : FL RX8 26 8 4 := ⟨RX8, TX8, tyX8, cls8, Nat.le_of_ble_eq_true rfl, Or.inl (ok_mem (tb_at1 216 rfl) (by decide +kernel))⟩
theorem fl_RX8_29 : FL RX8 29 8 5 := ⟨RX8, TX8, tyX8, cls8, Nat.le_of_ble_eq_true rfl, Or.inl (ok_mem (tb_at1 219 rfl) (by decide +kernel))⟩
theorem fl_RX8_32 : FL RX8 32 8 6 := ⟨RX8, TX8, tyX8, cls8, Nat.le_of_ble_eq_true rfl, Or.inl (ok_mem (tb_at1 222 rfl) (by decide +kernel))⟩
theorem fl_RX8_35 : FL RX8 35 8 7 := ⟨RX8, TX8, tyX8, cls8, Nat.le_of_ble_eq_true rfl, Or.inl (ok_mem (tb_at1 225 rfl) (by decide +kernel))⟩
theorem fl_RX9_11 : FL RX9 11 9 0 := ⟨RX9, TX9, tyX9, cls9, Nat.le_of_ble_eq_true rfl, Or.inl (ok_mem (tb_at1 99 rfl) (by decide +kernel))⟩
theorem fl_RX9_15 : FL RX9 15 9 1 := ⟨RX9, TX9, tyX9, cls9, Nat.le_of_ble_eq_true rfl, Or.inl (ok_mem (tb_at1 100 rfl) (by decide +kernel))⟩
theorem fl_RX9_19 : FL RX9 19 9 2 := ⟨RX9, TX9, tyX9, cls9, Nat.le_of_ble_eq_true rfl, Or.inl (ok_mem (tb_at1 101 rfl) (by decide +kernel))⟩
theorem fl_RX9_23 : FL RX9 23 9 3 := ⟨RX9, TX9, tyX9, cls9, Nat.le_of_ble_eq_true rfl, Or.inl (ok_mem (tb_at1 102 rfl) (by decide +kernel))⟩
theorem fl_RX9_27 : FL RX9 27 9 4 := ⟨RX9, TX9, tyX9, cls9, Nat.le_of_ble_eq_true rfl, Or.inl (ok_mem (tb_at1 103 rfl) (by decide +kernel))⟩
theorem fl_RX9_80 : FL RX9 80 8 7 := ⟨RX8, TX8, tyX8, cls8, Nat.le_of_ble_eq_true rfl, Or.inr ⟨"BoreDesk", nest_mem (tb_at1 227 rfl) rfl⟩⟩
theorem fl_RX9_99 : FL RX9 99 8 4 := ⟨RX8, TX8, tyX8, cls8, Nat.le_of_ble_eq_true rfl, Or.inr ⟨"BoreDesk", nest_mem (tb_at1 218 rfl) rfl⟩⟩
theorem fl_RX9_115 : FL RX9 115 8 5 := ⟨RX8, TX8, tyX8, cls8, Nat.le_of_ble_eq_true rfl, Or.inr ⟨"BoreDesk", nest_mem (tb_at1 221 rfl) rfl⟩⟩
theorem fl_RX9_127 : FL RX9 127 8 6 := ⟨RX8, TX8, tyX8, cls8, Nat.le_of_ble_eq_true rfl, Or.inr ⟨"BoreDesk", nest_mem (tb_at1 224 rfl) rfl⟩⟩
theorem fl_RX11_7 : FL RX11 7 11 0 := ⟨RX11, TX11, tyX11, cls11, Nat.le_of_ble_eq_true rfl, Or.inl (ok_mem (tb_at7 9 rfl) (by decide +kernel))⟩
theorem fl_RX11_13 : FL RX11 13 11 1 := ⟨RX11, TX11, tyX11, cls11, Nat.le_of_ble_eq_true rfl, Or.inl (ok_mem (tb_at7 10 rfl) (by decide +kernel))⟩
theorem fl_RX11_17 : FL RX11 17 11 4 := ⟨RX11, TX11, tyX11, cls11, Nat.le_of_ble_eq_true rfl, Or.inl (ok_mem (tb_at7 13 rfl) (by decide +kernel))⟩
theorem fl_RX11_21 : FL RX11 21 11 5 := ⟨RX11, TX11, tyX11, cls11, Nat.le_of_ble_eq_true rfl, Or.inl (ok_mem (tb_at7 14 rfl) (by decide +kernel))⟩
theorem fl_RX11_24 : FL RX11 24 11 6 := ⟨RX11, TX11, tyX11, cls11, Nat.le_of_ble_eq_true rfl, Or.inl (ok_mem (tb_at7 15 rfl) (by decide +kernel))⟩
theorem fl_RX11_27 : FL RX11 27 11 7 := ⟨RX11, TX11, tyX11, cls11, Nat.le_of_ble_eq_true rfl, Or.inl (ok_mem (tb_at7 16 rfl) (by decide +kernel))⟩
theorem fl_RX11_30 : FL RX11 30 11 8 := ⟨RX11, TX11, tyX11, cls11, Nat.le_of_ble_eq_true rfl, Or.inl (ok_mem (tb_at7 17 rfl) (by decide +kernel))⟩
theorem fl_RX11_34 : FL RX11 34 11 9 := ⟨RX11, TX11, tyX11, cls11, Nat.le_of_ble_eq_true rfl, Or.inl (ok_mem (tb_at7 18 rfl) (by decide +kernel))⟩
theorem fl_RX11_37 : FL RX11 37 11 16 := ⟨RX11, TX11, tyX11, cls11, Nat.le_of_ble_eq_true rfl, Or.inl (ok_mem (tb_at7 25 rfl) (by decide +kernel))⟩
theorem fl_RX11_41 : FL RX11 41 11 17 := ⟨RX11, TX11, tyX11, cls11, Nat.le_of_ble_eq_true rfl, Or.inl (ok_mem (tb_at7 26 rfl) (by decide +kernel))⟩
theorem fl_RX11_44 : FL RX11 44 11 20 := ⟨RX11, TX11, tyX11, cls11, Nat.le_of_ble_eq_true rfl, Or.inl (ok_mem (tb_at7 29 rfl) (by decide +kernel))⟩
theorem fl_RX11_47 : FL RX11 47 11 23 := ⟨RX11, TX11, tyX11, cls11, Nat.le_of_ble_eq_true rfl, Or.inl (ok_mem (tb_at7 32 rfl) (by decide +kernel))⟩
theorem fl_RX11_50 : FL RX11 50 11 24 := ⟨RX11, TX11, tyX11, cls11, Nat.le_of_ble_eq_true rfl, Or.inl (ok_mem (tb_at7 33 rfl) (by decide +kernel))⟩
theorem fl_RX11_53 : FL RX11 53 11 25 := ⟨RX11, TX11, tyX11, cls11, Nat.le_of_ble_eq_true rfl, Or.inl (ok_mem (tb_at7 34 rfl) (by decide +kernel))⟩
theorem fl_RX11_56 : FL RX11 56 11 26 := ⟨RX11, TX11, tyX11, cls11, Nat.le_of_ble_eq_true rfl, Or.inl (ok_mem (tb_at7 35 rfl) (by decide +kernel))⟩
theorem fl_RX11_59 : FL RX11 59 11 27 := ⟨RX11, TX11, tyX11, cls11, Nat.le_of_ble_eq_true rfl, Or.inl (ok_mem (tb_at7 36 rfl) (by decide +kernel))⟩
theorem fl_RX11_62 : FL RX11 62 11 28 := ⟨RX11, TX11, tyX11, cls11, Nat.le_of_ble_eq_true rfl, Or.inl (ok_mem (tb_at7 37 rfl) (by decide +kernel))⟩
theorem fl_RX11_65 : FL RX11 65 11 29 := ⟨RX11, TX11, tyX11, cls11, Nat.le_of_ble_eq_true rfl, Or.inl (ok_mem (tb_at7 38 rfl) (by decide +kernel))⟩
theorem fl_RX11_68 : FL RX11 68 11 31 := ⟨RX11, TX11, tyX11, cls11, Nat.le_of_ble_eq_true rfl, Or.inl (ok_mem (tb_at7 40 rfl) (by decide +kernel))⟩
theorem fl_RX11_71 : FL RX11 71 11 33 := ⟨RX11, TX11, tyX11, cls11, Nat.le_of_ble_eq_true rfl, Or.inl (ok_mem (tb_at7 42 rfl) (by decide +kernel))⟩
theorem fl_RX11_75 : FL RX11 75 11 34 := ⟨RX11, TX11, tyX11, cls11, Nat.le_of_ble_eq_true rfl, Or.inl (ok_mem (tb_at7 43 rfl) (by decide +kernel))⟩
theorem fl_RX11_78 : FL RX11 78 11 35 := ⟨RX11, TX11, tyX11, cls11, Nat.le_of_ble_eq_true rfl, Or.inl (ok_mem (tb_at7 44 rfl) (by decide +kernel))⟩
theorem fl_RX11_81 : FL RX11 81 11 36 := ⟨RX11, TX11, tyX11, cls11, Nat.le_of_ble_eq_true rfl, Or.inl (ok_mem (tb_at7 45 rfl) (by decide +kernel))⟩
theorem fl_RX11_84 : FL RX11 84 11 37 := ⟨RX11, TX11, tyX11, cls11, Nat.le_of_ble_eq_true rfl, Or.inl (ok_mem (tb_at7 46 rfl) (by decide +kernel))⟩
theorem fl_RX11_87 : FL RX11 87 11 41 := ⟨RX11, TX11, tyX11, cls11, Nat.le_of_ble_eq_true rfl, Or.inl (ok_mem (tb_at7 50 rfl) (by decide +kernel))⟩
theorem fl_RX11_90 : FL RX11 90 11 42 := ⟨RX11, TX11, tyX11, cls11, Nat.le_of_ble_eq_true rfl, Or.inl (ok_mem (tb_at7 51 rfl) (by decide +kernel))⟩
theorem fl_RX11_93 : FL RX11 93 11 43 := ⟨RX11, TX11, tyX11, cls11, Nat.le_of_ble_eq_true rfl, Or.inl (ok_mem (tb_at7 52 rfl) (by decide +kernel))⟩
theorem fl_RX11_96 : FL RX11 96 11 2 := ⟨RX11, TX11, tyX11, cls11, Nat.le_of_ble_eq_true rfl, Or.inl (ok_mem (tb_at7 11 rfl) (by decide +kernel))⟩
theorem fl_RX11_99 : FL RX11 99 11 3 := ⟨RX11, TX11, tyX11, cls11, Nat.le_of_ble_eq_true rfl, Or.inl (ok_mem (tb_at7 12 rfl) (by decide +kernel))⟩
theorem fl_RX11_126 : FL RX11 126 11 10 := ⟨RX11, TX11, tyX11, cls11, Nat.le_of_ble_eq_true rfl, Or.inl (ok_mem (tb_at7 19 rfl) (by decide +kernel))⟩
theorem fl_RX11_133 : FL RX11 133 11 11 := ⟨RX11, TX11, tyX11, cls11, Nat.le_of_ble_eq_true rfl, Or.inl (ok_mem (tb_at7 20 rfl) (by decide +kernel))⟩
theorem fl_RX11_136 : FL RX11 136 11 14 := ⟨RX11, TX11, tyX11, cls11, Nat.le_of_ble_eq_true rfl, Or.inl (ok_mem (tb_at7 23 rfl) (by decide +kernel))⟩
theorem fl_RX11_142 : FL RX11 142 11 13 := ⟨RX11, TX11, tyX11, cls11, Nat.le_of_ble_eq_true rfl, Or.inl (ok_mem (tb_at7 22 rfl) (by decide +kernel))⟩
theorem fl_RX11_145 : FL RX11 145 11 15 := ⟨RX11, TX11, tyX11, cls11, Nat.le_of_ble_eq_true rfl, Or.inl (ok_mem (tb_at7 24 rfl) (by decide +kernel))⟩
theorem fl_RX11_148 : FL RX11 148 11 12 := ⟨RX11, TX11, tyX11, cls11, Nat.le_of_ble_eq_true rfl, Or.inl (ok_mem (tb_at7 21 rfl) (by decide +kernel))⟩
theorem fl_RX11_173 : FL RX11 173 11 18 := ⟨RX11, TX11, tyX11, cls11, Nat.le_of_ble_eq_true rfl, Or.inl (ok_mem (tb_at7 27 rfl) (by decide +kernel))⟩
theorem fl_RX11_268 : FL RX11 268 11 21 := ⟨RX11, TX11, tyX11, cls11, Nat.le_of_ble_eq_true rfl, Or.inl (ok_mem (tb_at7 30 rfl) (by decide +kernel))⟩
theorem fl_RX11_271 : FL RX11 271 11 22 := ⟨RX11, TX11, tyX11, cls11, Nat.le_of_ble_eq_true rfl, Or.inl (ok_mem (tb_at7 31 rfl) (by decide +kernel))⟩
theorem fl_RX11_336 : FL RX11 336 11 30 := ⟨RX11, TX11, tyX11, cls11, Nat.le_of_ble_eq_true rfl, Or.inl (ok_mem (tb_at7 39 rfl) (by decide +kernel))⟩
theorem fl_RX11_345 : FL RX11 345 11 32 := ⟨RX11, TX11, tyX11, cls11, Nat.le_of_ble_eq_true rfl, Or.inl (ok_mem (tb_at7 41 rfl) (by decide +kernel))⟩
theorem fl_RX11_426 : FL RX11 426 11 38 := ⟨RX11, TX11, tyX11, cls11, Nat.le_of_ble_eq_true rfl, Or.inl (ok_mem (tb_at7 47 rfl) (by decide +kernel))⟩
theorem fl_RX11_452 : FL RX11 452 11 39 := ⟨RX11, TX11, tyX11, cls11, Nat.le_of_ble_eq_true rfl, Or.inl (ok_mem (tb_at7 48 rfl) (by decide +kernel))⟩
theorem fl_RX11_462 : FL RX11 462 11 40 := ⟨RX11, TX11, tyX11, cls11, Nat.le_of_ble_eq_true rfl, Or.inl (ok_mem (tb_at7 49 rfl) (by decide +kernel))⟩
theorem fl_RX11_479 : FL RX11 479 11 44 := ⟨RX11, TX11, tyX11, cls11, Nat.le_of_ble_eq_true rfl, Or.inl (ok_mem (tb_at7 53 rfl) (by decide +kernel))⟩
theorem fl_RX11_485 : FL RX11 485 11 45 := ⟨RX11, TX11, tyX11, cls11, Nat.le_of_ble_eq_true rfl, Or.inl (ok_mem (tb_at7 54 rfl) (by decide +kernel))⟩
theorem fp_RX10_9 : FP RX10 9 10 0 .int := ⟨RX10, TX10, tyX10, cls10, Nat.le_of_ble_eq_true rfl, rfl, rfl, Or.inl (ok_mem (tb_at2 172 rfl) (by decide +kernel))⟩
theorem fp_RX10_13 : FP RX10 13 10 1 .long := ⟨RX10, TX10, tyX10, cls10, Nat.le_of_ble_eq_true rfl, rfl, rfl, Or.inl (ok_mem (tb_at2 173 rfl) (by decide +kernel))⟩
theorem fp_RX10_17 : FP RX10 17 10 2 .long := ⟨RX10, TX10, tyX10, cls10, Nat.le_of_ble_eq_true rfl, rfl, rfl, Or.inl (ok_mem (tb_at2 174 rfl) (by decide +kernel))⟩
theorem fp_RX10_50 : FP RX10 50 10 7 (.object "BoreDesk$Ground") := ⟨RX10, TX10, tyX10, cls10, Nat.le_of_ble_eq_true rfl, rfl, rfl, Or.inl (ok_mem (tb_at2 179 rfl) (by decide +kernel))⟩
theorem fp_RX10_54 : FP RX10 54 10 8 (.object "BoreDesk$Ground") := ⟨RX10, TX10, tyX10, cls10, Nat.le_of_ble_eq_true rfl, rfl, rfl, Or.inl (ok_mem (tb_at2 180 rfl) (by decide +kernel))⟩
theorem fp_RX10_60 : FP RX10 60 10 9 (.object "BoreDesk$Years") := ⟨RX10, TX10, tyX10, cls10, Nat.le_of_ble_eq_true rfl, rfl, rfl, Or.inl (ok_mem (tb_at2 181 rfl) (by decide +kernel))⟩
theorem fp_RX10_64 : FP RX10 64 10 10 (.object "BoreDesk$Years") := ⟨RX10, TX10, tyX10, cls10, Nat.le_of_ble_eq_true rfl, rfl, rfl, Or.inl (ok_mem (tb_at2 182 rfl) (by decide +kernel))⟩
theorem fp_RX10_75 : FP RX10 75 10 13 .int := ⟨RX10, TX10, tyX10, cls10, Nat.le_of_ble_eq_true rfl, rfl, rfl, Or.inl (ok_mem (tb_at2 185 rfl) (by decide +kernel))⟩
theorem fp_RX0_18 : FP RX0 18 0 1 .boolean := ⟨RX0, TX0, tyX0, cls0, Nat.le_of_ble_eq_true rfl, rfl, rfl, Or.inl (ok_mem (tb_at2 38 rfl) (by decide +kernel))⟩
theorem fp_RX0_22 : FP RX0 22 0 2 .int := ⟨RX0, TX0, tyX0, cls0, Nat.le_of_ble_eq_true rfl, rfl, rfl, Or.inl (ok_mem (tb_at2 39 rfl) (by decide +kernel))⟩
theorem fp_RX0_36 : FP RX0 36 0 6 .int := ⟨RX0, TX0, tyX0, cls0, Nat.le_of_ble_eq_true rfl, rfl, rfl, Or.inl (ok_mem (tb_at2 47 rfl) (by decide +kernel))⟩
theorem fp_RX0_39 : FP RX0 39 0 7 .int := ⟨RX0, TX0, tyX0, cls0, Nat.le_of_ble_eq_true rfl, rfl, rfl, Or.inl (ok_mem (tb_at2 49 rfl) (by decide +kernel))⟩
theorem fp_RX0_57 : FP RX0 57 0 13 .boolean := ⟨RX0, TX0, tyX0, cls0, Nat.le_of_ble_eq_true rfl, rfl, rfl, Or.inl (ok_mem (tb_at2 57 rfl) (by decide +kernel))⟩
theorem fp_RX0_60 : FP RX0 60 0 14 .boolean := ⟨RX0, TX0, tyX0, cls0, Nat.le_of_ble_eq_true rfl, rfl, rfl, Or.inl (ok_mem (tb_at2 58 rfl) (by decide +kernel))⟩
theorem fp_RX1_15 : FP RX1 15 1 1 (.object "BoreDesk$Reader") := ⟨RX1, TX1, tyX1, cls1, Nat.le_of_ble_eq_true rfl, rfl, rfl, Or.inl (ok_mem (tb_at1 84 rfl) (by decide +kernel))⟩
theorem fp_RX1_19 : FP RX1 19 1 2 (.object "BoreDesk$Ground") := ⟨RX1, TX1, tyX1, cls1, Nat.le_of_ble_eq_true rfl, rfl, rfl, Or.inl (ok_mem (tb_at1 85 rfl) (by decide +kernel))⟩
theorem fp_RX2_9 : FP RX2 9 2 0 .int := ⟨RX2, TX2, tyX2, cls2, Nat.le_of_ble_eq_true rfl, rfl, rfl, Or.inl (ok_mem (tb_at1 121 rfl) (by decide +kernel))⟩
theorem fp_RX2_26 : FP RX2 26 2 4 .int := ⟨RX2, TX2, tyX2, cls2, Nat.le_of_ble_eq_true rfl, rfl, rfl, Or.inl (ok_mem (tb_at1 129 rfl) (by decide +kernel))⟩
theorem fp_RX2_47 : FP RX2 47 2 11 .int := ⟨RX2, TX2, tyX2, cls2, Nat.le_of_ble_eq_true rfl, rfl, rfl, Or.inl (ok_mem (tb_at1 154 rfl) (by decide +kernel))⟩
theorem fp_RX2_53 : FP RX2 53 2 13 .int := ⟨RX2, TX2, tyX2, cls2, Nat.le_of_ble_eq_true rfl, rfl, rfl, Or.inl (ok_mem (tb_at1 158 rfl) (by decide +kernel))⟩
theorem fp_RX3_17 : FP RX3 17 3 1 .boolean := ⟨RX3, TX3, tyX3, cls3, Nat.le_of_ble_eq_true rfl, rfl, rfl, Or.inl (ok_mem (tb_at2 123 rfl) (by decide +kernel))⟩
theorem fp_RX3_21 : FP RX3 21 3 2 .int := ⟨RX3, TX3, tyX3, cls3, Nat.le_of_ble_eq_true rfl, rfl, rfl, Or.inl (ok_mem (tb_at2 125 rfl) (by decide +kernel))⟩
theorem fp_RX3_25 : FP RX3 25 3 3 .int := ⟨RX3, TX3, tyX3, cls3, Nat.le_of_ble_eq_true rfl, rfl, rfl, Or.inl (ok_mem (tb_at2 127 rfl) (by decide +kernel))⟩
theorem fp_RX3_28 : FP RX3 28 3 4 .int := ⟨RX3, TX3, tyX3, cls3, Nat.le_of_ble_eq_true rfl, rfl, rfl, Or.inl (ok_mem (tb_at2 129 rfl) (by decide +kernel))⟩
theorem fp_RX3_31 : FP RX3 31 3 5 .int := ⟨RX3, TX3, tyX3, cls3, Nat.le_of_ble_eq_true rfl, rfl, rfl, Or.inl (ok_mem (tb_at2 131 rfl) (by decide +kernel))⟩
theorem fp_RX3_34 : FP RX3 34 3 6 .boolean := ⟨RX3, TX3, tyX3, cls3, Nat.le_of_ble_eq_true rfl, rfl, rfl, Or.inl (ok_mem (tb_at2 133 rfl) (by decide +kernel))⟩
theorem fp_RX3_37 : FP RX3 37 3 7 .int := ⟨RX3, TX3, tyX3, cls3, Nat.le_of_ble_eq_true rfl, rfl, rfl, Or.inl (ok_mem (tb_at2 135 rfl) (by decide +kernel))⟩
theorem fp_RX4_15 : FP RX4 15 4 1 .int := ⟨RX4, TX4, tyX4, cls4, Nat.le_of_ble_eq_true rfl, rfl, rfl, Or.inl (ok_mem (tb_at2 106 rfl) (by decide +kernel))⟩
theorem fp_RX5_18 : FP RX5 18 5 2 .int := ⟨RX5, TX5, tyX5, cls5, Nat.le_of_ble_eq_true rfl, rfl, rfl, Or.inl (ok_mem (tb_at2 15 rfl) (by decide +kernel))⟩
theorem fp_RX5_22 : FP RX5 22 5 3 .int := ⟨RX5, TX5, tyX5, cls5, Nat.le_of_ble_eq_true rfl, rfl, rfl, Or.inl (ok_mem (tb_at2 18 rfl) (by decide +kernel))⟩
theorem fp_RX6_15 : FP RX6 15 6 1 .int := ⟨RX6, TX6, tyX6, cls6, Nat.le_of_ble_eq_true rfl, rfl, rfl, Or.inl (ok_mem (tb_at1 37 rfl) (by decide +kernel))⟩
theorem fp_RX6_33 : FP RX6 33 6 6 .int := ⟨RX6, TX6, tyX6, cls6, Nat.le_of_ble_eq_true rfl, rfl, rfl, Or.inl (ok_mem (tb_at1 43 rfl) (by decide +kernel))⟩
theorem fp_RX6_36 : FP RX6 36 6 7 .int := ⟨RX6, TX6, tyX6, cls6, Nat.le_of_ble_eq_true rfl, rfl, rfl, Or.inl (ok_mem (tb_at1 44 rfl) (by decide +kernel))⟩
theorem fp_RX6_39 : FP RX6 39 6 8 .boolean := ⟨RX6, TX6, tyX6, cls6, Nat.le_of_ble_eq_true rfl, rfl, rfl, Or.inl (ok_mem (tb_at1 45 rfl) (by decide +kernel))⟩
theorem fp_RX6_43 : FP RX6 43 6 9 .int := ⟨RX6, TX6, tyX6, cls6, Nat.le_of_ble_eq_true rfl, rfl, rfl, Or.inl (ok_mem (tb_at1 47 rfl) (by decide +kernel))⟩
theorem fp_RX6_46 : FP RX6 46 6 10 .int := ⟨RX6, TX6, tyX6, cls6, Nat.le_of_ble_eq_true rfl, rfl, rfl, Or.inl (ok_mem (tb_at1 49 rfl) (by decide +kernel))⟩
theorem fp_RX7_15 : FP RX7 15 7 1 .int := ⟨RX7, TX7, tyX7, cls7, Nat.le_of_ble_eq_true rfl, rfl, rfl, Or.inl (ok_mem (tb_at2 161 rfl) (by decide +kernel))⟩
theorem fp_RX7_19 : FP RX7 19 7 2 .int := ⟨RX7, TX7, tyX7, cls7, Nat.le_of_ble_eq_true rfl, rfl, rfl, Or.inl (ok_mem (tb_at2 163 rfl) (by decide +kernel))⟩
theorem fp_RX8_11 : FP RX8 11 8 0 .boolean := ⟨RX8, TX8, tyX8, cls8, Nat.le_of_ble_eq_true rfl, rfl, rfl, Or.inl (ok_mem (tb_at1 207 rfl) (by decide +kernel))⟩
theorem fp_RX8_15 : FP RX8 15 8 1 .int := ⟨RX8, TX8, tyX8, cls8, Nat.le_of_ble_eq_true rfl, rfl, rfl, Or.inl (ok_mem (tb_at1 210 rfl) (by decide +kernel))⟩
theorem fp_RX8_19 : FP RX8 19 8 2 .int := ⟨RX8, TX8, tyX8, cls8, Nat.le_of_ble_eq_true rfl, rfl, rfl, Or.inl (ok_mem (tb_at1 212 rfl) (by decide +kernel))⟩
theorem fp_RX9_15 : FP RX9 15 9 1 .int := ⟨RX9, TX9, tyX9, cls9, Nat.le_of_ble_eq_true rfl, rfl, rfl, Or.inl (ok_mem (tb_at1 100 rfl) (by decide +kernel))⟩
theorem fp_RX9_19 : FP RX9 19 9 2 (.object "BoreDesk$Reader") := ⟨RX9, TX9, tyX9, cls9, Nat.le_of_ble_eq_true rfl, rfl, rfl, Or.inl (ok_mem (tb_at1 101 rfl) (by decide +kernel))⟩
theorem fp_RX9_23 : FP RX9 23 9 3 (.object "BoreDesk$Ground") := ⟨RX9, TX9, tyX9, cls9, Nat.le_of_ble_eq_true rfl, rfl, rfl, Or.inl (ok_mem (tb_at1 102 rfl) (by decide +kernel))⟩
theorem fp_RX9_27 : FP RX9 27 9 4 (.object "BoreDesk$Years") := ⟨RX9, TX9, tyX9, cls9, Nat.le_of_ble_eq_true rfl, rfl, rfl, Or.inl (ok_mem (tb_at1 103 rfl) (by decide +kernel))⟩
theorem fp_RX9_49 : FP RX9 49 8 0 .boolean := ⟨RX8, TX8, tyX8, cls8, Nat.le_of_ble_eq_true rfl, rfl, rfl, Or.inr ⟨"BoreDesk", nest_mem (tb_at1 208 rfl) rfl⟩⟩
theorem fp_RX11_17 : FP RX11 17 11 4 .long := ⟨RX11, TX11, tyX11, cls11, Nat.le_of_ble_eq_true rfl, rfl, rfl, Or.inl (ok_mem (tb_at7 13 rfl) (by decide +kernel))⟩
theorem fp_RX11_37 : FP RX11 37 11 16 .int := ⟨RX11, TX11, tyX11, cls11, Nat.le_of_ble_eq_true rfl, rfl, rfl, Or.inl (ok_mem (tb_at7 25 rfl) (by decide +kernel))⟩
theorem fp_RX11_41 : FP RX11 41 11 17 .int := ⟨RX11, TX11, tyX11, cls11, Nat.le_of_ble_eq_true rfl, rfl, rfl, Or.inl (ok_mem (tb_at7 26 rfl) (by decide +kernel))⟩
theorem fp_RX11_56 : FP RX11 56 11 26 .int := ⟨RX11, TX11, tyX11, cls11, Nat.le_of_ble_eq_true rfl, rfl, rfl, Or.inl (ok_mem (tb_at7 35 rfl) (by decide +kernel))⟩
theorem fp_RX11_96 : FP RX11 96 11 2 .int := ⟨RX11, TX11, tyX11, cls11, Nat.le_of_ble_eq_true rfl, rfl, rfl, Or.inl (ok_mem (tb_at7 11 rfl) (by decide +kernel))⟩
theorem fp_RX11_99 : FP RX11 99 11 3 .long := ⟨RX11, TX11, tyX11, cls11, Nat.le_of_ble_eq_true rfl, rfl, rfl, Or.inl (ok_mem (tb_at7 12 rfl) (by decide +kernel))⟩
theorem fp_RX11_126 : FP RX11 126 11 10 .int := ⟨RX11, TX11, tyX11, cls11, Nat.le_of_ble_eq_true rfl, rfl, rfl, Or.inl (ok_mem (tb_at7 19 rfl) (by decide +kernel))⟩
theorem fp_RX11_133 : FP RX11 133 11 11 .int := ⟨RX11, TX11, tyX11, cls11, Nat.le_of_ble_eq_true rfl, rfl, rfl, Or.inl (ok_mem (tb_at7 20 rfl) (by decide +kernel))⟩
theorem fp_RX11_136 : FP RX11 136 11 14 .int := ⟨RX11, TX11, tyX11, cls11, Nat.le_of_ble_eq_true rfl, rfl, rfl, Or.inl (ok_mem (tb_at7 23 rfl) (by decide +kernel))⟩
theorem fp_RX11_142 : FP RX11 142 11 13 .int := ⟨RX11, TX11, tyX11, cls11, Nat.le_of_ble_eq_true rfl, rfl, rfl, Or.inl (ok_mem (tb_at7 22 rfl) (by decide +kernel))⟩
theorem fp_RX11_145 : FP RX11 145 11 15 .int := ⟨RX11, TX11, tyX11, cls11, Nat.le_of_ble_eq_true rfl, rfl, rfl, Or.inl (ok_mem (tb_at7 24 rfl) (by decide +kernel))⟩
theorem fp_RX11_148 : FP RX11 148 11 12 .int := ⟨RX11, TX11, tyX11, cls11, Nat.le_of_ble_eq_true rfl, rfl, rfl, Or.inl (ok_mem (tb_at7 21 rfl) (by decide +kernel))⟩
theorem fp_RX11_173 : FP RX11 173 11 18 .int := ⟨RX11, TX11, tyX11, cls11, Nat.le_of_ble_eq_true rfl, rfl, rfl, Or.inl (ok_mem (tb_at7 27 rfl) (by decide +kernel))⟩
theorem fp_RX11_176 : FP RX11 176 11 19 .int := ⟨RX11, TX11, tyX11, cls11, Nat.le_of_ble_eq_true rfl, rfl, rfl, Or.inl (ok_mem (tb_at7 28 rfl) (by decide +kernel))⟩
theorem fp_RX11_268 : FP RX11 268 11 21 .int := ⟨RX11, TX11, tyX11, cls11, Nat.le_of_ble_eq_true rfl, rfl, rfl, Or.inl (ok_mem (tb_at7 30 rfl) (by decide +kernel))⟩
theorem fp_RX11_271 : FP RX11 271 11 22 .int := ⟨RX11, TX11, tyX11, cls11, Nat.le_of_ble_eq_true rfl, rfl, rfl, Or.inl (ok_mem (tb_at7 31 rfl) (by decide +kernel))⟩
theorem fp_RX11_336 : FP RX11 336 11 30 .int := ⟨RX11, TX11, tyX11, cls11, Nat.le_of_ble_eq_true rfl, rfl, rfl, Or.inl (ok_mem (tb_at7 39 rfl) (by decide +kernel))⟩
theorem fp_RX11_345 : FP RX11 345 11 32 .int := ⟨RX11, TX11, tyX11, cls11, Nat.le_of_ble_eq_true rfl, rfl, rfl, Or.inl (ok_mem (tb_at7 41 rfl) (by decide +kernel))⟩
theorem fp_RX11_426 : FP RX11 426 11 38 .int := ⟨RX11, TX11, tyX11, cls11, Nat.le_of_ble_eq_true rfl, rfl, rfl, Or.inl (ok_mem (tb_at7 47 rfl) (by decide +kernel))⟩
theorem fp_RX11_452 : FP RX11 452 11 39 .int := ⟨RX11, TX11, tyX11, cls11, Nat.le_of_ble_eq_true rfl, rfl, rfl, Or.inl (ok_mem (tb_at7 48 rfl) (by decide +kernel))⟩
theorem fp_RX11_462 : FP RX11 462 11 40 .int := ⟨RX11, TX11, tyX11, cls11, Nat.le_of_ble_eq_true rfl, rfl, rfl, Or.inl (ok_mem (tb_at7 49 rfl) (by decide +kernel))⟩
theorem fp_RX11_479 : FP RX11 479 11 44 .boolean := ⟨RX11, TX11, tyX11, cls11, Nat.le_of_ble_eq_true rfl, rfl, rfl, Or.inl (ok_mem (tb_at7 53 rfl) (by decide +kernel))⟩
theorem fp_RX11_485 : FP RX11 485 11 45 .int := ⟨RX11, TX11, tyX11, cls11, Nat.le_of_ble_eq_true rfl, rfl, rfl, Or.inl (ok_mem (tb_at7 54 rfl) (by decide +kernel))⟩
theorem ids0 {t : Nat} (h : isO 0 t) : t = 57 := (by decide +kernel : ∀ t, t < NT → shp t = some (.inl 0) → t = 57) t (shp_lt h) h
theorem so_0_0 {t : Nat} (h : isO 0 t) : isO 5 (t + 1) := by
  rcases ids0 h with rfl
  · exact (by decide +kernel : shp (57 + 1) = some (.inl 5))
theorem so_0_3 {t : Nat} (h : isO 0 t) : isA .int 6 (t + 4) := by
  rcases ids0 h with rfl
  · exact (by decide +kernel : shp (57 + 4) = some (.inr (.int, 6)))
theorem so_0_4 {t : Nat} (h : isO 0 t) : isA .int 6 (t + 5) := by
  rcases ids0 h with rfl
  · exact (by decide +kernel : shp (57 + 5) = some (.inr (.int, 6)))
theorem so_0_5 {t : Nat} (h : isO 0 t) : isA .int 6 (t + 6) := by
  rcases ids0 h with rfl
  · exact (by decide +kernel : shp (57 + 6) = some (.inr (.int, 6)))
theorem so_0_8 {t : Nat} (h : isO 0 t) : isA .int 6 (t + 7) := by
  rcases ids0 h with rfl
  · exact (by decide +kernel : shp (57 + 7) = some (.inr (.int, 6)))
theorem so_0_9 {t : Nat} (h : isO 0 t) : isA .int 72 (t + 8) := by
  rcases ids0 h with rfl
  · exact (by decide +kernel : shp (57 + 8) = some (.inr (.int, 72)))
theorem so_0_10 {t : Nat} (h : isO 0 t) : isA .int 72 (t + 9) := by
  rcases ids0 h with rfl
  · exact (by decide +kernel : shp (57 + 9) = some (.inr (.int, 72)))
theorem so_0_11 {t : Nat} (h : isO 0 t) : isA .int 72 (t + 10) := by
  rcases ids0 h with rfl
  · exact (by decide +kernel : shp (57 + 10) = some (.inr (.int, 72)))
theorem so_0_12 {t : Nat} (h : isO 0 t) : isA .int 432 (t + 11) := by
  rcases ids0 h with rfl
  · exact (by decide +kernel : shp (57 + 11) = some (.inr (.int, 432)))
theorem so_0_15 {t : Nat} (h : isO 0 t) : isA .int 72 (t + 12) := by
  rcases ids0 h with rfl
  · exact (by decide +kernel : shp (57 + 12) = some (.inr (.int, 72)))
theorem so_0_16 {t : Nat} (h : isO 0 t) : isA .boolean 72 (t + 13) := by
  rcases ids0 h with rfl
  · exact (by decide +kernel : shp (57 + 13) = some (.inr (.boolean, 72)))
theorem ids1 {t : Nat} (h : isO 1 t) : t = 8 := (by decide +kernel : ∀ t, t < NT → shp t = some (.inl 1) → t = 8) t (shp_lt h) h
theorem so_1_0 {t : Nat} (h : isO 1 t) : isA .int 4 (t + 1) := by
  rcases ids1 h with rfl
  · exact (by decide +kernel : shp (8 + 1) = some (.inr (.int, 4)))
theorem ids2 {t : Nat} (h : isO 2 t) : t = 12 ∨ t = 26 ∨ t = 86 ∨ t = 106 ∨ t = 126 := (by decide +kernel : ∀ t, t < NT → shp t = some (.inl 2) → t = 12 ∨ t = 26 ∨ t = 86 ∨ t = 106 ∨ t = 126) t (shp_lt h) h
theorem so_2_1 {t : Nat} (h : isO 2 t) : isA .long 8 (t + 1) := by
  rcases ids2 h with rfl | rfl | rfl | rfl | rfl
  · exact (by decide +kernel : shp (12 + 1) = some (.inr (.long, 8)))
  · exact (by decide +kernel : shp (26 + 1) = some (.inr (.long, 8)))
  · exact (by decide +kernel : shp (86 + 1) = some (.inr (.long, 8)))
  · exact (by decide +kernel : shp (106 + 1) = some (.inr (.long, 8)))
  · exact (by decide +kernel : shp (126 + 1) = some (.inr (.long, 8)))
theorem so_2_2 {t : Nat} (h : isO 2 t) : isA .int 8 (t + 2) := by
  rcases ids2 h with rfl | rfl | rfl | rfl | rfl
  · exact (by decide +kernel : shp (12 + 2) = some (.inr (.int, 8)))
  · exact (by decide +kernel : shp (26 + 2) = some (.inr (.int, 8)))
  · exact (by decide +kernel : shp (86 + 2) = some (.inr (.int, 8)))
  · exact (by decide +kernel : shp (106 + 2) = some (.inr (.int, 8)))
  · exact (by decide +kernel : shp (126 + 2) = some (.inr (.int, 8)))
theorem so_2_3 {t : Nat} (h : isO 2 t) : isA .int 64 (t + 3) := by
  rcases ids2 h with rfl | rfl | rfl | rfl | rfl
  · exact (by decide +kernel : shp (12 + 3) = some (.inr (.int, 64)))
  · exact (by decide +kernel : shp (26 + 3) = some (.inr (.int, 64)))
  · exact (by decide +kernel : shp (86 + 3) = some (.inr (.int, 64)))
  · exact (by decide +kernel : shp (106 + 3) = some (.inr (.int, 64)))
  · exact (by decide +kernel : shp (126 + 3) = some (.inr (.int, 64)))
theorem so_2_5 {t : Nat} (h : isO 2 t) : isA .long 6 (t + 4) := by
  rcases ids2 h with rfl | rfl | rfl | rfl | rfl
  · exact (by decide +kernel : shp (12 + 4) = some (.inr (.long, 6)))
  · exact (by decide +kernel : shp (26 + 4) = some (.inr (.long, 6)))
  · exact (by decide +kernel : shp (86 + 4) = some (.inr (.long, 6)))
  · exact (by decide +kernel : shp (106 + 4) = some (.inr (.long, 6)))
  · exact (by decide +kernel : shp (126 + 4) = some (.inr (.long, 6)))
theorem so_2_6 {t : Nat} (h : isO 2 t) : isA .int 6 (t + 5) := by
  rcases ids2 h with rfl | rfl | rfl | rfl | rfl
  · exact (by decide +kernel : shp (12 + 5) = some (.inr (.int, 6)))
  · exact (by decide +kernel : shp (26 + 5) = some (.inr (.int, 6)))
  · exact (by decide +kernel : shp (86 + 5) = some (.inr (.int, 6)))
  · exact (by decide +kernel : shp (106 + 5) = some (.inr (.int, 6)))
  · exact (by decide +kernel : shp (126 + 5) = some (.inr (.int, 6)))
theorem so_2_7 {t : Nat} (h : isO 2 t) : isA .int 6 (t + 6) := by
  rcases ids2 h with rfl | rfl | rfl | rfl | rfl
  · exact (by decide +kernel : shp (12 + 6) = some (.inr (.int, 6)))
  · exact (by decide +kernel : shp (26 + 6) = some (.inr (.int, 6)))
  · exact (by decide +kernel : shp (86 + 6) = some (.inr (.int, 6)))
  · exact (by decide +kernel : shp (106 + 6) = some (.inr (.int, 6)))
  · exact (by decide +kernel : shp (126 + 6) = some (.inr (.int, 6)))
theorem so_2_8 {t : Nat} (h : isO 2 t) : isA .int 6 (t + 7) := by
  rcases ids2 h with rfl | rfl | rfl | rfl | rfl
  · exact (by decide +kernel : shp (12 + 7) = some (.inr (.int, 6)))
  · exact (by decide +kernel : shp (26 + 7) = some (.inr (.int, 6)))
  · exact (by decide +kernel : shp (86 + 7) = some (.inr (.int, 6)))
  · exact (by decide +kernel : shp (106 + 7) = some (.inr (.int, 6)))
  · exact (by decide +kernel : shp (126 + 7) = some (.inr (.int, 6)))
theorem so_2_9 {t : Nat} (h : isO 2 t) : isA .int 72 (t + 8) := by
  rcases ids2 h with rfl | rfl | rfl | rfl | rfl
  · exact (by decide +kernel : shp (12 + 8) = some (.inr (.int, 72)))
  · exact (by decide +kernel : shp (26 + 8) = some (.inr (.int, 72)))
  · exact (by decide +kernel : shp (86 + 8) = some (.inr (.int, 72)))
  · exact (by decide +kernel : shp (106 + 8) = some (.inr (.int, 72)))
  · exact (by decide +kernel : shp (126 + 8) = some (.inr (.int, 72)))
theorem so_2_10 {t : Nat} (h : isO 2 t) : isA .int 72 (t + 9) := by
  rcases ids2 h with rfl | rfl | rfl | rfl | rfl
  · exact (by decide +kernel : shp (12 + 9) = some (.inr (.int, 72)))
  · exact (by decide +kernel : shp (26 + 9) = some (.inr (.int, 72)))
  · exact (by decide +kernel : shp (86 + 9) = some (.inr (.int, 72)))
  · exact (by decide +kernel : shp (106 + 9) = some (.inr (.int, 72)))
  · exact (by decide +kernel : shp (126 + 9) = some (.inr (.int, 72)))
theorem so_2_12 {t : Nat} (h : isO 2 t) : isA .int 24 (t + 10) := by
  rcases ids2 h with rfl | rfl | rfl | rfl | rfl
  · exact (by decide +kernel : shp (12 + 10) = some (.inr (.int, 24)))
  · exact (by decide +kernel : shp (26 + 10) = some (.inr (.int, 24)))
  · exact (by decide +kernel : shp (86 + 10) = some (.inr (.int, 24)))
  · exact (by decide +kernel : shp (106 + 10) = some (.inr (.int, 24)))
  · exact (by decide +kernel : shp (126 + 10) = some (.inr (.int, 24)))
theorem so_2_14 {t : Nat} (h : isO 2 t) : isA .long 2 (t + 11) := by
  rcases ids2 h with rfl | rfl | rfl | rfl | rfl
  · exact (by decide +kernel : shp (12 + 11) = some (.inr (.long, 2)))
  · exact (by decide +kernel : shp (26 + 11) = some (.inr (.long, 2)))
  · exact (by decide +kernel : shp (86 + 11) = some (.inr (.long, 2)))
  · exact (by decide +kernel : shp (106 + 11) = some (.inr (.long, 2)))
  · exact (by decide +kernel : shp (126 + 11) = some (.inr (.long, 2)))
theorem so_2_15 {t : Nat} (h : isO 2 t) : isA .int 8 (t + 12) := by
  rcases ids2 h with rfl | rfl | rfl | rfl | rfl
  · exact (by decide +kernel : shp (12 + 12) = some (.inr (.int, 8)))
  · exact (by decide +kernel : shp (26 + 12) = some (.inr (.int, 8)))
  · exact (by decide +kernel : shp (86 + 12) = some (.inr (.int, 8)))
  · exact (by decide +kernel : shp (106 + 12) = some (.inr (.int, 8)))
  · exact (by decide +kernel : shp (126 + 12) = some (.inr (.int, 8)))
theorem so_2_16 {t : Nat} (h : isO 2 t) : isA .int 2 (t + 13) := by
  rcases ids2 h with rfl | rfl | rfl | rfl | rfl
  · exact (by decide +kernel : shp (12 + 13) = some (.inr (.int, 2)))
  · exact (by decide +kernel : shp (26 + 13) = some (.inr (.int, 2)))
  · exact (by decide +kernel : shp (86 + 13) = some (.inr (.int, 2)))
  · exact (by decide +kernel : shp (106 + 13) = some (.inr (.int, 2)))
  · exact (by decide +kernel : shp (126 + 13) = some (.inr (.int, 2)))
theorem ids3 {t : Nat} (h : isO 3 t) : t = 74 ∨ t = 76 := (by decide +kernel : ∀ t, t < NT → shp t = some (.inl 3) → t = 74 ∨ t = 76) t (shp_lt h) h
theorem so_3_0 {t : Nat} (h : isO 3 t) : isA .int 60 (t + 1) := by
  rcases ids3 h with rfl | rfl
  · exact (by decide +kernel : shp (74 + 1) = some (.inr (.int, 60)))
  · exact (by decide +kernel : shp (76 + 1) = some (.inr (.int, 60)))
theorem ids4 {t : Nat} (h : isO 4 t) : t = 71 := (by decide +kernel : ∀ t, t < NT → shp t = some (.inl 4) → t = 71) t (shp_lt h) h
theorem so_4_0 {t : Nat} (h : isO 4 t) : isA .int 60 (t + 1) := by
  rcases ids4 h with rfl
  · exact (by decide +kernel : shp (71 + 1) = some (.inr (.int, 60)))
theorem so_4_2 {t : Nat} (h : isO 4 t) : isA .int 80 (t + 2) := by
  rcases ids4 h with rfl
  · exact (by decide +kernel : shp (71 + 2) = some (.inr (.int, 80)))
theorem ids5 {t : Nat} (h : isO 5 t) : t = 54 ∨ t = 58 := (by decide +kernel : ∀ t, t < NT → shp t = some (.inl 5) → t = 54 ∨ t = 58) t (shp_lt h) h
theorem so_5_0 {t : Nat} (h : isO 5 t) : isA .int 169 (t + 1) := by
  rcases ids5 h with rfl | rfl
  · exact (by decide +kernel : shp (54 + 1) = some (.inr (.int, 169)))
  · exact (by decide +kernel : shp (58 + 1) = some (.inr (.int, 169)))
theorem so_5_1 {t : Nat} (h : isO 5 t) : isA .int 12 (t + 2) := by
  rcases ids5 h with rfl | rfl
  · exact (by decide +kernel : shp (54 + 2) = some (.inr (.int, 12)))
  · exact (by decide +kernel : shp (58 + 2) = some (.inr (.int, 12)))
theorem ids6 {t : Nat} (h : isO 6 t) : t = 2 := (by decide +kernel : ∀ t, t < NT → shp t = some (.inl 6) → t = 2) t (shp_lt h) h
theorem so_6_0 {t : Nat} (h : isO 6 t) : isA .byte 900 (t + 1) := by
  rcases ids6 h with rfl
  · exact (by decide +kernel : shp (2 + 1) = some (.inr (.byte, 900)))
theorem so_6_2 {t : Nat} (h : isO 6 t) : isA .int 901 (t + 2) := by
  rcases ids6 h with rfl
  · exact (by decide +kernel : shp (2 + 2) = some (.inr (.int, 901)))
theorem so_6_3 {t : Nat} (h : isO 6 t) : isA .int 901 (t + 3) := by
  rcases ids6 h with rfl
  · exact (by decide +kernel : shp (2 + 3) = some (.inr (.int, 901)))
theorem so_6_4 {t : Nat} (h : isO 6 t) : isA .int 901 (t + 4) := by
  rcases ids6 h with rfl
  · exact (by decide +kernel : shp (2 + 4) = some (.inr (.int, 901)))
theorem so_6_5 {t : Nat} (h : isO 6 t) : isA .long 901 (t + 5) := by
  rcases ids6 h with rfl
  · exact (by decide +kernel : shp (2 + 5) = some (.inr (.long, 901)))
theorem ids7 {t : Nat} (h : isO 7 t) : t = 78 ∨ t = 80 ∨ t = 82 ∨ t = 84 := (by decide +kernel : ∀ t, t < NT → shp t = some (.inl 7) → t = 78 ∨ t = 80 ∨ t = 82 ∨ t = 84) t (shp_lt h) h
theorem so_7_0 {t : Nat} (h : isO 7 t) : isA .long 60 (t + 1) := by
  rcases ids7 h with rfl | rfl | rfl | rfl
  · exact (by decide +kernel : shp (78 + 1) = some (.inr (.long, 60)))
  · exact (by decide +kernel : shp (80 + 1) = some (.inr (.long, 60)))
  · exact (by decide +kernel : shp (82 + 1) = some (.inr (.long, 60)))
  · exact (by decide +kernel : shp (84 + 1) = some (.inr (.long, 60)))
theorem ids8 {t : Nat} (h : isO 8 t) : t = 40 ∨ t = 46 ∨ t = 100 ∨ t = 120 ∨ t = 140 := (by decide +kernel : ∀ t, t < NT → shp t = some (.inl 8) → t = 40 ∨ t = 46 ∨ t = 100 ∨ t = 120 ∨ t = 140) t (shp_lt h) h
theorem so_8_3 {t : Nat} (h : isO 8 t) : isA .int 60 (t + 1) := by
  rcases ids8 h with rfl | rfl | rfl | rfl | rfl
  · exact (by decide +kernel : shp (40 + 1) = some (.inr (.int, 60)))
  · exact (by decide +kernel : shp (46 + 1) = some (.inr (.int, 60)))
  · exact (by decide +kernel : shp (100 + 1) = some (.inr (.int, 60)))
  · exact (by decide +kernel : shp (120 + 1) = some (.inr (.int, 60)))
  · exact (by decide +kernel : shp (140 + 1) = some (.inr (.int, 60)))
theorem so_8_4 {t : Nat} (h : isO 8 t) : isA .int 60 (t + 2) := by
  rcases ids8 h with rfl | rfl | rfl | rfl | rfl
  · exact (by decide +kernel : shp (40 + 2) = some (.inr (.int, 60)))
  · exact (by decide +kernel : shp (46 + 2) = some (.inr (.int, 60)))
  · exact (by decide +kernel : shp (100 + 2) = some (.inr (.int, 60)))
  · exact (by decide +kernel : shp (120 + 2) = some (.inr (.int, 60)))
  · exact (by decide +kernel : shp (140 + 2) = some (.inr (.int, 60)))
theorem so_8_5 {t : Nat} (h : isO 8 t) : isA .int 60 (t + 3) := by
  rcases ids8 h with rfl | rfl | rfl | rfl | rfl
  · exact (by decide +kernel : shp (40 + 3) = some (.inr (.int, 60)))
  · exact (by decide +kernel : shp (46 + 3) = some (.inr (.int, 60)))
  · exact (by decide +kernel : shp (100 + 3) = some (.inr (.int, 60)))
  · exact (by decide +kernel : shp (120 + 3) = some (.inr (.int, 60)))
  · exact (by decide +kernel : shp (140 + 3) = some (.inr (.int, 60)))
theorem so_8_6 {t : Nat} (h : isO 8 t) : isA .int 60 (t + 4) := by
  rcases ids8 h with rfl | rfl | rfl | rfl | rfl
  · exact (by decide +kernel : shp (40 + 4) = some (.inr (.int, 60)))
  · exact (by decide +kernel : shp (46 + 4) = some (.inr (.int, 60)))
  · exact (by decide +kernel : shp (100 + 4) = some (.inr (.int, 60)))
  · exact (by decide +kernel : shp (120 + 4) = some (.inr (.int, 60)))
  · exact (by decide +kernel : shp (140 + 4) = some (.inr (.int, 60)))
theorem so_8_7 {t : Nat} (h : isO 8 t) : isA .int 60 (t + 5) := by
  rcases ids8 h with rfl | rfl | rfl | rfl | rfl
  · exact (by decide +kernel : shp (40 + 5) = some (.inr (.int, 60)))
  · exact (by decide +kernel : shp (46 + 5) = some (.inr (.int, 60)))
  · exact (by decide +kernel : shp (100 + 5) = some (.inr (.int, 60)))
  · exact (by decide +kernel : shp (120 + 5) = some (.inr (.int, 60)))
  · exact (by decide +kernel : shp (140 + 5) = some (.inr (.int, 60)))
theorem ids9 {t : Nat} (h : isO 9 t) : t = 10 := (by decide +kernel : ∀ t, t < NT → shp t = some (.inl 9) → t = 10) t (shp_lt h) h
theorem so_9_0 {t : Nat} (h : isO 9 t) : isA .int 3 (t + 1) := by
  rcases ids9 h with rfl
  · exact (by decide +kernel : shp (10 + 1) = some (.inr (.int, 3)))
theorem ids10 {t : Nat} (h : isO 10 t) : t = 0 := (by decide +kernel : ∀ t, t < NT → shp t = some (.inl 10) → t = 0) t (shp_lt h) h
theorem so_10_3 {t : Nat} (h : isO 10 t) : isA (.object "BoreDesk$Tray") 4 (t + 1) := by
  rcases ids10 h with rfl
  · exact (by decide +kernel : shp (0 + 1) = some (.inr ((.object "BoreDesk$Tray"), 4)))
theorem so_10_4 {t : Nat} (h : isO 10 t) : isO 6 (t + 2) := by
  rcases ids10 h with rfl
  · exact (by decide +kernel : shp (0 + 2) = some (.inl 6))
theorem so_10_5 {t : Nat} (h : isO 10 t) : isO 1 (t + 8) := by
  rcases ids10 h with rfl
  · exact (by decide +kernel : shp (0 + 8) = some (.inl 1))
theorem so_10_6 {t : Nat} (h : isO 10 t) : isO 9 (t + 10) := by
  rcases ids10 h with rfl
  · exact (by decide +kernel : shp (0 + 10) = some (.inl 9))
theorem so_10_11 {t : Nat} (h : isO 10 t) : isA (.object "BoreDesk$Ground") 3 (t + 52) := by
  rcases ids10 h with rfl
  · exact (by decide +kernel : shp (0 + 52) = some (.inr ((.object "BoreDesk$Ground"), 3)))
theorem so_10_12 {t : Nat} (h : isO 10 t) : isA (.object "BoreDesk$Years") 3 (t + 53) := by
  rcases ids10 h with rfl
  · exact (by decide +kernel : shp (0 + 53) = some (.inr ((.object "BoreDesk$Years"), 3)))
theorem so_10_14 {t : Nat} (h : isO 10 t) : isO 5 (t + 54) := by
  rcases ids10 h with rfl
  · exact (by decide +kernel : shp (0 + 54) = some (.inl 5))
theorem so_10_15 {t : Nat} (h : isO 10 t) : isO 0 (t + 57) := by
  rcases ids10 h with rfl
  · exact (by decide +kernel : shp (0 + 57) = some (.inl 0))
theorem so_10_16 {t : Nat} (h : isO 10 t) : isO 4 (t + 71) := by
  rcases ids10 h with rfl
  · exact (by decide +kernel : shp (0 + 71) = some (.inl 4))
theorem so_10_17 {t : Nat} (h : isO 10 t) : isO 3 (t + 74) := by
  rcases ids10 h with rfl
  · exact (by decide +kernel : shp (0 + 74) = some (.inl 3))
theorem so_10_18 {t : Nat} (h : isO 10 t) : isO 3 (t + 76) := by
  rcases ids10 h with rfl
  · exact (by decide +kernel : shp (0 + 76) = some (.inl 3))
theorem ids11 {t : Nat} (h : isO 11 t) : t = 146 := (by decide +kernel : ∀ t, t < NT → shp t = some (.inl 11) → t = 146) t (shp_lt h) h
theorem so_11_0 {t : Nat} (h : isO 11 t) : isA .int 3900 (t + 1) := by
  rcases ids11 h with rfl
  · exact (by decide +kernel : shp (146 + 1) = some (.inr (.int, 3900)))
theorem so_11_1 {t : Nat} (h : isO 11 t) : isA .long 90 (t + 2) := by
  rcases ids11 h with rfl
  · exact (by decide +kernel : shp (146 + 2) = some (.inr (.long, 90)))
theorem so_11_5 {t : Nat} (h : isO 11 t) : isA .int 4 (t + 3) := by
  rcases ids11 h with rfl
  · exact (by decide +kernel : shp (146 + 3) = some (.inr (.int, 4)))
theorem so_11_6 {t : Nat} (h : isO 11 t) : isA .int 4 (t + 4) := by
  rcases ids11 h with rfl
  · exact (by decide +kernel : shp (146 + 4) = some (.inr (.int, 4)))
theorem so_11_7 {t : Nat} (h : isO 11 t) : isA .long 240 (t + 5) := by
  rcases ids11 h with rfl
  · exact (by decide +kernel : shp (146 + 5) = some (.inr (.long, 240)))
theorem so_11_8 {t : Nat} (h : isO 11 t) : isA .byte 900 (t + 6) := by
  rcases ids11 h with rfl
  · exact (by decide +kernel : shp (146 + 6) = some (.inr (.byte, 900)))
theorem so_11_9 {t : Nat} (h : isO 11 t) : isA .byte 900 (t + 7) := by
  rcases ids11 h with rfl
  · exact (by decide +kernel : shp (146 + 7) = some (.inr (.byte, 900)))
theorem so_11_20 {t : Nat} (h : isO 11 t) : isA .int 3 (t + 8) := by
  rcases ids11 h with rfl
  · exact (by decide +kernel : shp (146 + 8) = some (.inr (.int, 3)))
theorem so_11_23 {t : Nat} (h : isO 11 t) : isA .int 169 (t + 9) := by
  rcases ids11 h with rfl
  · exact (by decide +kernel : shp (146 + 9) = some (.inr (.int, 169)))
theorem so_11_24 {t : Nat} (h : isO 11 t) : isA .int 12 (t + 10) := by
  rcases ids11 h with rfl
  · exact (by decide +kernel : shp (146 + 10) = some (.inr (.int, 12)))
theorem so_11_25 {t : Nat} (h : isO 11 t) : isA .int 12 (t + 11) := by
  rcases ids11 h with rfl
  · exact (by decide +kernel : shp (146 + 11) = some (.inr (.int, 12)))
theorem so_11_27 {t : Nat} (h : isO 11 t) : isA .int 6 (t + 12) := by
  rcases ids11 h with rfl
  · exact (by decide +kernel : shp (146 + 12) = some (.inr (.int, 6)))
theorem so_11_28 {t : Nat} (h : isO 11 t) : isA .int 6 (t + 13) := by
  rcases ids11 h with rfl
  · exact (by decide +kernel : shp (146 + 13) = some (.inr (.int, 6)))
theorem so_11_29 {t : Nat} (h : isO 11 t) : isA .int 6 (t + 14) := by
  rcases ids11 h with rfl
  · exact (by decide +kernel : shp (146 + 14) = some (.inr (.int, 6)))
theorem so_11_31 {t : Nat} (h : isO 11 t) : isA .int 72 (t + 15) := by
  rcases ids11 h with rfl
  · exact (by decide +kernel : shp (146 + 15) = some (.inr (.int, 72)))
theorem so_11_33 {t : Nat} (h : isO 11 t) : isA .boolean 72 (t + 16) := by
  rcases ids11 h with rfl
  · exact (by decide +kernel : shp (146 + 16) = some (.inr (.boolean, 72)))
theorem so_11_34 {t : Nat} (h : isO 11 t) : isA .int 72 (t + 17) := by
  rcases ids11 h with rfl
  · exact (by decide +kernel : shp (146 + 17) = some (.inr (.int, 72)))
theorem so_11_35 {t : Nat} (h : isO 11 t) : isA .long 3 (t + 18) := by
  rcases ids11 h with rfl
  · exact (by decide +kernel : shp (146 + 18) = some (.inr (.long, 3)))
theorem so_11_36 {t : Nat} (h : isO 11 t) : isA .long 3 (t + 19) := by
  rcases ids11 h with rfl
  · exact (by decide +kernel : shp (146 + 19) = some (.inr (.long, 3)))
theorem so_11_37 {t : Nat} (h : isO 11 t) : isA .int 60 (t + 20) := by
  rcases ids11 h with rfl
  · exact (by decide +kernel : shp (146 + 20) = some (.inr (.int, 60)))
theorem so_11_41 {t : Nat} (h : isO 11 t) : isA .int 80 (t + 21) := by
  rcases ids11 h with rfl
  · exact (by decide +kernel : shp (146 + 21) = some (.inr (.int, 80)))
theorem so_11_42 {t : Nat} (h : isO 11 t) : isA .int 4 (t + 22) := by
  rcases ids11 h with rfl
  · exact (by decide +kernel : shp (146 + 22) = some (.inr (.int, 4)))
theorem so_11_43 {t : Nat} (h : isO 11 t) : isA .int 4 (t + 23) := by
  rcases ids11 h with rfl
  · exact (by decide +kernel : shp (146 + 23) = some (.inr (.int, 4)))
theorem se_10_3 {t : Nat} {i : Int32} (h : isO 10 t) (hi : vp_in i 4) : isO 7 (srf (t + 1) i.toNatClampNeg) := by
  obtain rfl := (by decide +kernel : ∀ t, t < NT → shp t = some (.inl 10) → t = 0) t (shp_lt h) h
  exact (by decide +kernel : ∀ j, j < 4 → shp (srf (0 + 1) j) = some (.inl 7)) _ (Nat.not_le.mp fun q => hi (Or.inr q))
theorem se_10_11 {t : Nat} {i : Int32} (h : isO 10 t) (hi : vp_in i 3) : isO 2 (srf (t + 52) i.toNatClampNeg) := by
  obtain rfl := (by decide +kernel : ∀ t, t < NT → shp t = some (.inl 10) → t = 0) t (shp_lt h) h
  exact (by decide +kernel : ∀ j, j < 3 → shp (srf (0 + 52) j) = some (.inl 2)) _ (Nat.not_le.mp fun q => hi (Or.inr q))
theorem se_10_12 {t : Nat} {i : Int32} (h : isO 10 t) (hi : vp_in i 3) : isO 8 (srf (t + 53) i.toNatClampNeg) := by
  obtain rfl := (by decide +kernel : ∀ t, t < NT → shp t = some (.inl 10) → t = 0) t (shp_lt h) h
  exact (by decide +kernel : ∀ j, j < 3 → shp (srf (0 + 53) j) = some (.inl 8)) _ (Nat.not_le.mp fun q => hi (Or.inr q))
theorem lk_RX10_110 : Cond.methodLink RX10 110 yX10_isTray ∈ okT ∨ ∃ host, Cond.methodLinkNest RX10 110 yX10_isTray host ∈ nestW := Or.inl (ok_mem (tb_at3 6 rfl) rfl)
theorem lk_RX10_114 : Cond.methodLink RX10 114 yX10_isWithin ∈ okT ∨ ∃ host, Cond.methodLinkNest RX10 114 yX10_isWithin host ∈ nestW := Or.inl (ok_mem (tb_at3 9 rfl) rfl)
theorem lk_RX10_118 : Cond.methodLink RX10 118 yX10_deny ∈ okT := ok_mem (tb_at3 12 rfl) rfl
theorem lk_RX10_121 : Cond.methodLink RX10 121 yX7_renew ∈ okT := ok_mem (tb_at3 16 rfl) rfl
theorem lk_RX10_125 : Cond.methodLink RX10 125 yX10_grant ∈ okT := ok_mem (tb_at3 20 rfl) rfl
theorem lk_RX10_129 : Cond.methodLink RX10 129 yX10_placeStatus ∈ okT := ok_mem (tb_at3 28 rfl) rfl
theorem lk_RX10_133 : Cond.methodLink RX10 133 yX7_put ∈ okT := ok_mem (tb_at3 40 rfl) rfl
theorem lk_RX10_137 : Cond.methodLink RX10 137 yX10_refuse ∈ okT := ok_mem (tb_at3 48 rfl) rfl
theorem lk_RX10_145 : Cond.methodLink RX10 145 yX7_isMissing ∈ okT := ok_mem (tb_at3 32 rfl) rfl
theorem lk_RX10_151 : Cond.methodLink RX10 151 yX7_hasRow ∈ okT := ok_mem (tb_at3 36 rfl) rfl
theorem lk_RX10_155 : Cond.methodLink RX10 155 arraycopyName ∈ okT := ok_mem (tb_at3 56 rfl) rfl
theorem lk_RX10_161 : Cond.methodLink RX10 161 yX6_hasRoomFor ∈ okT := ok_mem (tb_at3 63 rfl) rfl
theorem lk_RX10_164 : Cond.methodLink RX10 164 yX6_addInt ∈ okT := ok_mem (tb_at3 67 rfl) rfl
theorem lk_RX10_171 : Cond.methodLink RX10 171 yX6_begin ∈ okT := ok_mem (tb_at3 75 rfl) rfl
theorem lk_RX10_174 : Cond.methodLink RX10 174 yX1_isTaken ∈ okT := ok_mem (tb_at3 162 rfl) rfl
theorem lk_RX10_178 : Cond.methodLink RX10 178 yX8_forget ∈ okT := ok_mem (tb_at4 89 rfl) rfl
theorem lk_RX10_181 : Cond.methodLink RX10 181 yX0_turnStale ∈ okT := ok_mem (tb_at4 93 rfl) rfl
theorem lk_RX10_187 : Cond.methodLink RX10 187 yX10_answer ∈ okT := ok_mem (tb_at4 97 rfl) rfl
theorem lk_RX10_190 : Cond.methodLink RX10 190 yX9_isTaken ∈ okT := ok_mem (tb_at4 105 rfl) rfl
theorem lk_RX10_215 : Cond.methodLink RX10 215 yX2_isRock ∈ okT := ok_mem (tb_at4 182 rfl) rfl
theorem lk_RX10_222 : Cond.methodLink RX10 222 yX2_costOfTwo ∈ okT := ok_mem (tb_at4 190 rfl) rfl
theorem lk_RX10_225 : Cond.methodLink RX10 225 yX2_isHole ∈ okT := ok_mem (tb_at4 198 rfl) rfl
theorem lk_RX10_237 : Cond.methodLink RX10 237 yX2_allThick ∈ okT := ok_mem (tb_at4 202 rfl) rfl
theorem lk_RX10_240 : Cond.methodLink RX10 240 yX2_thrownDown ∈ okT := ok_mem (tb_at4 210 rfl) rfl
theorem lk_RX10_243 : Cond.methodLink RX10 243 yX2_isLayer ∈ okT := ok_mem (tb_at4 222 rfl) rfl
theorem lk_RX10_249 : Cond.methodLink RX10 249 yX10_slot ∈ okT ∨ ∃ host, Cond.methodLinkNest RX10 249 yX10_slot host ∈ nestW := Or.inl (ok_mem (tb_at4 227 rfl) rfl)
theorem lk_RX10_255 : Cond.methodLink RX10 255 yX2_depthOf ∈ okT := ok_mem (tb_at4 228 rfl) rfl
theorem lk_RX10_258 : Cond.methodLink RX10 258 yX2_layerWithUnit ∈ okT := ok_mem (tb_at4 237 rfl) rfl
theorem lk_RX10_261 : Cond.methodLink RX10 261 yX10_answerOrNoSuch ∈ okT := ok_mem (tb_at5 1 rfl) rfl
theorem lk_RX10_264 : Cond.methodLink RX10 264 yX2_isFault ∈ okT := ok_mem (tb_at5 9 rfl) rfl
theorem lk_RX10_267 : Cond.methodLink RX10 267 yX2_isOnRight ∈ okT := ok_mem (tb_at5 13 rfl) rfl
theorem lk_RX10_270 : Cond.methodLink RX10 270 yX10_answerYes ∈ okT := ok_mem (tb_at5 14 rfl) rfl
theorem lk_RX10_274 : Cond.methodLink RX10 274 yX5_workOut ∈ okT := ok_mem (tb_at5 22 rfl) rfl
theorem lk_RX10_278 : Cond.methodLink RX10 278 yX5_mateOf ∈ okT := ok_mem (tb_at5 53 rfl) rfl
theorem lk_RX10_287 : Cond.methodLink RX10 287 yX0_refresh ∈ okT := ok_mem (tb_at5 65 rfl) rfl
theorem lk_RX10_312 : Cond.methodLink RX10 312 yX10_isBed ∈ okT := ok_mem (tb_at5 111 rfl) rfl
theorem lk_RX10_315 : Cond.methodLink RX10 315 yX0_setOfHoles ∈ okT := ok_mem (tb_at5 115 rfl) rfl
theorem lk_RX10_318 : Cond.methodLink RX10 318 yX0_layerIn ∈ okT := ok_mem (tb_at5 127 rfl) rfl
theorem lk_RX10_321 : Cond.methodLink RX10 321 yX0_isHigher ∈ okT := ok_mem (tb_at5 132 rfl) rfl
theorem lk_RX10_324 : Cond.methodLink RX10 324 yX0_isOrdered ∈ okT := ok_mem (tb_at5 140 rfl) rfl
theorem lk_RX10_330 : Cond.methodLink RX10 330 yX0_widestBed ∈ okT := ok_mem (tb_at5 161 rfl) rfl
theorem lk_RX10_334 : Cond.methodLink RX10 334 yX2_isTriangle ∈ okT := ok_mem (tb_at5 176 rfl) rfl
theorem lk_RX10_337 : Cond.methodLink RX10 337 yX2_twiceArea ∈ okT := ok_mem (tb_at5 180 rfl) rfl
theorem lk_RX10_342 : Cond.methodLink RX10 342 yX10_tell ∈ okT := ok_mem (tb_at5 195 rfl) rfl
theorem lk_RX10_346 : Cond.methodLink RX10 346 yX2_isSplit ∈ okT := ok_mem (tb_at5 210 rfl) rfl
theorem lk_RX10_349 : Cond.methodLink RX10 349 yX10_isPoint ∈ okT ∨ ∃ host, Cond.methodLinkNest RX10 349 yX10_isPoint host ∈ nestW := Or.inl (ok_mem (tb_at5 218 rfl) rfl)
theorem lk_RX10_352 : Cond.methodLink RX10 352 yX2_triangleWith ∈ okT := ok_mem (tb_at5 221 rfl) rfl
theorem lk_RX10_355 : Cond.methodLink RX10 355 yX10_hasAtCorners ∈ okT := ok_mem (tb_at5 238 rfl) rfl
theorem lk_RX10_358 : Cond.methodLink RX10 358 yX2_weight ∈ okT := ok_mem (tb_at6 3 rfl) rfl
theorem lk_RX10_362 : Cond.methodLink RX10 362 yX10_depthAtCorner ∈ okT := ok_mem (tb_at6 4 rfl) rfl
theorem lk_RX10_366 : Cond.methodLink RX10 366 yX2_turn ∈ okT := ok_mem (tb_at6 8 rfl) rfl
theorem lk_RX10_369 : Cond.methodLink RX10 369 yX10_thickAtCorner ∈ okT := ok_mem (tb_at6 13 rfl) rfl
theorem lk_RX10_372 : Cond.methodLink RX10 372 yX10_sixfoldVolume ∈ okT := ok_mem (tb_at6 21 rfl) rfl
theorem lk_RX10_378 : Cond.methodLink RX10 378 yX2_sideAlongY ∈ okT := ok_mem (tb_at6 34 rfl) rfl
theorem lk_RX10_381 : Cond.methodLink RX10 381 yX2_sideAlongX ∈ okT := ok_mem (tb_at6 38 rfl) rfl
theorem lk_RX10_384 : Cond.methodLink RX10 384 yX0_inBoth ∈ okT := ok_mem (tb_at6 50 rfl) rfl
theorem lk_RX10_387 : Cond.methodLink RX10 387 yX0_gapsIn ∈ okT := ok_mem (tb_at6 58 rfl) rfl
theorem lk_RX10_390 : Cond.methodLink RX10 390 yX4_draw ∈ okT := ok_mem (tb_at6 70 rfl) rfl
theorem lk_RX10_395 : Cond.methodLink RX10 395 yX10_logStatus ∈ okT := ok_mem (tb_at6 85 rfl) rfl
theorem lk_RX10_399 : Cond.methodLink RX10 399 yX4_pick ∈ okT := ok_mem (tb_at6 94 rfl) rfl
theorem lk_RX10_409 : Cond.methodLink RX10 409 yX7_fillGaps ∈ okT := ok_mem (tb_at6 110 rfl) rfl
theorem lk_RX10_412 : Cond.methodLink RX10 412 yX7_rowsOfAlike ∈ okT := ok_mem (tb_at6 118 rfl) rfl
theorem lk_RX10_415 : Cond.methodLink RX10 415 yX4_unfold ∈ okT := ok_mem (tb_at6 126 rfl) rfl
theorem lk_RX10_419 : Cond.methodLink RX10 419 yX4_alike ∈ okT := ok_mem (tb_at6 127 rfl) rfl
theorem lk_RX10_423 : Cond.methodLink RX10 423 yX4_bestShift ∈ okT := ok_mem (tb_at6 135 rfl) rfl
theorem lk_RX10_427 : Cond.methodLink RX10 427 yX2_layOn ∈ okT := ok_mem (tb_at6 148 rfl) rfl
theorem lk_RX10_430 : Cond.methodLink RX10 430 yX2_wearOff ∈ okT := ok_mem (tb_at6 160 rfl) rfl
theorem lk_RX10_439 : Cond.methodLink RX10 439 yX3_run ∈ okT := ok_mem (tb_at6 173 rfl) rfl
theorem lk_RX10_459 : Cond.methodLink RX10 459 yX2_takeOver ∈ okT := ok_mem (tb_at6 225 rfl) rfl
theorem lk_RX10_462 : Cond.methodLink RX10 462 yX2_hasRock ∈ okT := ok_mem (tb_at6 229 rfl) rfl
theorem lk_RX10_465 : Cond.methodLink RX10 465 yX8_takeOver ∈ okT := ok_mem (tb_at6 234 rfl) rfl
theorem lk_RX10_468 : Cond.methodLink RX10 468 yX10_commonDivisor ∈ okT ∨ ∃ host, Cond.methodLinkNest RX10 468 yX10_commonDivisor host ∈ nestW := Or.inl (ok_mem (tb_at5 199 rfl) rfl)
theorem lk_RX10_474 : Cond.methodLink RX10 474 Lib.MathLoose.abs_long.x ∈ okT := ok_mem (tb_at5 202 rfl) rfl
theorem lk_RX10_480 : Cond.methodLink RX10 480 yX7_areWithin ∈ okT := ok_mem (tb_at6 89 rfl) rfl
theorem lk_RX10_484 : Cond.methodLink RX10 484 yX2_cornerHole ∈ okT := ok_mem (tb_at6 2 rfl) rfl
theorem lk_RX0_70 : Cond.methodLink RX0 70 yX0_growTree ∈ okT := ok_mem (tb_at5 69 rfl) rfl
theorem lk_RX0_74 : Cond.methodLink RX0 74 yX5_workOut ∈ okT := ok_mem (tb_at5 84 rfl) rfl
theorem lk_RX0_78 : Cond.methodLink RX0 78 yX0_joinPairs ∈ okT := ok_mem (tb_at5 85 rfl) rfl
theorem lk_RX0_82 : Cond.methodLink RX0 82 yX0_numberBeds ∈ okT := ok_mem (tb_at5 91 rfl) rfl
theorem lk_RX0_90 : Cond.methodLink RX0 90 yX0_addNearest ∈ okT := ok_mem (tb_at5 73 rfl) rfl
theorem lk_RX0_94 : Cond.methodLink RX0 94 yX0_squareApart ∈ okT ∨ ∃ host, Cond.methodLinkNest RX0 94 yX0_squareApart host ∈ nestW := Or.inl (ok_mem (tb_at5 78 rfl) rfl)
theorem lk_RX0_97 : Cond.methodLink RX0 97 yX0_relabel ∈ okT ∨ ∃ host, Cond.methodLinkNest RX0 97 yX0_relabel host ∈ nestW := Or.inl (ok_mem (tb_at5 81 rfl) rfl)
theorem lk_RX0_110 : Cond.methodLink RX0 110 yX5_mateOf ∈ okT := ok_mem (tb_at5 89 rfl) rfl
theorem lk_RX0_114 : Cond.methodLink RX0 114 yX10_slot ∈ okT ∨ ∃ host, Cond.methodLinkNest RX0 114 yX10_slot host ∈ nestW := Or.inr ⟨"BoreDesk", nest_mem (tb_at5 90 rfl) rfl⟩
theorem lk_RX0_121 : Cond.methodLink RX0 121 yX0_layerIn ∈ okT := ok_mem (tb_at5 119 rfl) rfl
theorem lk_RX0_124 : Cond.methodLink RX0 124 yX0_setOfHoles ∈ okT := ok_mem (tb_at5 165 rfl) rfl
theorem lk_RX0_127 : Cond.methodLink RX0 127 yJ6_bitCount_0f7a4 ∈ okT ∨ ∃ host, Cond.methodLinkNest RX0 127 yJ6_bitCount_0f7a4 host ∈ nestW := Or.inl (ok_mem (tb_at5 166 rfl) rfl)
theorem lk_RX0_132 : Cond.methodLink RX0 132 yX0_putInOrder ∈ okT := ok_mem (tb_at5 144 rfl) rfl
theorem lk_RX0_136 : Cond.methodLink RX0 136 yX0_firstFree ∈ okT := ok_mem (tb_at5 148 rfl) rfl
theorem lk_RX0_140 : Cond.methodLink RX0 140 yX0_isFree ∈ okT := ok_mem (tb_at5 152 rfl) rfl
theorem lk_RX0_144 : Cond.methodLink RX0 144 yX0_isHigher ∈ okT := ok_mem (tb_at5 156 rfl) rfl
theorem lk_RX0_148 : Cond.methodLink RX0 148 yX0_isBetween ∈ okT := ok_mem (tb_at6 62 rfl) rfl
theorem lk_RX1_23 : Cond.methodLink RX1 23 yX2_clear ∈ okT := ok_mem (tb_at3 166 rfl) rfl
theorem lk_RX1_28 : Cond.methodLink RX1 28 yX6_isAtEnd ∈ okT := ok_mem (tb_at3 170 rfl) rfl
theorem lk_RX1_34 : Cond.methodLink RX1 34 yX1_passPart ∈ okT := ok_mem (tb_at3 174 rfl) rfl
theorem lk_RX1_37 : Cond.methodLink RX1 37 yX6_word ∈ okT := ok_mem (tb_at3 178 rfl) rfl
theorem lk_RX1_41 : Cond.methodLink RX1 41 yX1_passRock ∈ okT := ok_mem (tb_at3 182 rfl) rfl
theorem lk_RX1_44 : Cond.methodLink RX1 44 yX1_passUnlike ∈ okT := ok_mem (tb_at4 24 rfl) rfl
theorem lk_RX1_47 : Cond.methodLink RX1 47 yX1_passHole ∈ okT := ok_mem (tb_at4 35 rfl) rfl
theorem lk_RX1_50 : Cond.methodLink RX1 50 yX1_passTriangle ∈ okT := ok_mem (tb_at4 60 rfl) rfl
theorem lk_RX1_53 : Cond.methodLink RX1 53 yX1_passFault ∈ okT := ok_mem (tb_at4 76 rfl) rfl
theorem lk_RX1_56 : Cond.methodLink RX1 56 yX6_refuseToken ∈ okT := ok_mem (tb_at3 186 rfl) rfl
theorem lk_RX1_64 : Cond.methodLink RX1 64 yX6_goOn ∈ okT := ok_mem (tb_at3 190 rfl) rfl
theorem lk_RX1_67 : Cond.methodLink RX1 67 yX1_isNewName ∈ okT := ok_mem (tb_at3 194 rfl) rfl
theorem lk_RX1_70 : Cond.methodLink RX1 70 yX6_nameFault ∈ okT := ok_mem (tb_at3 225 rfl) rfl
theorem lk_RX1_73 : Cond.methodLink RX1 73 yX6_name ∈ okT := ok_mem (tb_at3 202 rfl) rfl
theorem lk_RX1_77 : Cond.methodLink RX1 77 yX6_value ∈ okT := ok_mem (tb_at3 230 rfl) rfl
theorem lk_RX1_80 : Cond.methodLink RX1 80 yX6_passNumber ∈ okT := ok_mem (tb_at3 234 rfl) rfl
theorem lk_RX1_84 : Cond.methodLink RX1 84 yX2_addRock ∈ okT := ok_mem (tb_at4 8 rfl) rfl
theorem lk_RX1_88 : Cond.methodLink RX1 88 yX6_passSemicolon ∈ okT := ok_mem (tb_at4 16 rfl) rfl
theorem lk_RX1_91 : Cond.methodLink RX1 91 yX2_rockNamed ∈ okT := ok_mem (tb_at4 28 rfl) rfl
theorem lk_RX1_95 : Cond.methodLink RX1 95 yX6_passWord ∈ okT := ok_mem (tb_at4 29 rfl) rfl
theorem lk_RX1_98 : Cond.methodLink RX1 98 yX2_setCostOfTwo ∈ okT := ok_mem (tb_at4 34 rfl) rfl
theorem lk_RX1_105 : Cond.methodLink RX1 105 yX6_isNumber ∈ okT := ok_mem (tb_at4 39 rfl) rfl
theorem lk_RX1_108 : Cond.methodLink RX1 108 yX6_numberFault ∈ okT := ok_mem (tb_at4 40 rfl) rfl
theorem lk_RX1_111 : Cond.methodLink RX1 111 yX2_isHoleAt ∈ okT := ok_mem (tb_at4 41 rfl) rfl
theorem lk_RX1_114 : Cond.methodLink RX1 114 yX2_addHole ∈ okT := ok_mem (tb_at4 45 rfl) rfl
theorem lk_RX1_118 : Cond.methodLink RX1 118 yX1_passBeds ∈ okT := ok_mem (tb_at4 49 rfl) rfl
theorem lk_RX1_121 : Cond.methodLink RX1 121 yX2_addLayer ∈ okT := ok_mem (tb_at4 53 rfl) rfl
theorem lk_RX1_128 : Cond.methodLink RX1 128 yX2_holeNamed ∈ okT := ok_mem (tb_at4 64 rfl) rfl
theorem lk_RX1_131 : Cond.methodLink RX1 131 yX2_turnOfHoles ∈ okT := ok_mem (tb_at4 65 rfl) rfl
theorem lk_RX1_135 : Cond.methodLink RX1 135 yX2_addTriangle ∈ okT := ok_mem (tb_at4 72 rfl) rfl
theorem lk_RX1_141 : Cond.methodLink RX1 141 yX1_passCoordinate ∈ okT := ok_mem (tb_at4 80 rfl) rfl
theorem lk_RX1_144 : Cond.methodLink RX1 144 yX2_addFault ∈ okT := ok_mem (tb_at4 84 rfl) rfl
theorem lk_RX1_148 : Cond.methodLink RX1 148 yX6_isName ∈ okT := ok_mem (tb_at3 198 rfl) rfl
theorem lk_RX1_151 : Cond.methodLink RX1 151 yX2_isTakenName ∈ okT := ok_mem (tb_at3 206 rfl) rfl
theorem lk_RX2_65 : Cond.methodLink RX2 65 arraycopyName ∈ okT := ok_mem (tb_at4 88 rfl) rfl
theorem lk_RX2_71 : Cond.methodLink RX2 71 yX2_isHole ∈ okT := ok_mem (tb_at4 226 rfl) rfl
theorem lk_RX2_75 : Cond.methodLink RX2 75 yX2_placeOf ∈ okT ∨ ∃ host, Cond.methodLinkNest RX2 75 yX2_placeOf host ∈ nestW := Or.inl (ok_mem (tb_at3 214 rfl) rfl)
theorem lk_RX2_79 : Cond.methodLink RX2 79 yX2_rockNamed ∈ okT := ok_mem (tb_at3 210 rfl) rfl
theorem lk_RX2_83 : Cond.methodLink RX2 83 yX2_holeNamed ∈ okT := ok_mem (tb_at3 217 rfl) rfl
theorem lk_RX2_86 : Cond.methodLink RX2 86 yX2_faultNamed ∈ okT := ok_mem (tb_at3 221 rfl) rfl
theorem lk_RX2_89 : Cond.methodLink RX2 89 yX2_setCostOfTwo ∈ okT := ok_mem (tb_at4 12 rfl) rfl
theorem lk_RX2_93 : Cond.methodLink RX2 93 yX10_slot ∈ okT ∨ ∃ host, Cond.methodLinkNest RX2 93 yX10_slot host ∈ nestW := Or.inr ⟨"BoreDesk", nest_mem (tb_at4 57 rfl) rfl⟩
theorem lk_RX2_97 : Cond.methodLink RX2 97 yX2_thickAbove ∈ okT := ok_mem (tb_at4 206 rfl) rfl
theorem lk_RX2_100 : Cond.methodLink RX2 100 yX2_isOnRight ∈ okT := ok_mem (tb_at4 214 rfl) rfl
theorem lk_RX2_104 : Cond.methodLink RX2 104 yX2_thrownDown ∈ okT := ok_mem (tb_at4 232 rfl) rfl
theorem lk_RX2_108 : Cond.methodLink RX2 108 yX2_hasRockOnTop ∈ okT := ok_mem (tb_at6 152 rfl) rfl
theorem lk_RX2_111 : Cond.methodLink RX2 111 Lib.Math.min.name ∈ okT := ok_mem (tb_at6 164 rfl) rfl
theorem lk_RX2_116 : Cond.methodLink RX2 116 yX2_turnOf ∈ okT ∨ ∃ host, Cond.methodLinkNest RX2 116 yX2_turnOf host ∈ nestW := Or.inl (ok_mem (tb_at4 69 rfl) rfl)
theorem lk_RX2_120 : Cond.methodLink RX2 120 yX2_cornerHole ∈ okT := ok_mem (tb_at5 188 rfl) rfl
theorem lk_RX2_123 : Cond.methodLink RX2 123 yX2_turnOfHoles ∈ okT := ok_mem (tb_at5 192 rfl) rfl
theorem lk_RX2_127 : Cond.methodLink RX2 127 yX2_turn ∈ okT := ok_mem (tb_at5 184 rfl) rfl
theorem lk_RX2_130 : Cond.methodLink RX2 130 Lib.Math.abs.name ∈ okT := ok_mem (tb_at5 193 rfl) rfl
theorem lk_RX2_133 : Cond.methodLink RX2 133 yX2_isSplit ∈ okT := ok_mem (tb_at5 225 rfl) rfl
theorem lk_RX2_136 : Cond.methodLink RX2 136 yX2_isInside ∈ okT := ok_mem (tb_at5 226 rfl) rfl
theorem lk_RX2_140 : Cond.methodLink RX2 140 yX2_weight ∈ okT := ok_mem (tb_at5 230 rfl) rfl
theorem lk_RX3_47 : Cond.methodLink RX3 47 yX3_behindEnd ∈ okT := ok_mem (tb_at6 178 rfl) rfl
theorem lk_RX3_51 : Cond.methodLink RX3 51 yX3_behindStep ∈ okT := ok_mem (tb_at6 182 rfl) rfl
theorem lk_RX3_67 : Cond.methodLink RX3 67 yX3_layDown ∈ okT := ok_mem (tb_at6 186 rfl) rfl
theorem lk_RX3_71 : Cond.methodLink RX3 71 yX2_wearOff ∈ okT := ok_mem (tb_at6 191 rfl) rfl
theorem lk_RX3_77 : Cond.methodLink RX3 77 yX3_storm ∈ okT := ok_mem (tb_at6 192 rfl) rfl
theorem lk_RX3_81 : Cond.methodLink RX3 81 yX3_move ∈ okT := ok_mem (tb_at6 201 rfl) rfl
theorem lk_RX3_85 : Cond.methodLink RX3 85 yX3_holds ∈ okT ∨ ∃ host, Cond.methodLinkNest RX3 85 yX3_holds host ∈ nestW := Or.inl (ok_mem (tb_at6 205 rfl) rfl)
theorem lk_RX3_89 : Cond.methodLink RX3 89 yX2_layOn ∈ okT := ok_mem (tb_at6 190 rfl) rfl
theorem lk_RX3_96 : Cond.methodLink RX3 96 yX3_nextDraw ∈ okT := ok_mem (tb_at6 196 rfl) rfl
theorem lk_RX3_104 : Cond.methodLink RX3 104 yX2_hasRock ∈ okT := ok_mem (tb_at6 208 rfl) rfl
theorem lk_RX3_108 : Cond.methodLink RX3 108 yX2_hasRockOnTop ∈ okT := ok_mem (tb_at6 212 rfl) rfl
theorem lk_RX3_111 : Cond.methodLink RX3 111 yX2_allThick ∈ okT := ok_mem (tb_at6 213 rfl) rfl
theorem lk_RX3_114 : Cond.methodLink RX3 114 yX3_compares ∈ okT ∨ ∃ host, Cond.methodLinkNest RX3 114 yX3_compares host ∈ nestW := Or.inl (ok_mem (tb_at6 214 rfl) rfl)
theorem lk_RX4_22 : Cond.methodLink RX4 22 yX4_isPick ∈ okT ∨ ∃ host, Cond.methodLinkNest RX4 22 yX4_isPick host ∈ nestW := Or.inl (ok_mem (tb_at6 98 rfl) rfl)
theorem lk_RX4_42 : Cond.methodLink RX4 42 yX10_slot ∈ okT ∨ ∃ host, Cond.methodLinkNest RX4 42 yX10_slot host ∈ nestW := Or.inr ⟨"BoreDesk", nest_mem (tb_at6 78 rfl) rfl⟩
theorem lk_RX4_49 : Cond.methodLink RX4 49 yX4_unfold ∈ okT := ok_mem (tb_at6 74 rfl) rfl
theorem lk_RX4_56 : Cond.methodLink RX4 56 yX7_put ∈ okT := ok_mem (tb_at6 79 rfl) rfl
theorem lk_RX4_60 : Cond.methodLink RX4 60 yX4_alike ∈ okT := ok_mem (tb_at6 139 rfl) rfl
theorem lk_RX5_30 : Cond.methodLink RX5 30 yX5_leastFrom ∈ okT := ok_mem (tb_at5 26 rfl) rfl
theorem lk_RX5_34 : Cond.methodLink RX5 34 yX5_trace ∈ okT := ok_mem (tb_at5 45 rfl) rfl
theorem lk_RX5_38 : Cond.methodLink RX5 38 yX10_slot ∈ okT ∨ ∃ host, Cond.methodLinkNest RX5 38 yX10_slot host ∈ nestW := Or.inr ⟨"BoreDesk", nest_mem (tb_at5 30 rfl) rfl⟩
theorem lk_RX5_43 : Cond.methodLink RX5 43 yX5_pairCost ∈ okT ∨ ∃ host, Cond.methodLinkNest RX5 43 yX5_pairCost host ∈ nestW := Or.inl (ok_mem (tb_at5 32 rfl) rfl)
theorem lk_RX5_47 : Cond.methodLink RX5 47 yX5_leftOutCost ∈ okT ∨ ∃ host, Cond.methodLinkNest RX5 47 yX5_leftOutCost host ∈ nestW := Or.inl (ok_mem (tb_at5 39 rfl) rfl)
theorem lk_RX5_51 : Cond.methodLink RX5 51 Lib.Math.min.name ∈ okT := ok_mem (tb_at5 42 rfl) rfl
theorem lk_RX5_59 : Cond.methodLink RX5 59 yX2_costOfTwo ∈ okT := ok_mem (tb_at5 35 rfl) rfl
theorem lk_RX5_65 : Cond.methodLink RX5 65 Lib.Math.abs.name ∈ okT := ok_mem (tb_at5 36 rfl) rfl
theorem lk_RX6_49 : Cond.methodLink RX6 49 yX6_isBlank ∈ okT ∨ ∃ host, Cond.methodLinkNest RX6 49 yX6_isBlank host ∈ nestW := Or.inl (ok_mem (tb_at3 79 rfl) rfl)
theorem lk_RX6_53 : Cond.methodLink RX6 53 yX6_readToken ∈ okT := ok_mem (tb_at3 82 rfl) rfl
theorem lk_RX6_57 : Cond.methodLink RX6 57 yX6_addToken ∈ okT := ok_mem (tb_at3 151 rfl) rfl
theorem lk_RX6_61 : Cond.methodLink RX6 61 yX6_isLetter ∈ okT ∨ ∃ host, Cond.methodLinkNest RX6 61 yX6_isLetter host ∈ nestW := Or.inl (ok_mem (tb_at3 86 rfl) rfl)
theorem lk_RX6_64 : Cond.methodLink RX6 64 yX6_readWord ∈ okT := ok_mem (tb_at3 89 rfl) rfl
theorem lk_RX6_67 : Cond.methodLink RX6 67 yX6_isDigit ∈ okT ∨ ∃ host, Cond.methodLinkNest RX6 67 yX6_isDigit host ∈ nestW := Or.inl (ok_mem (tb_at3 155 rfl) rfl)
theorem lk_RX6_70 : Cond.methodLink RX6 70 yX6_readNumber ∈ okT := ok_mem (tb_at3 158 rfl) rfl
theorem lk_RX6_75 : Cond.methodLink RX6 75 yX6_keptWord ∈ okT := ok_mem (tb_at3 94 rfl) rfl
theorem lk_RX6_80 : Cond.methodLink RX6 80 yJ0_length_8abf5 ∈ okT := ok_mem (tb_at3 99 rfl) rfl
theorem lk_RX6_86 : Cond.methodLink RX6 86 yJ0_charAt_5068e ∈ okT := ok_mem (tb_at3 109 rfl) rfl
theorem lk_RX6_90 : Cond.methodLink RX6 90 yX6_isSpelt ∈ okT := ok_mem (tb_at3 147 rfl) rfl
theorem lk_RX6_94 : Cond.methodLink RX6 94 yX6_isName ∈ okT := ok_mem (tb_at3 229 rfl) rfl
theorem lk_RX6_98 : Cond.methodLink RX6 98 yX6_isNumber ∈ okT := ok_mem (tb_at3 238 rfl) rfl
theorem lk_RX6_102 : Cond.methodLink RX6 102 yX6_numberFault ∈ okT := ok_mem (tb_at4 2 rfl) rfl
theorem lk_RX6_105 : Cond.methodLink RX6 105 yX6_refuseToken ∈ okT := ok_mem (tb_at4 6 rfl) rfl
theorem lk_RX6_108 : Cond.methodLink RX6 108 yX6_goOn ∈ okT := ok_mem (tb_at4 7 rfl) rfl
theorem lk_RX6_111 : Cond.methodLink RX6 111 yX6_word ∈ okT := ok_mem (tb_at4 33 rfl) rfl
theorem lk_RX6_114 : Cond.methodLink RX6 114 yX6_isSign ∈ okT := ok_mem (tb_at4 20 rfl) rfl
theorem lk_RX8_38 : Cond.methodLink RX8 38 arraycopyName ∈ okT := ok_mem (tb_at6 238 rfl) rfl
theorem lk_RX9_31 : Cond.methodLink RX9 31 yX8_forget ∈ okT := ok_mem (tb_at4 109 rfl) rfl
theorem lk_RX9_36 : Cond.methodLink RX9 36 yX6_isAtEnd ∈ okT := ok_mem (tb_at4 110 rfl) rfl
theorem lk_RX9_42 : Cond.methodLink RX9 42 yX9_passStep ∈ okT := ok_mem (tb_at4 111 rfl) rfl
theorem lk_RX9_45 : Cond.methodLink RX9 45 yX6_refuseToken ∈ okT := ok_mem (tb_at4 120 rfl) rfl
theorem lk_RX9_53 : Cond.methodLink RX9 53 yX6_word ∈ okT := ok_mem (tb_at4 115 rfl) rfl
theorem lk_RX9_57 : Cond.methodLink RX9 57 yX9_passEnd ∈ okT := ok_mem (tb_at4 116 rfl) rfl
theorem lk_RX9_60 : Cond.methodLink RX9 60 yX9_isDoing ∈ okT ∨ ∃ host, Cond.methodLinkNest RX9 60 yX9_isDoing host ∈ nestW := Or.inl (ok_mem (tb_at4 127 rfl) rfl)
theorem lk_RX9_63 : Cond.methodLink RX9 63 yX8_isFull ∈ okT := ok_mem (tb_at4 130 rfl) rfl
theorem lk_RX9_66 : Cond.methodLink RX9 66 yX6_goOn ∈ okT := ok_mem (tb_at4 125 rfl) rfl
theorem lk_RX9_69 : Cond.methodLink RX9 69 yX8_add ∈ okT := ok_mem (tb_at4 121 rfl) rfl
theorem lk_RX9_73 : Cond.methodLink RX9 73 yX9_passRest ∈ okT := ok_mem (tb_at4 134 rfl) rfl
theorem lk_RX9_77 : Cond.methodLink RX9 77 yX6_passSemicolon ∈ okT := ok_mem (tb_at4 126 rfl) rfl
theorem lk_RX9_83 : Cond.methodLink RX9 83 yX9_passHole ∈ okT := ok_mem (tb_at4 138 rfl) rfl
theorem lk_RX9_86 : Cond.methodLink RX9 86 yX9_passRock ∈ okT := ok_mem (tb_at4 149 rfl) rfl
theorem lk_RX9_89 : Cond.methodLink RX9 89 yX9_passNumber ∈ okT := ok_mem (tb_at4 154 rfl) rfl
theorem lk_RX9_93 : Cond.methodLink RX9 93 yX9_passFault ∈ okT := ok_mem (tb_at4 160 rfl) rfl
theorem lk_RX9_96 : Cond.methodLink RX9 96 yX9_passComparison ∈ okT := ok_mem (tb_at4 165 rfl) rfl
theorem lk_RX9_102 : Cond.methodLink RX9 102 yX6_name ∈ okT := ok_mem (tb_at4 142 rfl) rfl
theorem lk_RX9_106 : Cond.methodLink RX9 106 yX2_holeNamed ∈ okT := ok_mem (tb_at4 143 rfl) rfl
theorem lk_RX9_112 : Cond.methodLink RX9 112 yX9_passNameOf ∈ okT := ok_mem (tb_at4 144 rfl) rfl
theorem lk_RX9_118 : Cond.methodLink RX9 118 yX2_rockNamed ∈ okT := ok_mem (tb_at4 153 rfl) rfl
theorem lk_RX9_121 : Cond.methodLink RX9 121 yX2_faultNamed ∈ okT := ok_mem (tb_at4 164 rfl) rfl
theorem lk_RX9_124 : Cond.methodLink RX9 124 yX6_nameFault ∈ okT := ok_mem (tb_at4 148 rfl) rfl
theorem lk_RX9_130 : Cond.methodLink RX9 130 yX6_value ∈ okT := ok_mem (tb_at4 158 rfl) rfl
theorem lk_RX9_133 : Cond.methodLink RX9 133 yX6_passNumber ∈ okT := ok_mem (tb_at4 159 rfl) rfl
theorem lk_RX9_135 : Cond.methodLink RX9 135 yX6_isSign ∈ okT := ok_mem (tb_at4 169 rfl) rfl
theorem lk_RL_13 : Cond.methodLink RL 13 yX10_status ∈ okT := ok_mem (tb_at2 230 rfl) rfl
theorem lk_RL_17 : Cond.methodLink RL 17 yX11_status ∈ okT := ok_mem (tb_at7 148 rfl) rfl
theorem lk_RL_18 : Cond.methodLink RL 18 yX10_top ∈ okT := ok_mem (tb_at2 234 rfl) rfl
theorem lk_RL_22 : Cond.methodLink RL 22 yX11_top ∈ okT := ok_mem (tb_at7 152 rfl) rfl
theorem lk_RL_23 : Cond.methodLink RL 23 yX10_bottom ∈ okT := ok_mem (tb_at2 238 rfl) rfl
theorem lk_RL_26 : Cond.methodLink RL 26 yX11_bottom ∈ okT := ok_mem (tb_at7 156 rfl) rfl
theorem lk_RL_27 : Cond.methodLink RL 27 yX10_tray ∈ okT := ok_mem (tb_at3 2 rfl) rfl
theorem lk_RL_31 : Cond.methodLink RL 31 yX11_tray ∈ okT := ok_mem (tb_at7 160 rfl) rfl
theorem lk_RL_34 : Cond.methodLink RL 34 yX10_write ∈ okT := ok_mem (tb_at3 24 rfl) rfl
theorem lk_RL_38 : Cond.methodLink RL 38 yX11_write ∈ okT := ok_mem (tb_at7 171 rfl) rfl
theorem lk_RL_39 : Cond.methodLink RL 39 yX10_read ∈ okT := ok_mem (tb_at3 44 rfl) rfl
theorem lk_RL_43 : Cond.methodLink RL 43 yX11_read ∈ okT := ok_mem (tb_at7 182 rfl) rfl
theorem lk_RL_44 : Cond.methodLink RL 44 yX10_pour ∈ okT := ok_mem (tb_at3 52 rfl) rfl
theorem lk_RL_48 : Cond.methodLink RL 48 yX11_pour ∈ okT := ok_mem (tb_at7 187 rfl) rfl
theorem lk_RL_49 : Cond.methodLink RL 49 yX10_feed ∈ okT := ok_mem (tb_at3 59 rfl) rfl
theorem lk_RL_53 : Cond.methodLink RL 53 yX11_feed ∈ okT := ok_mem (tb_at7 191 rfl) rfl
theorem lk_RL_54 : Cond.methodLink RL 54 yX10_field ∈ okT := ok_mem (tb_at3 71 rfl) rfl
theorem lk_RL_58 : Cond.methodLink RL 58 yX11_field ∈ okT := ok_mem (tb_at7 203 rfl) rfl
theorem lk_RL_59 : Cond.methodLink RL 59 yX10_years ∈ okT := ok_mem (tb_at4 101 rfl) rfl
theorem lk_RL_62 : Cond.methodLink RL 62 yX11_years ∈ okT := ok_mem (tb_at8 81 rfl) rfl
theorem lk_RL_63 : Cond.methodLink RL 63 yX10_fault ∈ okT := ok_mem (tb_at4 170 rfl) rfl
theorem lk_RL_66 : Cond.methodLink RL 66 yX11_fault ∈ okT := ok_mem (tb_at7 199 rfl) rfl
theorem lk_RL_67 : Cond.methodLink RL 67 yX10_told ∈ okT := ok_mem (tb_at4 174 rfl) rfl
theorem lk_RL_70 : Cond.methodLink RL 70 yX11_told ∈ okT := ok_mem (tb_at8 105 rfl) rfl
theorem lk_RL_71 : Cond.methodLink RL 71 yX10_skip ∈ okT := ok_mem (tb_at4 178 rfl) rfl
theorem lk_RL_74 : Cond.methodLink RL 74 yX11_skip ∈ okT := ok_mem (tb_at8 109 rfl) rfl
theorem lk_RL_75 : Cond.methodLink RL 75 yX10_unlike ∈ okT := ok_mem (tb_at4 186 rfl) rfl
theorem lk_RL_79 : Cond.methodLink RL 79 yX11_unlike ∈ okT := ok_mem (tb_at8 117 rfl) rfl
theorem lk_RL_80 : Cond.methodLink RL 80 yX10_hole ∈ okT := ok_mem (tb_at4 194 rfl) rfl
theorem lk_RL_83 : Cond.methodLink RL 83 yX11_hole ∈ okT := ok_mem (tb_at8 125 rfl) rfl
theorem lk_RL_84 : Cond.methodLink RL 84 yX10_layer ∈ okT := ok_mem (tb_at4 218 rfl) rfl
theorem lk_RL_88 : Cond.methodLink RL 88 yX11_layer ∈ okT := ok_mem (tb_at8 156 rfl) rfl
theorem lk_RL_89 : Cond.methodLink RL 89 yX10_layerAt ∈ okT := ok_mem (tb_at4 233 rfl) rfl
theorem lk_RL_92 : Cond.methodLink RL 92 yX11_layerAt ∈ okT := ok_mem (tb_at8 172 rfl) rfl
theorem lk_RL_93 : Cond.methodLink RL 93 yX10_side ∈ okT := ok_mem (tb_at5 5 rfl) rfl
theorem lk_RL_96 : Cond.methodLink RL 96 yX11_side ∈ okT := ok_mem (tb_at8 176 rfl) rfl
theorem lk_RL_97 : Cond.methodLink RL 97 yX10_match ∈ okT := ok_mem (tb_at5 18 rfl) rfl
theorem lk_RL_100 : Cond.methodLink RL 100 yX11_match ∈ okT := ok_mem (tb_at8 180 rfl) rfl
theorem lk_RL_101 : Cond.methodLink RL 101 yX10_pairOf ∈ okT := ok_mem (tb_at5 49 rfl) rfl
theorem lk_RL_104 : Cond.methodLink RL 104 yX11_pairOf ∈ okT := ok_mem (tb_at8 198 rfl) rfl
theorem lk_RL_105 : Cond.methodLink RL 105 yX10_pairs ∈ okT := ok_mem (tb_at5 57 rfl) rfl
theorem lk_RL_108 : Cond.methodLink RL 108 yX11_pairs ∈ okT := ok_mem (tb_at8 206 rfl) rfl
theorem lk_RL_109 : Cond.methodLink RL 109 yX10_tree ∈ okT := ok_mem (tb_at5 61 rfl) rfl
theorem lk_RL_112 : Cond.methodLink RL 112 yX11_tree ∈ okT := ok_mem (tb_at8 210 rfl) rfl
theorem lk_RL_113 : Cond.methodLink RL 113 yX10_treeCost ∈ okT := ok_mem (tb_at5 95 rfl) rfl
theorem lk_RL_116 : Cond.methodLink RL 116 yX11_treeCost ∈ okT := ok_mem (tb_at8 222 rfl) rfl
theorem lk_RL_117 : Cond.methodLink RL 117 yX10_beds ∈ okT := ok_mem (tb_at5 99 rfl) rfl
theorem lk_RL_120 : Cond.methodLink RL 120 yX11_beds ∈ okT := ok_mem (tb_at8 226 rfl) rfl
theorem lk_RL_121 : Cond.methodLink RL 121 yX10_bedOf ∈ okT := ok_mem (tb_at5 103 rfl) rfl
theorem lk_RL_124 : Cond.methodLink RL 124 yX11_bedOf ∈ okT := ok_mem (tb_at8 234 rfl) rfl
theorem lk_RL_125 : Cond.methodLink RL 125 yX10_holesOf ∈ okT := ok_mem (tb_at5 107 rfl) rfl
theorem lk_RL_128 : Cond.methodLink RL 128 yX11_holesOf ∈ okT := ok_mem (tb_at8 238 rfl) rfl
theorem lk_RL_129 : Cond.methodLink RL 129 yX10_bed ∈ okT := ok_mem (tb_at5 123 rfl) rfl
theorem lk_RL_132 : Cond.methodLink RL 132 yX11_bed ∈ okT := ok_mem (tb_at9 14 rfl) rfl
theorem lk_RL_133 : Cond.methodLink RL 133 yX10_above ∈ okT := ok_mem (tb_at5 128 rfl) rfl
theorem lk_RL_136 : Cond.methodLink RL 136 yX11_above ∈ okT := ok_mem (tb_at9 22 rfl) rfl
theorem lk_RL_137 : Cond.methodLink RL 137 yX10_order ∈ okT := ok_mem (tb_at5 136 rfl) rfl
theorem lk_RL_140 : Cond.methodLink RL 140 yX11_order ∈ okT := ok_mem (tb_at9 30 rfl) rfl
theorem lk_RL_141 : Cond.methodLink RL 141 yX10_widest ∈ okT := ok_mem (tb_at5 157 rfl) rfl
theorem lk_RL_144 : Cond.methodLink RL 144 yX11_widest ∈ okT := ok_mem (tb_at9 38 rfl) rfl
theorem lk_RL_145 : Cond.methodLink RL 145 yX10_area ∈ okT := ok_mem (tb_at5 172 rfl) rfl
theorem lk_RL_149 : Cond.methodLink RL 149 yX11_area ∈ okT := ok_mem (tb_at9 45 rfl) rfl
theorem lk_RL_150 : Cond.methodLink RL 150 yX10_across ∈ okT := ok_mem (tb_at5 206 rfl) rfl
theorem lk_RL_153 : Cond.methodLink RL 153 yX11_across ∈ okT := ok_mem (tb_at9 69 rfl) rfl
theorem lk_RL_154 : Cond.methodLink RL 154 yX10_triangleAt ∈ okT := ok_mem (tb_at5 214 rfl) rfl
theorem lk_RL_157 : Cond.methodLink RL 157 yX11_triangleAt ∈ okT := ok_mem (tb_at9 77 rfl) rfl
theorem lk_RL_158 : Cond.methodLink RL 158 yX10_topAt ∈ okT := ok_mem (tb_at5 234 rfl) rfl
theorem lk_RL_161 : Cond.methodLink RL 161 yX11_topAt ∈ okT := ok_mem (tb_at9 96 rfl) rfl
theorem lk_RL_162 : Cond.methodLink RL 162 yX10_thickAt ∈ okT := ok_mem (tb_at6 9 rfl) rfl
theorem lk_RL_165 : Cond.methodLink RL 165 yX11_thickAt ∈ okT := ok_mem (tb_at9 100 rfl) rfl
theorem lk_RL_166 : Cond.methodLink RL 166 yX10_volume ∈ okT := ok_mem (tb_at6 17 rfl) rfl
theorem lk_RL_170 : Cond.methodLink RL 170 yX11_volume ∈ okT := ok_mem (tb_at9 104 rfl) rfl
theorem lk_RL_171 : Cond.methodLink RL 171 yX10_volumeOf ∈ okT := ok_mem (tb_at6 26 rfl) rfl
theorem lk_RL_174 : Cond.methodLink RL 174 yX11_volumeOf ∈ okT := ok_mem (tb_at9 113 rfl) rfl
theorem lk_RL_175 : Cond.methodLink RL 175 yX10_tilt ∈ okT := ok_mem (tb_at6 30 rfl) rfl
theorem lk_RL_178 : Cond.methodLink RL 178 yX11_tilt ∈ okT := ok_mem (tb_at9 117 rfl) rfl
theorem lk_RL_179 : Cond.methodLink RL 179 yX10_deepest ∈ okT := ok_mem (tb_at6 42 rfl) rfl
theorem lk_RL_182 : Cond.methodLink RL 182 yX11_deepest ∈ okT := ok_mem (tb_at9 121 rfl) rfl
theorem lk_RL_183 : Cond.methodLink RL 183 yX10_shared ∈ okT := ok_mem (tb_at6 46 rfl) rfl
theorem lk_RL_186 : Cond.methodLink RL 186 yX11_shared ∈ okT := ok_mem (tb_at9 125 rfl) rfl
theorem lk_RL_187 : Cond.methodLink RL 187 yX10_gaps ∈ okT := ok_mem (tb_at6 54 rfl) rfl
theorem lk_RL_190 : Cond.methodLink RL 190 yX11_gaps ∈ okT := ok_mem (tb_at9 129 rfl) rfl
theorem lk_RL_191 : Cond.methodLink RL 191 yX10_draws ∈ okT := ok_mem (tb_at6 66 rfl) rfl
theorem lk_RL_194 : Cond.methodLink RL 194 yX11_draws ∈ okT := ok_mem (tb_at9 183 rfl) rfl
theorem lk_RL_195 : Cond.methodLink RL 195 yX10_picks ∈ okT := ok_mem (tb_at6 80 rfl) rfl
theorem lk_RL_199 : Cond.methodLink RL 199 yX11_picks ∈ okT := ok_mem (tb_at9 133 rfl) rfl
theorem lk_RL_200 : Cond.methodLink RL 200 yX10_pickAt ∈ okT := ok_mem (tb_at6 102 rfl) rfl
theorem lk_RL_203 : Cond.methodLink RL 203 yX11_pickAt ∈ okT := ok_mem (tb_at9 151 rfl) rfl
theorem lk_RL_204 : Cond.methodLink RL 204 yX10_fill ∈ okT := ok_mem (tb_at6 106 rfl) rfl
theorem lk_RL_207 : Cond.methodLink RL 207 yX11_fill ∈ okT := ok_mem (tb_at9 155 rfl) rfl
theorem lk_RL_208 : Cond.methodLink RL 208 yX10_runs ∈ okT := ok_mem (tb_at6 114 rfl) rfl
theorem lk_RL_211 : Cond.methodLink RL 211 yX11_runs ∈ okT := ok_mem (tb_at9 159 rfl) rfl
theorem lk_RL_212 : Cond.methodLink RL 212 yX10_agrees ∈ okT := ok_mem (tb_at6 122 rfl) rfl
theorem lk_RL_215 : Cond.methodLink RL 215 yX11_agrees ∈ okT := ok_mem (tb_at9 163 rfl) rfl
theorem lk_RL_216 : Cond.methodLink RL 216 yX10_shift ∈ okT := ok_mem (tb_at6 131 rfl) rfl
theorem lk_RL_219 : Cond.methodLink RL 219 yX11_shift ∈ okT := ok_mem (tb_at9 175 rfl) rfl
theorem lk_RL_220 : Cond.methodLink RL 220 yX10_likest ∈ okT := ok_mem (tb_at6 140 rfl) rfl
theorem lk_RL_223 : Cond.methodLink RL 223 yX11_likest ∈ okT := ok_mem (tb_at9 179 rfl) rfl
theorem lk_RL_224 : Cond.methodLink RL 224 yX10_lay ∈ okT := ok_mem (tb_at6 144 rfl) rfl
theorem lk_RL_227 : Cond.methodLink RL 227 yX11_lay ∈ okT := ok_mem (tb_at9 187 rfl) rfl
theorem lk_RL_228 : Cond.methodLink RL 228 yX10_wear ∈ okT := ok_mem (tb_at6 156 rfl) rfl
theorem lk_RL_231 : Cond.methodLink RL 231 yX11_wear ∈ okT := ok_mem (tb_at9 200 rfl) rfl
theorem lk_RL_232 : Cond.methodLink RL 232 yX10_throwing ∈ okT := ok_mem (tb_at6 165 rfl) rfl
theorem lk_RL_235 : Cond.methodLink RL 235 yX11_throwing ∈ okT := ok_mem (tb_at9 208 rfl) rfl
theorem lk_RL_236 : Cond.methodLink RL 236 yX10_live ∈ okT := ok_mem (tb_at6 169 rfl) rfl
theorem lk_RL_239 : Cond.methodLink RL 239 yX11_live ∈ okT := ok_mem (tb_at9 212 rfl) rfl
theorem lk_RL_240 : Cond.methodLink RL 240 yX10_lived ∈ okT := ok_mem (tb_at6 217 rfl) rfl
theorem lk_RL_243 : Cond.methodLink RL 243 yX11_lived ∈ okT := ok_mem (tb_at10 2 rfl) rfl
theorem lk_RL_244 : Cond.methodLink RL 244 yX10_odds ∈ okT := ok_mem (tb_at6 221 rfl) rfl
theorem lk_RL_248 : Cond.methodLink RL 248 yX11_odds ∈ okT := ok_mem (tb_at10 6 rfl) rfl
theorem lk_RL_249 : Cond.methodLink RL 249 yX10_mark ∈ okT := ok_mem (tb_at6 230 rfl) rfl
theorem lk_RL_252 : Cond.methodLink RL 252 yX11_mark ∈ okT := ok_mem (tb_at10 11 rfl) rfl
theorem lk_RL_253 : Cond.methodLink RL 253 yX10_back ∈ okT := ok_mem (tb_at6 239 rfl) rfl
theorem lk_RL_256 : Cond.methodLink RL 256 yX11_back ∈ okT := ok_mem (tb_at10 19 rfl) rfl
theorem lk_RX11_102 : Cond.methodLink RX11 102 yX11_refuse ∈ okT := ok_mem (tb_at7 227 rfl) rfl
theorem lk_RX11_106 : Cond.methodLink RX11 106 yX11_gives ∈ okT := ok_mem (tb_at8 77 rfl) rfl
theorem lk_RX11_109 : Cond.methodLink RX11 109 yX11_is ∈ okT := ok_mem (tb_at7 167 rfl) rfl
theorem lk_RX11_113 : Cond.methodLink RX11 113 yX11_isTray ∈ okT ∨ ∃ host, Cond.methodLinkNest RX11 113 yX11_isTray host ∈ nestW := Or.inl (ok_mem (tb_at7 164 rfl) rfl)
theorem lk_RX11_116 : Cond.methodLink RX11 116 yX11_wrongPlace ∈ okT := ok_mem (tb_at7 175 rfl) rfl
theorem lk_RX11_120 : Cond.methodLink RX11 120 yX11_cut ∈ okT ∨ ∃ host, Cond.methodLinkNest RX11 120 yX11_cut host ∈ nestW := Or.inl (ok_mem (tb_at7 179 rfl) rfl)
theorem lk_RX11_129 : Cond.methodLink RX11 129 yX11_four ∈ okT := ok_mem (tb_at7 195 rfl) rfl
theorem lk_RX11_139 : Cond.methodLink RX11 139 yX11_byteAt ∈ okT := ok_mem (tb_at7 215 rfl) rfl
theorem lk_RX11_151 : Cond.methodLink RX11 151 yX11_isSmall ∈ okT ∨ ∃ host, Cond.methodLinkNest RX11 151 yX11_isSmall host ∈ nestW := Or.inl (ok_mem (tb_at7 219 rfl) rfl)
theorem lk_RX11_154 : Cond.methodLink RX11 154 yX11_isDigit ∈ okT ∨ ∃ host, Cond.methodLinkNest RX11 154 yX11_isDigit host ∈ nestW := Or.inl (ok_mem (tb_at7 222 rfl) rfl)
theorem lk_RX11_158 : Cond.methodLink RX11 158 Lib.Math.min.name ∈ okT := ok_mem (tb_at7 226 rfl) rfl
theorem lk_RX11_163 : Cond.methodLink RX11 163 yJ0_length_8abf5 ∈ okT := ok_mem (tb_at8 0 rfl) rfl
theorem lk_RX11_169 : Cond.methodLink RX11 169 yJ0_charAt_5068e ∈ okT := ok_mem (tb_at8 1 rfl) rfl
theorem lk_RX11_179 : Cond.methodLink RX11 179 yX11_ahead ∈ okT := ok_mem (tb_at7 211 rfl) rfl
theorem lk_RX11_182 : Cond.methodLink RX11 182 yX11_isSign ∈ okT := ok_mem (tb_at8 69 rfl) rfl
theorem lk_RX11_185 : Cond.methodLink RX11 185 yX11_fails ∈ okT := ok_mem (tb_at8 10 rfl) rfl
theorem lk_RX11_188 : Cond.methodLink RX11 188 yX11_inWords ∈ okT := ok_mem (tb_at7 236 rfl) rfl
theorem lk_RX11_192 : Cond.methodLink RX11 192 yX11_nameHere ∈ okT := ok_mem (tb_at8 22 rfl) rfl
theorem lk_RX11_198 : Cond.methodLink RX11 198 yX11_isName ∈ okT := ok_mem (tb_at8 14 rfl) rfl
theorem lk_RX11_202 : Cond.methodLink RX11 202 yX11_findHere ∈ okT := ok_mem (tb_at8 18 rfl) rfl
theorem lk_RX11_205 : Cond.methodLink RX11 205 yX11_newOne ∈ okT := ok_mem (tb_at8 6 rfl) rfl
theorem lk_RX11_209 : Cond.methodLink RX11 209 yX11_isThere ∈ okT := ok_mem (tb_at8 26 rfl) rfl
theorem lk_RX11_212 : Cond.methodLink RX11 212 yX11_number ∈ okT := ok_mem (tb_at8 30 rfl) rfl
theorem lk_RX11_215 : Cond.methodLink RX11 215 yX11_oldOne ∈ okT := ok_mem (tb_at8 38 rfl) rfl
theorem lk_RX11_218 : Cond.methodLink RX11 218 yX11_wantWord ∈ okT := ok_mem (tb_at8 42 rfl) rfl
theorem lk_RX11_222 : Cond.methodLink RX11 222 yX11_leftOf ∈ okT ∨ ∃ host, Cond.methodLinkNest RX11 222 yX11_leftOf host ∈ nestW := Or.inl (ok_mem (tb_at8 58 rfl) rfl)
theorem lk_RX11_226 : Cond.methodLink RX11 226 yX11_cornersOf ∈ okT := ok_mem (tb_at8 54 rfl) rfl
theorem lk_RX11_230 : Cond.methodLink RX11 230 yX11_aRock ∈ okT := ok_mem (tb_at8 2 rfl) rfl
theorem lk_RX11_234 : Cond.methodLink RX11 234 yX11_unlikes ∈ okT := ok_mem (tb_at8 34 rfl) rfl
theorem lk_RX11_237 : Cond.methodLink RX11 237 yX11_aHole ∈ okT := ok_mem (tb_at8 46 rfl) rfl
theorem lk_RX11_240 : Cond.methodLink RX11 240 yX11_aTriangle ∈ okT := ok_mem (tb_at8 50 rfl) rfl
theorem lk_RX11_243 : Cond.methodLink RX11 243 yX11_aFault ∈ okT := ok_mem (tb_at8 61 rfl) rfl
theorem lk_RX11_246 : Cond.methodLink RX11 246 yX11_wantSign ∈ okT := ok_mem (tb_at8 65 rfl) rfl
theorem lk_RX11_249 : Cond.methodLink RX11 249 yX11_begins ∈ okT := ok_mem (tb_at7 207 rfl) rfl
theorem lk_RX11_253 : Cond.methodLink RX11 253 yX11_fieldPart ∈ okT := ok_mem (tb_at7 231 rfl) rfl
theorem lk_RX11_256 : Cond.methodLink RX11 256 yX11_taken ∈ okT := ok_mem (tb_at8 73 rfl) rfl
theorem lk_RX11_259 : Cond.methodLink RX11 259 yX11_holeTo ∈ okT := ok_mem (tb_at8 93 rfl) rfl
theorem lk_RX11_262 : Cond.methodLink RX11 262 yX11_rockTo ∈ okT := ok_mem (tb_at8 97 rfl) rfl
theorem lk_RX11_265 : Cond.methodLink RX11 265 yX11_test ∈ okT := ok_mem (tb_at8 101 rfl) rfl
theorem lk_RX11_274 : Cond.methodLink RX11 274 yX11_yearOrder ∈ okT := ok_mem (tb_at8 89 rfl) rfl
theorem lk_RX11_277 : Cond.methodLink RX11 277 yX11_step ∈ okT := ok_mem (tb_at8 85 rfl) rfl
theorem lk_RX11_280 : Cond.methodLink RX11 280 yX11_holeRow ∈ okT ∨ ∃ host, Cond.methodLinkNest RX11 280 yX11_holeRow host ∈ nestW := Or.inl (ok_mem (tb_at8 137 rfl) rfl)
theorem lk_RX11_283 : Cond.methodLink RX11 283 yX11_isRock ∈ okT := ok_mem (tb_at8 113 rfl) rfl
theorem lk_RX11_287 : Cond.methodLink RX11 287 yX11_unlikeOf ∈ okT := ok_mem (tb_at8 121 rfl) rfl
theorem lk_RX11_290 : Cond.methodLink RX11 290 yX11_thickOf ∈ okT := ok_mem (tb_at8 144 rfl) rfl
theorem lk_RX11_293 : Cond.methodLink RX11 293 yX11_isRight ∈ okT := ok_mem (tb_at8 152 rfl) rfl
theorem lk_RX11_296 : Cond.methodLink RX11 296 yX11_thrown ∈ okT := ok_mem (tb_at8 148 rfl) rfl
theorem lk_RX11_299 : Cond.methodLink RX11 299 yX11_allThick ∈ okT := ok_mem (tb_at8 140 rfl) rfl
theorem lk_RX11_302 : Cond.methodLink RX11 302 yX11_isHole ∈ okT := ok_mem (tb_at8 129 rfl) rfl
theorem lk_RX11_305 : Cond.methodLink RX11 305 yX11_layersOf ∈ okT := ok_mem (tb_at8 133 rfl) rfl
theorem lk_RX11_308 : Cond.methodLink RX11 308 yX11_isLayer ∈ okT := ok_mem (tb_at8 160 rfl) rfl
theorem lk_RX11_311 : Cond.methodLink RX11 311 yX11_rockOf ∈ okT := ok_mem (tb_at8 164 rfl) rfl
theorem lk_RX11_314 : Cond.methodLink RX11 314 yX11_depthOf ∈ okT := ok_mem (tb_at8 168 rfl) rfl
theorem lk_RX11_317 : Cond.methodLink RX11 317 Lib.Math.abs.name ∈ okT := ok_mem (tb_at8 193 rfl) rfl
theorem lk_RX11_323 : Cond.methodLink RX11 323 yX11_pairCost ∈ okT := ok_mem (tb_at8 189 rfl) rfl
theorem lk_RX11_327 : Cond.methodLink RX11 327 yX11_leftCost ∈ okT := ok_mem (tb_at8 194 rfl) rfl
theorem lk_RX11_330 : Cond.methodLink RX11 330 yX11_matches ∈ okT := ok_mem (tb_at8 184 rfl) rfl
theorem lk_RX11_333 : Cond.methodLink RX11 333 yX11_orNone ∈ okT := ok_mem (tb_at8 202 rfl) rfl
theorem lk_RX11_339 : Cond.methodLink RX11 339 yX11_square ∈ okT := ok_mem (tb_at8 218 rfl) rfl
theorem lk_RX11_342 : Cond.methodLink RX11 342 yX11_laysTree ∈ okT := ok_mem (tb_at8 214 rfl) rfl
theorem lk_RX11_348 : Cond.methodLink RX11 348 yX11_laysBeds ∈ okT := ok_mem (tb_at8 230 rfl) rfl
theorem lk_RX11_351 : Cond.methodLink RX11 351 yX11_firstOf ∈ okT := ok_mem (tb_at9 10 rfl) rfl
theorem lk_RX11_354 : Cond.methodLink RX11 354 yX11_isBed ∈ okT := ok_mem (tb_at9 2 rfl) rfl
theorem lk_RX11_357 : Cond.methodLink RX11 357 yX11_holesWith ∈ okT := ok_mem (tb_at9 6 rfl) rfl
theorem lk_RX11_360 : Cond.methodLink RX11 360 yX11_thickIn ∈ okT := ok_mem (tb_at9 18 rfl) rfl
theorem lk_RX11_363 : Cond.methodLink RX11 363 yX11_isAbove ∈ okT := ok_mem (tb_at9 26 rfl) rfl
theorem lk_RX11_366 : Cond.methodLink RX11 366 yX11_orders ∈ okT := ok_mem (tb_at9 34 rfl) rfl
theorem lk_RX11_369 : Cond.methodLink RX11 369 yX11_bits ∈ okT ∨ ∃ host, Cond.methodLinkNest RX11 369 yX11_bits host ∈ nestW := Or.inl (ok_mem (tb_at9 42 rfl) rfl)
theorem lk_RX11_372 : Cond.methodLink RX11 372 yX11_corner ∈ okT := ok_mem (tb_at9 57 rfl) rfl
theorem lk_RX11_375 : Cond.methodLink RX11 375 yX11_isTriangle ∈ okT := ok_mem (tb_at9 49 rfl) rfl
theorem lk_RX11_378 : Cond.methodLink RX11 378 yX11_twiceArea ∈ okT := ok_mem (tb_at9 53 rfl) rfl
theorem lk_RX11_382 : Cond.methodLink RX11 382 yX11_size ∈ okT ∨ ∃ host, Cond.methodLinkNest RX11 382 yX11_size host ∈ nestW := Or.inl (ok_mem (tb_at9 61 rfl) rfl)
theorem lk_RX11_387 : Cond.methodLink RX11 387 yX11_tellsBy ∈ okT := ok_mem (tb_at9 65 rfl) rfl
theorem lk_RX11_391 : Cond.methodLink RX11 391 yX11_isAcross ∈ okT := ok_mem (tb_at9 73 rfl) rfl
theorem lk_RX11_394 : Cond.methodLink RX11 394 yX11_weighs ∈ okT := ok_mem (tb_at9 92 rfl) rfl
theorem lk_RX11_399 : Cond.methodLink RX11 399 yX11_isFrom ∈ okT ∨ ∃ host, Cond.methodLinkNest RX11 399 yX11_isFrom host ∈ nestW := Or.inl (ok_mem (tb_at9 85 rfl) rfl)
theorem lk_RX11_403 : Cond.methodLink RX11 403 yX11_isPoint ∈ okT ∨ ∃ host, Cond.methodLinkNest RX11 403 yX11_isPoint host ∈ nestW := Or.inl (ok_mem (tb_at9 81 rfl) rfl)
theorem lk_RX11_406 : Cond.methodLink RX11 406 yX11_triangleOf ∈ okT := ok_mem (tb_at9 88 rfl) rfl
theorem lk_RX11_409 : Cond.methodLink RX11 409 yX11_sixVolumes ∈ okT := ok_mem (tb_at9 108 rfl) rfl
theorem lk_RX11_415 : Cond.methodLink RX11 415 yX11_logAt ∈ okT := ok_mem (tb_at9 147 rfl) rfl
theorem lk_RX11_422 : Cond.methodLink RX11 422 yX11_wrongLog ∈ okT := ok_mem (tb_at9 139 rfl) rfl
theorem lk_RX11_429 : Cond.methodLink RX11 429 yX11_isPick ∈ okT := ok_mem (tb_at9 143 rfl) rfl
theorem lk_RX11_433 : Cond.methodLink RX11 433 yX11_rockAt ∈ okT := ok_mem (tb_at9 171 rfl) rfl
theorem lk_RX11_436 : Cond.methodLink RX11 436 yX11_agreeing ∈ okT := ok_mem (tb_at9 167 rfl) rfl
theorem lk_RX11_441 : Cond.methodLink RX11 441 yX11_wrongLay ∈ okT := ok_mem (tb_at9 192 rfl) rfl
theorem lk_RX11_445 : Cond.methodLink RX11 445 yX11_lays ∈ okT := ok_mem (tb_at9 196 rfl) rfl
theorem lk_RX11_449 : Cond.methodLink RX11 449 yX11_wears ∈ okT := ok_mem (tb_at9 204 rfl) rfl
theorem lk_RX11_456 : Cond.methodLink RX11 456 yX11_draw ∈ okT := ok_mem (tb_at9 225 rfl) rfl
theorem lk_RX11_459 : Cond.methodLink RX11 459 yX11_hasRock ∈ okT := ok_mem (tb_at9 234 rfl) rfl
theorem lk_RX11_465 : Cond.methodLink RX11 465 yX11_does ∈ okT := ok_mem (tb_at9 221 rfl) rfl
theorem lk_RX11_468 : Cond.methodLink RX11 468 yX11_holds ∈ okT := ok_mem (tb_at9 230 rfl) rfl
theorem lk_RX11_471 : Cond.methodLink RX11 471 yX11_behindEnds ∈ okT := ok_mem (tb_at9 238 rfl) rfl
theorem lk_RX11_476 : Cond.methodLink RX11 476 yX11_lives ∈ okT := ok_mem (tb_at9 217 rfl) rfl
theorem lk_RX11_488 : Cond.methodLink RX11 488 yX11_copies ∈ okT := ok_mem (tb_at10 15 rfl) rfl
theorem mv_X10_above : MV yX10_above cX10_above 3 (some .int) 2 := ⟨ok_mem (tb_at5 131 rfl) rfl, ok_mem (tb_at1 1 rfl) rfl, ⟨by decide +kernel, by decide +kernel⟩, by decide +kernel⟩
theorem mi_X10_above : MI yX10_above 10 := ⟨ok_mem (tb_at5 129 rfl) (by decide +kernel), ok_mem (tb_at5 130 rfl) (by decide +kernel), _, _, rfl⟩
theorem mv_X10_across : MV yX10_across cX10_across 2 (some .int) 1 := ⟨ok_mem (tb_at5 209 rfl) rfl, ok_mem (tb_at1 1 rfl) rfl, ⟨by decide +kernel, by decide +kernel⟩, by decide +kernel⟩
theorem mi_X10_across : MI yX10_across 10 := ⟨ok_mem (tb_at5 207 rfl) (by decide +kernel), ok_mem (tb_at5 208 rfl) (by decide +kernel), _, _, rfl⟩
theorem mv_X10_agrees : MV yX10_agrees cX10_agrees 5 (some .int) 3 := ⟨ok_mem (tb_at6 125 rfl) rfl, ok_mem (tb_at1 1 rfl) rfl, ⟨by decide +kernel, by decide +kernel⟩, by decide +kernel⟩
theorem mi_X10_agrees : MI yX10_agrees 10 := ⟨ok_mem (tb_at6 123 rfl) (by decide +kernel), ok_mem (tb_at6 124 rfl) (by decide +kernel), _, _, rfl⟩
theorem mv_X10_answer : MV yX10_answer cX10_answer 2 (some .int) 1 := ⟨ok_mem (tb_at4 100 rfl) rfl, ok_mem (tb_at1 1 rfl) rfl, ⟨by decide +kernel, by decide +kernel⟩, by decide +kernel⟩
theorem mi_X10_answer : MI yX10_answer 10 := ⟨ok_mem (tb_at4 99 rfl) (by decide +kernel), ok_mem (sel_at 19 rfl) (by decide +kernel), _, _, rfl⟩
theorem mv_X10_answerOrNoSuch : MV yX10_answerOrNoSuch cX10_answerOrNoSuch 2 (some .int) 1 := ⟨ok_mem (tb_at5 4 rfl) rfl, ok_mem (tb_at1 1 rfl) rfl, ⟨by decide +kernel, by decide +kernel⟩, by decide +kernel⟩
theorem mi_X10_answerOrNoSuch : MI yX10_answerOrNoSuch 10 := ⟨ok_mem (tb_at5 3 rfl) (by decide +kernel), ok_mem (sel_at 30 rfl) (by decide +kernel), _, _, rfl⟩
theorem mv_X10_answerYes : MV yX10_answerYes cX10_answerYes 2 (some .int) 1 := ⟨ok_mem (tb_at5 17 rfl) rfl, ok_mem (tb_at1 1 rfl) rfl, ⟨by decide +kernel, by decide +kernel⟩, by decide +kernel⟩
theorem mi_X10_answerYes : MI yX10_answerYes 10 := ⟨ok_mem (tb_at5 16 rfl) (by decide +kernel), ok_mem (sel_at 31 rfl) (by decide +kernel), _, _, rfl⟩
theorem mv_X10_area : MV yX10_area cX10_area 2 (some .boolean) 1 := ⟨ok_mem (tb_at5 175 rfl) rfl, ok_mem (tb_at1 1 rfl) rfl, ⟨by decide +kernel, by decide +kernel⟩, by decide +kernel⟩
theorem mi_X10_area : MI yX10_area 10 := ⟨ok_mem (tb_at5 173 rfl) (by decide +kernel), ok_mem (tb_at5 174 rfl) (by decide +kernel), _, _, rfl⟩
theorem mv_X10_back : MV yX10_back cX10_back 1 (some .int) 0 := ⟨ok_mem (tb_at7 2 rfl) rfl, ok_mem (tb_at1 1 rfl) rfl, ⟨by decide +kernel, by decide +kernel⟩, by decide +kernel⟩
theorem mi_X10_back : MI yX10_back 10 := ⟨ok_mem (tb_at7 0 rfl) (by decide +kernel), ok_mem (tb_at7 1 rfl) (by decide +kernel), _, _, rfl⟩
theorem mv_X10_bed : MV yX10_bed cX10_bed 5 (some .int) 3 := ⟨ok_mem (tb_at5 126 rfl) rfl, ok_mem (tb_at1 1 rfl) rfl, ⟨by decide +kernel, by decide +kernel⟩, by decide +kernel⟩
theorem mi_X10_bed : MI yX10_bed 10 := ⟨ok_mem (tb_at5 124 rfl) (by decide +kernel), ok_mem (tb_at5 125 rfl) (by decide +kernel), _, _, rfl⟩
theorem mv_X10_bedOf : MV yX10_bedOf cX10_bedOf 3 (some .int) 2 := ⟨ok_mem (tb_at5 106 rfl) rfl, ok_mem (tb_at1 1 rfl) rfl, ⟨by decide +kernel, by decide +kernel⟩, by decide +kernel⟩
theorem mi_X10_bedOf : MI yX10_bedOf 10 := ⟨ok_mem (tb_at5 104 rfl) (by decide +kernel), ok_mem (tb_at5 105 rfl) (by decide +kernel), _, _, rfl⟩
theorem mv_X10_beds : MV yX10_beds cX10_beds 1 (some .int) 0 := ⟨ok_mem (tb_at5 102 rfl) rfl, ok_mem (tb_at1 1 rfl) rfl, ⟨by decide +kernel, by decide +kernel⟩, by decide +kernel⟩
theorem mi_X10_beds : MI yX10_beds 10 := ⟨ok_mem (tb_at5 100 rfl) (by decide +kernel), ok_mem (tb_at5 101 rfl) (by decide +kernel), _, _, rfl⟩
theorem mv_X10_bottom : MV yX10_bottom cX10_bottom 1 (some .long) 0 := ⟨ok_mem (tb_at3 1 rfl) rfl, ok_mem (tb_at1 1 rfl) rfl, ⟨by decide +kernel, by decide +kernel⟩, by decide +kernel⟩
theorem mi_X10_bottom : MI yX10_bottom 10 := ⟨ok_mem (tb_at2 239 rfl) (by decide +kernel), ok_mem (tb_at3 0 rfl) (by decide +kernel), _, _, rfl⟩
theorem mv_X10_commonDivisor : MV yX10_commonDivisor cX10_commonDivisor 11 (some .long) 2 := ⟨ok_mem (tb_at5 201 rfl) rfl, ok_mem (tb_at1 1 rfl) rfl, ⟨by decide +kernel, by decide +kernel⟩, by decide +kernel⟩
theorem ms_X10_commonDivisor : Cond.static yX10_commonDivisor ∈ okT := ok_mem (tb_at5 200 rfl) (by decide +kernel)
theorem mv_X10_deepest : MV yX10_deepest cX10_deepest 6 (some .int) 1 := ⟨ok_mem (tb_at6 45 rfl) rfl, ok_mem (tb_at1 1 rfl) rfl, ⟨by decide +kernel, by decide +kernel⟩, by decide +kernel⟩
theorem mi_X10_deepest : MI yX10_deepest 10 := ⟨ok_mem (tb_at6 43 rfl) (by decide +kernel), ok_mem (tb_at6 44 rfl) (by decide +kernel), _, _, rfl⟩
theorem mv_X10_deny : MV yX10_deny cX10_deny 2 (some .boolean) 1 := ⟨ok_mem (tb_at3 15 rfl) rfl, ok_mem (tb_at1 1 rfl) rfl, ⟨by decide +kernel, by decide +kernel⟩, by decide +kernel⟩
theorem mi_X10_deny : MI yX10_deny 10 := ⟨ok_mem (tb_at3 14 rfl) (by decide +kernel), ok_mem (sel_at 0 rfl) (by decide +kernel), _, _, rfl⟩
theorem mv_X10_depthAtCorner : MV yX10_depthAtCorner cX10_depthAtCorner 5 (some .long) 3 := ⟨ok_mem (tb_at6 7 rfl) rfl, ok_mem (tb_at1 1 rfl) rfl, ⟨by decide +kernel, by decide +kernel⟩, by decide +kernel⟩
theorem mi_X10_depthAtCorner : MI yX10_depthAtCorner 10 := ⟨ok_mem (tb_at6 6 rfl) (by decide +kernel), ok_mem (sel_at 45 rfl) (by decide +kernel), _, _, rfl⟩
theorem mv_X10_draws : MV yX10_draws cX10_draws 3 (some .int) 2 := ⟨ok_mem (tb_at6 69 rfl) rfl, ok_mem (tb_at1 1 rfl) rfl, ⟨by decide +kernel, by decide +kernel⟩, by decide +kernel⟩
theorem mi_X10_draws : MI yX10_draws 10 := ⟨ok_mem (tb_at6 67 rfl) (by decide +kernel), ok_mem (tb_at6 68 rfl) (by decide +kernel), _, _, rfl⟩
theorem mv_X10_fault : MV yX10_fault cX10_fault 2 (some .int) 1 := ⟨ok_mem (tb_at4 173 rfl) rfl, ok_mem (tb_at1 1 rfl) rfl, ⟨by decide +kernel, by decide +kernel⟩, by decide +kernel⟩
theorem mi_X10_fault : MI yX10_fault 10 := ⟨ok_mem (tb_at4 171 rfl) (by decide +kernel), ok_mem (tb_at4 172 rfl) (by decide +kernel), _, _, rfl⟩
theorem mv_X10_feed : MV yX10_feed cX10_feed 6 (some .int) 5 := ⟨ok_mem (tb_at3 62 rfl) rfl, ok_mem (tb_at1 1 rfl) rfl, ⟨by decide +kernel, by decide +kernel⟩, by decide +kernel⟩
theorem mi_X10_feed : MI yX10_feed 10 := ⟨ok_mem (tb_at3 60 rfl) (by decide +kernel), ok_mem (tb_at3 61 rfl) (by decide +kernel), _, _, rfl⟩
theorem mv_X10_field : MV yX10_field cX10_field 3 (some .int) 1 := ⟨ok_mem (tb_at3 74 rfl) rfl, ok_mem (tb_at1 1 rfl) rfl, ⟨by decide +kernel, by decide +kernel⟩, by decide +kernel⟩
theorem mi_X10_field : MI yX10_field 10 := ⟨ok_mem (tb_at3 72 rfl) (by decide +kernel), ok_mem (tb_at3 73 rfl) (by decide +kernel), _, _, rfl⟩
theorem mv_X10_fill : MV yX10_fill cX10_fill 4 (some .int) 2 := ⟨ok_mem (tb_at6 109 rfl) rfl, ok_mem (tb_at1 1 rfl) rfl, ⟨by decide +kernel, by decide +kernel⟩, by decide +kernel⟩
theorem mi_X10_fill : MI yX10_fill 10 := ⟨ok_mem (tb_at6 107 rfl) (by decide +kernel), ok_mem (tb_at6 108 rfl) (by decide +kernel), _, _, rfl⟩
theorem mv_X10_gaps : MV yX10_gaps cX10_gaps 2 (some .int) 1 := ⟨ok_mem (tb_at6 57 rfl) rfl, ok_mem (tb_at1 1 rfl) rfl, ⟨by decide +kernel, by decide +kernel⟩, by decide +kernel⟩
theorem mi_X10_gaps : MI yX10_gaps 10 := ⟨ok_mem (tb_at6 55 rfl) (by decide +kernel), ok_mem (tb_at6 56 rfl) (by decide +kernel), _, _, rfl⟩
theorem mv_X10_grant : MV yX10_grant cX10_grant 1 (some .boolean) 0 := ⟨ok_mem (tb_at3 23 rfl) rfl, ok_mem (tb_at1 1 rfl) rfl, ⟨by decide +kernel, by decide +kernel⟩, by decide +kernel⟩
theorem mi_X10_grant : MI yX10_grant 10 := ⟨ok_mem (tb_at3 22 rfl) (by decide +kernel), ok_mem (sel_at 1 rfl) (by decide +kernel), _, _, rfl⟩
theorem mv_X10_hasAtCorners : MV yX10_hasAtCorners cX10_hasAtCorners 4 (some .boolean) 2 := ⟨ok_mem (tb_at6 1 rfl) rfl, ok_mem (tb_at1 1 rfl) rfl, ⟨by decide +kernel, by decide +kernel⟩, by decide +kernel⟩
theorem mi_X10_hasAtCorners : MI yX10_hasAtCorners 10 := ⟨ok_mem (tb_at6 0 rfl) (by decide +kernel), ok_mem (sel_at 44 rfl) (by decide +kernel), _, _, rfl⟩
theorem mv_X10_hole : MV yX10_hole cX10_hole 3 (some .int) 2 := ⟨ok_mem (tb_at4 197 rfl) rfl, ok_mem (tb_at1 1 rfl) rfl, ⟨by decide +kernel, by decide +kernel⟩, by decide +kernel⟩
theorem mi_X10_hole : MI yX10_hole 10 := ⟨ok_mem (tb_at4 195 rfl) (by decide +kernel), ok_mem (tb_at4 196 rfl) (by decide +kernel), _, _, rfl⟩
theorem mv_X10_holesOf : MV yX10_holesOf cX10_holesOf 2 (some .int) 1 := ⟨ok_mem (tb_at5 110 rfl) rfl, ok_mem (tb_at1 1 rfl) rfl, ⟨by decide +kernel, by decide +kernel⟩, by decide +kernel⟩
theorem mi_X10_holesOf : MI yX10_holesOf 10 := ⟨ok_mem (tb_at5 108 rfl) (by decide +kernel), ok_mem (tb_at5 109 rfl) (by decide +kernel), _, _, rfl⟩
theorem mv_X10_isBed : MV yX10_isBed cX10_isBed 2 (some .boolean) 1 := ⟨ok_mem (tb_at5 114 rfl) rfl, ok_mem (tb_at1 1 rfl) rfl, ⟨by decide +kernel, by decide +kernel⟩, by decide +kernel⟩
theorem mi_X10_isBed : MI yX10_isBed 10 := ⟨ok_mem (tb_at5 113 rfl) (by decide +kernel), ok_mem (sel_at 38 rfl) (by decide +kernel), _, _, rfl⟩
theorem mv_X10_isPoint : MV yX10_isPoint cX10_isPoint 2 (some .boolean) 2 := ⟨ok_mem (tb_at5 220 rfl) rfl, ok_mem (tb_at1 1 rfl) rfl, ⟨by decide +kernel, by decide +kernel⟩, by decide +kernel⟩
theorem ms_X10_isPoint : Cond.static yX10_isPoint ∈ okT := ok_mem (tb_at5 219 rfl) (by decide +kernel)
theorem mv_X10_isTray : MV yX10_isTray cX10_isTray 1 (some .boolean) 1 := ⟨ok_mem (tb_at3 8 rfl) rfl, ok_mem (tb_at1 1 rfl) rfl, ⟨by decide +kernel, by decide +kernel⟩, by decide +kernel⟩
theorem ms_X10_isTray : Cond.static yX10_isTray ∈ okT := ok_mem (tb_at3 7 rfl) (by decide +kernel)
theorem mv_X10_isWithin : MV yX10_isWithin cX10_isWithin 3 (some .boolean) 3 := ⟨ok_mem (tb_at3 11 rfl) rfl, ok_mem (tb_at1 1 rfl) rfl, ⟨by decide +kernel, by decide +kernel⟩, by decide +kernel⟩
theorem ms_X10_isWithin : Cond.static yX10_isWithin ∈ okT := ok_mem (tb_at3 10 rfl) (by decide +kernel)
theorem mv_X10_lay : MV yX10_lay cX10_lay 5 (some .int) 3 := ⟨ok_mem (tb_at6 147 rfl) rfl, ok_mem (tb_at1 1 rfl) rfl, ⟨by decide +kernel, by decide +kernel⟩, by decide +kernel⟩
theorem mi_X10_lay : MI yX10_lay 10 := ⟨ok_mem (tb_at6 145 rfl) (by decide +kernel), ok_mem (tb_at6 146 rfl) (by decide +kernel), _, _, rfl⟩
theorem mv_X10_layer : MV yX10_layer cX10_layer 4 (some .int) 3 := ⟨ok_mem (tb_at4 221 rfl) rfl, ok_mem (tb_at1 1 rfl) rfl, ⟨by decide +kernel, by decide +kernel⟩, by decide +kernel⟩
theorem mi_X10_layer : MI yX10_layer 10 := ⟨ok_mem (tb_at4 219 rfl) (by decide +kernel), ok_mem (tb_at4 220 rfl) (by decide +kernel), _, _, rfl⟩
theorem mv_X10_layerAt : MV yX10_layerAt cX10_layerAt 3 (some .int) 2 := ⟨ok_mem (tb_at4 236 rfl) rfl, ok_mem (tb_at1 1 rfl) rfl, ⟨by decide +kernel, by decide +kernel⟩, by decide +kernel⟩
theorem mi_X10_layerAt : MI yX10_layerAt 10 := ⟨ok_mem (tb_at4 234 rfl) (by decide +kernel), ok_mem (tb_at4 235 rfl) (by decide +kernel), _, _, rfl⟩
theorem mv_X10_likest : MV yX10_likest cX10_likest 8 (some .int) 2 := ⟨ok_mem (tb_at6 143 rfl) rfl, ok_mem (tb_at1 1 rfl) rfl, ⟨by decide +kernel, by decide +kernel⟩, by decide +kernel⟩
theorem mi_X10_likest : MI yX10_likest 10 := ⟨ok_mem (tb_at6 141 rfl) (by decide +kernel), ok_mem (tb_at6 142 rfl) (by decide +kernel), _, _, rfl⟩
theorem mv_X10_live : MV yX10_live cX10_live 2 (some .int) 1 := ⟨ok_mem (tb_at6 172 rfl) rfl, ok_mem (tb_at1 1 rfl) rfl, ⟨by decide +kernel, by decide +kernel⟩, by decide +kernel⟩
theorem mi_X10_live : MI yX10_live 10 := ⟨ok_mem (tb_at6 170 rfl) (by decide +kernel), ok_mem (tb_at6 171 rfl) (by decide +kernel), _, _, rfl⟩
theorem mv_X10_lived : MV yX10_lived cX10_lived 2 (some .int) 1 := ⟨ok_mem (tb_at6 220 rfl) rfl, ok_mem (tb_at1 1 rfl) rfl, ⟨by decide +kernel, by decide +kernel⟩, by decide +kernel⟩
theorem mi_X10_lived : MI yX10_lived 10 := ⟨ok_mem (tb_at6 218 rfl) (by decide +kernel), ok_mem (tb_at6 219 rfl) (by decide +kernel), _, _, rfl⟩
theorem mv_X10_logStatus : MV yX10_logStatus cX10_logStatus 4 (some .int) 3 := ⟨ok_mem (tb_at6 88 rfl) rfl, ok_mem (tb_at1 1 rfl) rfl, ⟨by decide +kernel, by decide +kernel⟩, by decide +kernel⟩
theorem mi_X10_logStatus : MI yX10_logStatus 10 := ⟨ok_mem (tb_at6 87 rfl) (by decide +kernel), ok_mem (sel_at 49 rfl) (by decide +kernel), _, _, rfl⟩
theorem mv_X10_mark : MV yX10_mark cX10_mark 1 (some .int) 0 := ⟨ok_mem (tb_at6 233 rfl) rfl, ok_mem (tb_at1 1 rfl) rfl, ⟨by decide +kernel, by decide +kernel⟩, by decide +kernel⟩
theorem mi_X10_mark : MI yX10_mark 10 := ⟨ok_mem (tb_at6 231 rfl) (by decide +kernel), ok_mem (tb_at6 232 rfl) (by decide +kernel), _, _, rfl⟩
theorem mv_X10_match : MV yX10_match cX10_match 3 (some .int) 2 := ⟨ok_mem (tb_at5 21 rfl) rfl, ok_mem (tb_at1 1 rfl) rfl, ⟨by decide +kernel, by decide +kernel⟩, by decide +kernel⟩
theorem mi_X10_match : MI yX10_match 10 := ⟨ok_mem (tb_at5 19 rfl) (by decide +kernel), ok_mem (tb_at5 20 rfl) (by decide +kernel), _, _, rfl⟩
theorem mv_X10_odds : MV yX10_odds cX10_odds 7 (some .boolean) 4 := ⟨ok_mem (tb_at6 224 rfl) rfl, ok_mem (tb_at1 1 rfl) rfl, ⟨by decide +kernel, by decide +kernel⟩, by decide +kernel⟩
theorem mi_X10_odds : MI yX10_odds 10 := ⟨ok_mem (tb_at6 222 rfl) (by decide +kernel), ok_mem (tb_at6 223 rfl) (by decide +kernel), _, _, rfl⟩
theorem mv_X10_order : MV yX10_order cX10_order 2 (some .int) 1 := ⟨ok_mem (tb_at5 139 rfl) rfl, ok_mem (tb_at1 1 rfl) rfl, ⟨by decide +kernel, by decide +kernel⟩, by decide +kernel⟩
theorem mi_X10_order : MI yX10_order 10 := ⟨ok_mem (tb_at5 137 rfl) (by decide +kernel), ok_mem (tb_at5 138 rfl) (by decide +kernel), _, _, rfl⟩
theorem mv_X10_pairOf : MV yX10_pairOf cX10_pairOf 2 (some .int) 1 := ⟨ok_mem (tb_at5 52 rfl) rfl, ok_mem (tb_at1 1 rfl) rfl, ⟨by decide +kernel, by decide +kernel⟩, by decide +kernel⟩
theorem mi_X10_pairOf : MI yX10_pairOf 10 := ⟨ok_mem (tb_at5 50 rfl) (by decide +kernel), ok_mem (tb_at5 51 rfl) (by decide +kernel), _, _, rfl⟩
theorem mv_X10_pairs : MV yX10_pairs cX10_pairs 1 (some .int) 0 := ⟨ok_mem (tb_at5 60 rfl) rfl, ok_mem (tb_at1 1 rfl) rfl, ⟨by decide +kernel, by decide +kernel⟩, by decide +kernel⟩
theorem mi_X10_pairs : MI yX10_pairs 10 := ⟨ok_mem (tb_at5 58 rfl) (by decide +kernel), ok_mem (tb_at5 59 rfl) (by decide +kernel), _, _, rfl⟩
theorem mv_X10_pickAt : MV yX10_pickAt cX10_pickAt 2 (some .int) 1 := ⟨ok_mem (tb_at6 105 rfl) rfl, ok_mem (tb_at1 1 rfl) rfl, ⟨by decide +kernel, by decide +kernel⟩, by decide +kernel⟩
theorem mi_X10_pickAt : MI yX10_pickAt 10 := ⟨ok_mem (tb_at6 103 rfl) (by decide +kernel), ok_mem (tb_at6 104 rfl) (by decide +kernel), _, _, rfl⟩
theorem mv_X10_picks : MV yX10_picks cX10_picks 6 (some .int) 4 := ⟨ok_mem (tb_at6 83 rfl) rfl, ok_mem (tb_at1 1 rfl) rfl, ⟨by decide +kernel, by decide +kernel⟩, by decide +kernel⟩
theorem mi_X10_picks : MI yX10_picks 10 := ⟨ok_mem (tb_at6 81 rfl) (by decide +kernel), ok_mem (tb_at6 82 rfl) (by decide +kernel), _, _, rfl⟩
theorem mv_X10_placeStatus : MV yX10_placeStatus cX10_placeStatus 3 (some .int) 2 := ⟨ok_mem (tb_at3 31 rfl) rfl, ok_mem (tb_at1 1 rfl) rfl, ⟨by decide +kernel, by decide +kernel⟩, by decide +kernel⟩
theorem mi_X10_placeStatus : MI yX10_placeStatus 10 := ⟨ok_mem (tb_at3 30 rfl) (by decide +kernel), ok_mem (sel_at 2 rfl) (by decide +kernel), _, _, rfl⟩
theorem mv_X10_pour : MV yX10_pour cX10_pour 8 (some .boolean) 5 := ⟨ok_mem (tb_at3 55 rfl) rfl, ok_mem (tb_at1 1 rfl) rfl, ⟨by decide +kernel, by decide +kernel⟩, by decide +kernel⟩
theorem mi_X10_pour : MI yX10_pour 10 := ⟨ok_mem (tb_at3 53 rfl) (by decide +kernel), ok_mem (tb_at3 54 rfl) (by decide +kernel), _, _, rfl⟩
theorem mv_X10_read : MV yX10_read cX10_read 4 (some .long) 2 := ⟨ok_mem (tb_at3 47 rfl) rfl, ok_mem (tb_at1 1 rfl) rfl, ⟨by decide +kernel, by decide +kernel⟩, by decide +kernel⟩
theorem mi_X10_read : MI yX10_read 10 := ⟨ok_mem (tb_at3 45 rfl) (by decide +kernel), ok_mem (tb_at3 46 rfl) (by decide +kernel), _, _, rfl⟩
theorem mv_X10_refuse : MV yX10_refuse cX10_refuse 2 (some .int) 1 := ⟨ok_mem (tb_at3 51 rfl) rfl, ok_mem (tb_at1 1 rfl) rfl, ⟨by decide +kernel, by decide +kernel⟩, by decide +kernel⟩
theorem mi_X10_refuse : MI yX10_refuse 10 := ⟨ok_mem (tb_at3 50 rfl) (by decide +kernel), ok_mem (sel_at 3 rfl) (by decide +kernel), _, _, rfl⟩
theorem mv_X10_runs : MV yX10_runs cX10_runs 4 (some .int) 2 := ⟨ok_mem (tb_at6 117 rfl) rfl, ok_mem (tb_at1 1 rfl) rfl, ⟨by decide +kernel, by decide +kernel⟩, by decide +kernel⟩
theorem mi_X10_runs : MI yX10_runs 10 := ⟨ok_mem (tb_at6 115 rfl) (by decide +kernel), ok_mem (tb_at6 116 rfl) (by decide +kernel), _, _, rfl⟩
theorem mv_X10_shared : MV yX10_shared cX10_shared 3 (some .int) 2 := ⟨ok_mem (tb_at6 49 rfl) rfl, ok_mem (tb_at1 1 rfl) rfl, ⟨by decide +kernel, by decide +kernel⟩, by decide +kernel⟩
theorem mi_X10_shared : MI yX10_shared 10 := ⟨ok_mem (tb_at6 47 rfl) (by decide +kernel), ok_mem (tb_at6 48 rfl) (by decide +kernel), _, _, rfl⟩
theorem mv_X10_shift : MV yX10_shift cX10_shift 7 (some .int) 4 := ⟨ok_mem (tb_at6 134 rfl) rfl, ok_mem (tb_at1 1 rfl) rfl, ⟨by decide +kernel, by decide +kernel⟩, by decide +kernel⟩
theorem mi_X10_shift : MI yX10_shift 10 := ⟨ok_mem (tb_at6 132 rfl) (by decide +kernel), ok_mem (tb_at6 133 rfl) (by decide +kernel), _, _, rfl⟩
theorem mv_X10_side : MV yX10_side cX10_side 3 (some .int) 2 := ⟨ok_mem (tb_at5 8 rfl) rfl, ok_mem (tb_at1 1 rfl) rfl, ⟨by decide +kernel, by decide +kernel⟩, by decide +kernel⟩
theorem mi_X10_side : MI yX10_side 10 := ⟨ok_mem (tb_at5 6 rfl) (by decide +kernel), ok_mem (tb_at5 7 rfl) (by decide +kernel), _, _, rfl⟩
theorem mv_X10_sixfoldVolume : MV yX10_sixfoldVolume cX10_sixfoldVolume 6 (some .long) 2 := ⟨ok_mem (tb_at6 24 rfl) rfl, ok_mem (tb_at1 1 rfl) rfl, ⟨by decide +kernel, by decide +kernel⟩, by decide +kernel⟩
theorem mi_X10_sixfoldVolume : MI yX10_sixfoldVolume 10 := ⟨ok_mem (tb_at6 23 rfl) (by decide +kernel), ok_mem (sel_at 47 rfl) (by decide +kernel), _, _, rfl⟩
theorem mv_X10_skip : MV yX10_skip cX10_skip 2 (some .int) 1 := ⟨ok_mem (tb_at4 181 rfl) rfl, ok_mem (tb_at1 1 rfl) rfl, ⟨by decide +kernel, by decide +kernel⟩, by decide +kernel⟩
theorem mi_X10_skip : MI yX10_skip 10 := ⟨ok_mem (tb_at4 179 rfl) (by decide +kernel), ok_mem (tb_at4 180 rfl) (by decide +kernel), _, _, rfl⟩
theorem mv_X10_slot : MV yX10_slot cX10_slot 2 (some .int) 2 := ⟨ok_mem (tb_at4 59 rfl) rfl, ok_mem (tb_at1 1 rfl) rfl, ⟨by decide +kernel, by decide +kernel⟩, by decide +kernel⟩
theorem ms_X10_slot : Cond.static yX10_slot ∈ okT := ok_mem (tb_at4 58 rfl) (by decide +kernel)
theorem mv_X10_status : MV yX10_status cX10_status 1 (some .int) 0 := ⟨ok_mem (tb_at2 233 rfl) rfl, ok_mem (tb_at1 1 rfl) rfl, ⟨by decide +kernel, by decide +kernel⟩, by decide +kernel⟩
theorem mi_X10_status : MI yX10_status 10 := ⟨ok_mem (tb_at2 231 rfl) (by decide +kernel), ok_mem (tb_at2 232 rfl) (by decide +kernel), _, _, rfl⟩
theorem mv_X10_tell : MV yX10_tell cX10_tell 9 (some .boolean) 2 := ⟨ok_mem (tb_at5 198 rfl) rfl, ok_mem (tb_at1 1 rfl) rfl, ⟨by decide +kernel, by decide +kernel⟩, by decide +kernel⟩
theorem mi_X10_tell : MI yX10_tell 10 := ⟨ok_mem (tb_at5 197 rfl) (by decide +kernel), ok_mem (sel_at 42 rfl) (by decide +kernel), _, _, rfl⟩
theorem mv_X10_thickAt : MV yX10_thickAt cX10_thickAt 10 (some .boolean) 3 := ⟨ok_mem (tb_at6 12 rfl) rfl, ok_mem (tb_at1 1 rfl) rfl, ⟨by decide +kernel, by decide +kernel⟩, by decide +kernel⟩
theorem mi_X10_thickAt : MI yX10_thickAt 10 := ⟨ok_mem (tb_at6 10 rfl) (by decide +kernel), ok_mem (tb_at6 11 rfl) (by decide +kernel), _, _, rfl⟩
theorem mv_X10_thickAtCorner : MV yX10_thickAtCorner cX10_thickAtCorner 6 (some .long) 3 := ⟨ok_mem (tb_at6 16 rfl) rfl, ok_mem (tb_at1 1 rfl) rfl, ⟨by decide +kernel, by decide +kernel⟩, by decide +kernel⟩
theorem mi_X10_thickAtCorner : MI yX10_thickAtCorner 10 := ⟨ok_mem (tb_at6 15 rfl) (by decide +kernel), ok_mem (sel_at 46 rfl) (by decide +kernel), _, _, rfl⟩
theorem mv_X10_throwing : MV yX10_throwing cX10_throwing 3 (some .boolean) 2 := ⟨ok_mem (tb_at6 168 rfl) rfl, ok_mem (tb_at1 1 rfl) rfl, ⟨by decide +kernel, by decide +kernel⟩, by decide +kernel⟩
theorem mi_X10_throwing : MI yX10_throwing 10 := ⟨ok_mem (tb_at6 166 rfl) (by decide +kernel), ok_mem (tb_at6 167 rfl) (by decide +kernel), _, _, rfl⟩
theorem mv_X10_tilt : MV yX10_tilt cX10_tilt 12 (some .boolean) 3 := ⟨ok_mem (tb_at6 33 rfl) rfl, ok_mem (tb_at1 1 rfl) rfl, ⟨by decide +kernel, by decide +kernel⟩, by decide +kernel⟩
theorem mi_X10_tilt : MI yX10_tilt 10 := ⟨ok_mem (tb_at6 31 rfl) (by decide +kernel), ok_mem (tb_at6 32 rfl) (by decide +kernel), _, _, rfl⟩
theorem mv_X10_told : MV yX10_told cX10_told 2 (some .int) 1 := ⟨ok_mem (tb_at4 177 rfl) rfl, ok_mem (tb_at1 1 rfl) rfl, ⟨by decide +kernel, by decide +kernel⟩, by decide +kernel⟩
theorem mi_X10_told : MI yX10_told 10 := ⟨ok_mem (tb_at4 175 rfl) (by decide +kernel), ok_mem (tb_at4 176 rfl) (by decide +kernel), _, _, rfl⟩
theorem mv_X10_top : MV yX10_top cX10_top 1 (some .long) 0 := ⟨ok_mem (tb_at2 237 rfl) rfl, ok_mem (tb_at1 1 rfl) rfl, ⟨by decide +kernel, by decide +kernel⟩, by decide +kernel⟩
theorem mi_X10_top : MI yX10_top 10 := ⟨ok_mem (tb_at2 235 rfl) (by decide +kernel), ok_mem (tb_at2 236 rfl) (by decide +kernel), _, _, rfl⟩
theorem mv_X10_topAt : MV yX10_topAt cX10_topAt 10 (some .boolean) 3 := ⟨ok_mem (tb_at5 237 rfl) rfl, ok_mem (tb_at1 1 rfl) rfl, ⟨by decide +kernel, by decide +kernel⟩, by decide +kernel⟩
theorem mi_X10_topAt : MI yX10_topAt 10 := ⟨ok_mem (tb_at5 235 rfl) (by decide +kernel), ok_mem (tb_at5 236 rfl) (by decide +kernel), _, _, rfl⟩
theorem mv_X10_tray : MV yX10_tray cX10_tray 4 (some .boolean) 3 := ⟨ok_mem (tb_at3 5 rfl) rfl, ok_mem (tb_at1 1 rfl) rfl, ⟨by decide +kernel, by decide +kernel⟩, by decide +kernel⟩
theorem mi_X10_tray : MI yX10_tray 10 := ⟨ok_mem (tb_at3 3 rfl) (by decide +kernel), ok_mem (tb_at3 4 rfl) (by decide +kernel), _, _, rfl⟩
theorem mv_X10_tree : MV yX10_tree cX10_tree 3 (some .int) 2 := ⟨ok_mem (tb_at5 64 rfl) rfl, ok_mem (tb_at1 1 rfl) rfl, ⟨by decide +kernel, by decide +kernel⟩, by decide +kernel⟩
theorem mi_X10_tree : MI yX10_tree 10 := ⟨ok_mem (tb_at5 62 rfl) (by decide +kernel), ok_mem (tb_at5 63 rfl) (by decide +kernel), _, _, rfl⟩
theorem mv_X10_treeCost : MV yX10_treeCost cX10_treeCost 1 (some .int) 0 := ⟨ok_mem (tb_at5 98 rfl) rfl, ok_mem (tb_at1 1 rfl) rfl, ⟨by decide +kernel, by decide +kernel⟩, by decide +kernel⟩
theorem mi_X10_treeCost : MI yX10_treeCost 10 := ⟨ok_mem (tb_at5 96 rfl) (by decide +kernel), ok_mem (tb_at5 97 rfl) (by decide +kernel), _, _, rfl⟩
theorem mv_X10_triangleAt : MV yX10_triangleAt cX10_triangleAt 3 (some .int) 2 := ⟨ok_mem (tb_at5 217 rfl) rfl, ok_mem (tb_at1 1 rfl) rfl, ⟨by decide +kernel, by decide +kernel⟩, by decide +kernel⟩
theorem mi_X10_triangleAt : MI yX10_triangleAt 10 := ⟨ok_mem (tb_at5 215 rfl) (by decide +kernel), ok_mem (tb_at5 216 rfl) (by decide +kernel), _, _, rfl⟩
theorem mv_X10_unlike : MV yX10_unlike cX10_unlike 3 (some .int) 2 := ⟨ok_mem (tb_at4 189 rfl) rfl, ok_mem (tb_at1 1 rfl) rfl, ⟨by decide +kernel, by decide +kernel⟩, by decide +kernel⟩
theorem mi_X10_unlike : MI yX10_unlike 10 := ⟨ok_mem (tb_at4 187 rfl) (by decide +kernel), ok_mem (tb_at4 188 rfl) (by decide +kernel), _, _, rfl⟩
theorem mv_X10_volume : MV yX10_volume cX10_volume 3 (some .boolean) 2 := ⟨ok_mem (tb_at6 20 rfl) rfl, ok_mem (tb_at1 1 rfl) rfl, ⟨by decide +kernel, by decide +kernel⟩, by decide +kernel⟩
theorem mi_X10_volume : MI yX10_volume 10 := ⟨ok_mem (tb_at6 18 rfl) (by decide +kernel), ok_mem (tb_at6 19 rfl) (by decide +kernel), _, _, rfl⟩
theorem mv_X10_volumeOf : MV yX10_volumeOf cX10_volumeOf 5 (some .boolean) 1 := ⟨ok_mem (tb_at6 29 rfl) rfl, ok_mem (tb_at1 1 rfl) rfl, ⟨by decide +kernel, by decide +kernel⟩, by decide +kernel⟩
theorem mi_X10_volumeOf : MI yX10_volumeOf 10 := ⟨ok_mem (tb_at6 27 rfl) (by decide +kernel), ok_mem (tb_at6 28 rfl) (by decide +kernel), _, _, rfl⟩
theorem mv_X10_wear : MV yX10_wear cX10_wear 3 (some .int) 2 := ⟨ok_mem (tb_at6 159 rfl) rfl, ok_mem (tb_at1 1 rfl) rfl, ⟨by decide +kernel, by decide +kernel⟩, by decide +kernel⟩
theorem mi_X10_wear : MI yX10_wear 10 := ⟨ok_mem (tb_at6 157 rfl) (by decide +kernel), ok_mem (tb_at6 158 rfl) (by decide +kernel), _, _, rfl⟩
theorem mv_X10_widest : MV yX10_widest cX10_widest 1 (some .int) 0 := ⟨ok_mem (tb_at5 160 rfl) rfl, ok_mem (tb_at1 1 rfl) rfl, ⟨by decide +kernel, by decide +kernel⟩, by decide +kernel⟩
theorem mi_X10_widest : MI yX10_widest 10 := ⟨ok_mem (tb_at5 158 rfl) (by decide +kernel), ok_mem (tb_at5 159 rfl) (by decide +kernel), _, _, rfl⟩
theorem mv_X10_write : MV yX10_write cX10_write 6 (some .boolean) 3 := ⟨ok_mem (tb_at3 27 rfl) rfl, ok_mem (tb_at1 1 rfl) rfl, ⟨by decide +kernel, by decide +kernel⟩, by decide +kernel⟩
theorem mi_X10_write : MI yX10_write 10 := ⟨ok_mem (tb_at3 25 rfl) (by decide +kernel), ok_mem (tb_at3 26 rfl) (by decide +kernel), _, _, rfl⟩
theorem mv_X10_years : MV yX10_years cX10_years 3 (some .int) 1 := ⟨ok_mem (tb_at4 104 rfl) rfl, ok_mem (tb_at1 1 rfl) rfl, ⟨by decide +kernel, by decide +kernel⟩, by decide +kernel⟩
theorem mi_X10_years : MI yX10_years 10 := ⟨ok_mem (tb_at4 102 rfl) (by decide +kernel), ok_mem (tb_at4 103 rfl) (by decide +kernel), _, _, rfl⟩
theorem mv_X0_addNearest : MV yX0_addNearest cX0_addNearest 6 none 1 := ⟨ok_mem (tb_at5 76 rfl) rfl, ok_mem (tb_at1 8 rfl) rfl, ⟨by decide +kernel, by decide +kernel⟩, by decide +kernel⟩
theorem mi_X0_addNearest : MI yX0_addNearest 0 := ⟨ok_mem (tb_at5 75 rfl) (by decide +kernel), ok_mem (sel_at 35 rfl) (by decide +kernel), _, _, rfl⟩
theorem mv_X0_firstFree : MV yX0_firstFree cX0_firstFree 2 (some .int) 0 := ⟨ok_mem (tb_at5 151 rfl) rfl, ok_mem (tb_at1 8 rfl) rfl, ⟨by decide +kernel, by decide +kernel⟩, by decide +kernel⟩
theorem mi_X0_firstFree : MI yX0_firstFree 0 := ⟨ok_mem (tb_at5 150 rfl) (by decide +kernel), ok_mem (sel_at 40 rfl) (by decide +kernel), _, _, rfl⟩
theorem mv_X0_gapsIn : MV yX0_gapsIn cX0_gapsIn 4 (some .int) 1 := ⟨ok_mem (tb_at6 61 rfl) rfl, ok_mem (tb_at1 8 rfl) rfl, ⟨by decide +kernel, by decide +kernel⟩, by decide +kernel⟩
theorem mi_X0_gapsIn : MI yX0_gapsIn 0 := ⟨ok_mem (tb_at6 59 rfl) (by decide +kernel), ok_mem (tb_at6 60 rfl) (by decide +kernel), _, _, rfl⟩
theorem mv_X0_growTree : MV yX0_growTree cX0_growTree 3 none 1 := ⟨ok_mem (tb_at5 72 rfl) rfl, ok_mem (tb_at1 8 rfl) rfl, ⟨by decide +kernel, by decide +kernel⟩, by decide +kernel⟩
theorem mi_X0_growTree : MI yX0_growTree 0 := ⟨ok_mem (tb_at5 71 rfl) (by decide +kernel), ok_mem (sel_at 34 rfl) (by decide +kernel), _, _, rfl⟩
theorem mv_X0_inBoth : MV yX0_inBoth cX0_inBoth 5 (some .int) 2 := ⟨ok_mem (tb_at6 53 rfl) rfl, ok_mem (tb_at1 8 rfl) rfl, ⟨by decide +kernel, by decide +kernel⟩, by decide +kernel⟩
theorem mi_X0_inBoth : MI yX0_inBoth 0 := ⟨ok_mem (tb_at6 51 rfl) (by decide +kernel), ok_mem (tb_at6 52 rfl) (by decide +kernel), _, _, rfl⟩
theorem mv_X0_isBetween : MV yX0_isBetween cX0_isBetween 6 (some .boolean) 2 := ⟨ok_mem (tb_at6 65 rfl) rfl, ok_mem (tb_at1 8 rfl) rfl, ⟨by decide +kernel, by decide +kernel⟩, by decide +kernel⟩
theorem mi_X0_isBetween : MI yX0_isBetween 0 := ⟨ok_mem (tb_at6 64 rfl) (by decide +kernel), ok_mem (sel_at 48 rfl) (by decide +kernel), _, _, rfl⟩
theorem mv_X0_isFree : MV yX0_isFree cX0_isFree 3 (some .boolean) 1 := ⟨ok_mem (tb_at5 155 rfl) rfl, ok_mem (tb_at1 8 rfl) rfl, ⟨by decide +kernel, by decide +kernel⟩, by decide +kernel⟩
theorem mi_X0_isFree : MI yX0_isFree 0 := ⟨ok_mem (tb_at5 154 rfl) (by decide +kernel), ok_mem (sel_at 41 rfl) (by decide +kernel), _, _, rfl⟩
theorem mv_X0_isHigher : MV yX0_isHigher cX0_isHigher 4 (some .boolean) 2 := ⟨ok_mem (tb_at5 135 rfl) rfl, ok_mem (tb_at1 8 rfl) rfl, ⟨by decide +kernel, by decide +kernel⟩, by decide +kernel⟩
theorem mi_X0_isHigher : MI yX0_isHigher 0 := ⟨ok_mem (tb_at5 133 rfl) (by decide +kernel), ok_mem (tb_at5 134 rfl) (by decide +kernel), _, _, rfl⟩
theorem mv_X0_isOrdered : MV yX0_isOrdered cX0_isOrdered 1 (some .boolean) 0 := ⟨ok_mem (tb_at5 143 rfl) rfl, ok_mem (tb_at1 8 rfl) rfl, ⟨by decide +kernel, by decide +kernel⟩, by decide +kernel⟩
theorem mi_X0_isOrdered : MI yX0_isOrdered 0 := ⟨ok_mem (tb_at5 141 rfl) (by decide +kernel), ok_mem (tb_at5 142 rfl) (by decide +kernel), _, _, rfl⟩
theorem mv_X0_joinPairs : MV yX0_joinPairs cX0_joinPairs 5 none 2 := ⟨ok_mem (tb_at5 88 rfl) rfl, ok_mem (tb_at1 8 rfl) rfl, ⟨by decide +kernel, by decide +kernel⟩, by decide +kernel⟩
theorem mi_X0_joinPairs : MI yX0_joinPairs 0 := ⟨ok_mem (tb_at5 87 rfl) (by decide +kernel), ok_mem (sel_at 36 rfl) (by decide +kernel), _, _, rfl⟩
theorem mv_X0_layerIn : MV yX0_layerIn cX0_layerIn 3 (some .int) 2 := ⟨ok_mem (tb_at5 122 rfl) rfl, ok_mem (tb_at1 8 rfl) rfl, ⟨by decide +kernel, by decide +kernel⟩, by decide +kernel⟩
theorem mi_X0_layerIn : MI yX0_layerIn 0 := ⟨ok_mem (tb_at5 120 rfl) (by decide +kernel), ok_mem (tb_at5 121 rfl) (by decide +kernel), _, _, rfl⟩
theorem mv_X0_numberBeds : MV yX0_numberBeds cX0_numberBeds 5 none 1 := ⟨ok_mem (tb_at5 94 rfl) rfl, ok_mem (tb_at1 8 rfl) rfl, ⟨by decide +kernel, by decide +kernel⟩, by decide +kernel⟩
theorem mi_X0_numberBeds : MI yX0_numberBeds 0 := ⟨ok_mem (tb_at5 93 rfl) (by decide +kernel), ok_mem (sel_at 37 rfl) (by decide +kernel), _, _, rfl⟩
theorem mv_X0_putInOrder : MV yX0_putInOrder cX0_putInOrder 3 (some .boolean) 0 := ⟨ok_mem (tb_at5 147 rfl) rfl, ok_mem (tb_at1 8 rfl) rfl, ⟨by decide +kernel, by decide +kernel⟩, by decide +kernel⟩
theorem mi_X0_putInOrder : MI yX0_putInOrder 0 := ⟨ok_mem (tb_at5 146 rfl) (by decide +kernel), ok_mem (sel_at 39 rfl) (by decide +kernel), _, _, rfl⟩
theorem mv_X0_refresh : MV yX0_refresh cX0_refresh 3 none 1 := ⟨ok_mem (tb_at5 68 rfl) rfl, ok_mem (tb_at1 8 rfl) rfl, ⟨by decide +kernel, by decide +kernel⟩, by decide +kernel⟩
theorem mi_X0_refresh : MI yX0_refresh 0 := ⟨ok_mem (tb_at5 66 rfl) (by decide +kernel), ok_mem (tb_at5 67 rfl) (by decide +kernel), _, _, rfl⟩
theorem mv_X0_relabel : MV yX0_relabel cX0_relabel 5 none 4 := ⟨ok_mem (tb_at5 83 rfl) rfl, ok_mem (tb_at1 8 rfl) rfl, ⟨by decide +kernel, by decide +kernel⟩, by decide +kernel⟩
theorem ms_X0_relabel : Cond.static yX0_relabel ∈ okT := ok_mem (tb_at5 82 rfl) (by decide +kernel)
theorem mv_X0_setOfHoles : MV yX0_setOfHoles cX0_setOfHoles 4 (some .int) 1 := ⟨ok_mem (tb_at5 118 rfl) rfl, ok_mem (tb_at1 8 rfl) rfl, ⟨by decide +kernel, by decide +kernel⟩, by decide +kernel⟩
theorem mi_X0_setOfHoles : MI yX0_setOfHoles 0 := ⟨ok_mem (tb_at5 116 rfl) (by decide +kernel), ok_mem (tb_at5 117 rfl) (by decide +kernel), _, _, rfl⟩
theorem mv_X0_squareApart : MV yX0_squareApart cX0_squareApart 5 (some .int) 3 := ⟨ok_mem (tb_at5 80 rfl) rfl, ok_mem (tb_at1 8 rfl) rfl, ⟨by decide +kernel, by decide +kernel⟩, by decide +kernel⟩
theorem ms_X0_squareApart : Cond.static yX0_squareApart ∈ okT := ok_mem (tb_at5 79 rfl) (by decide +kernel)
theorem mv_X0_turnStale : MV yX0_turnStale cX0_turnStale 1 none 0 := ⟨ok_mem (tb_at4 96 rfl) rfl, ok_mem (tb_at1 8 rfl) rfl, ⟨by decide +kernel, by decide +kernel⟩, by decide +kernel⟩
theorem mi_X0_turnStale : MI yX0_turnStale 0 := ⟨ok_mem (tb_at4 94 rfl) (by decide +kernel), ok_mem (tb_at4 95 rfl) (by decide +kernel), _, _, rfl⟩
theorem mv_X0_widestBed : MV yX0_widestBed cX0_widestBed 5 (some .int) 0 := ⟨ok_mem (tb_at5 164 rfl) rfl, ok_mem (tb_at1 8 rfl) rfl, ⟨by decide +kernel, by decide +kernel⟩, by decide +kernel⟩
theorem mi_X0_widestBed : MI yX0_widestBed 0 := ⟨ok_mem (tb_at5 162 rfl) (by decide +kernel), ok_mem (tb_at5 163 rfl) (by decide +kernel), _, _, rfl⟩
theorem mv_X1_isNewName : MV yX1_isNewName cX1_isNewName 1 (some .boolean) 0 := ⟨ok_mem (tb_at3 197 rfl) rfl, ok_mem (tb_at1 3 rfl) rfl, ⟨by decide +kernel, by decide +kernel⟩, by decide +kernel⟩
theorem mi_X1_isNewName : MI yX1_isNewName 1 := ⟨ok_mem (tb_at3 196 rfl) (by decide +kernel), ok_mem (sel_at 12 rfl) (by decide +kernel), _, _, rfl⟩
theorem mv_X1_isTaken : MV yX1_isTaken cX1_isTaken 4 (some .boolean) 2 := ⟨ok_mem (tb_at3 165 rfl) rfl, ok_mem (tb_at1 3 rfl) rfl, ⟨by decide +kernel, by decide +kernel⟩, by decide +kernel⟩
theorem mi_X1_isTaken : MI yX1_isTaken 1 := ⟨ok_mem (tb_at3 163 rfl) (by decide +kernel), ok_mem (tb_at3 164 rfl) (by decide +kernel), _, _, rfl⟩
theorem mv_X1_passBeds : MV yX1_passBeds cX1_passBeds 4 (some .boolean) 0 := ⟨ok_mem (tb_at4 52 rfl) rfl, ok_mem (tb_at1 3 rfl) rfl, ⟨by decide +kernel, by decide +kernel⟩, by decide +kernel⟩
theorem mi_X1_passBeds : MI yX1_passBeds 1 := ⟨ok_mem (tb_at4 51 rfl) (by decide +kernel), ok_mem (sel_at 15 rfl) (by decide +kernel), _, _, rfl⟩
theorem mv_X1_passCoordinate : MV yX1_passCoordinate cX1_passCoordinate 2 (some .boolean) 1 := ⟨ok_mem (tb_at4 83 rfl) rfl, ok_mem (tb_at1 3 rfl) rfl, ⟨by decide +kernel, by decide +kernel⟩, by decide +kernel⟩
theorem mi_X1_passCoordinate : MI yX1_passCoordinate 1 := ⟨ok_mem (tb_at4 82 rfl) (by decide +kernel), ok_mem (sel_at 18 rfl) (by decide +kernel), _, _, rfl⟩
theorem mv_X1_passFault : MV yX1_passFault cX1_passFault 4 (some .boolean) 0 := ⟨ok_mem (tb_at4 79 rfl) rfl, ok_mem (tb_at1 3 rfl) rfl, ⟨by decide +kernel, by decide +kernel⟩, by decide +kernel⟩
theorem mi_X1_passFault : MI yX1_passFault 1 := ⟨ok_mem (tb_at4 78 rfl) (by decide +kernel), ok_mem (sel_at 17 rfl) (by decide +kernel), _, _, rfl⟩
theorem mv_X1_passHole : MV yX1_passHole cX1_passHole 4 (some .boolean) 0 := ⟨ok_mem (tb_at4 38 rfl) rfl, ok_mem (tb_at1 3 rfl) rfl, ⟨by decide +kernel, by decide +kernel⟩, by decide +kernel⟩
theorem mi_X1_passHole : MI yX1_passHole 1 := ⟨ok_mem (tb_at4 37 rfl) (by decide +kernel), ok_mem (sel_at 14 rfl) (by decide +kernel), _, _, rfl⟩
theorem mv_X1_passPart : MV yX1_passPart cX1_passPart 1 (some .boolean) 0 := ⟨ok_mem (tb_at3 177 rfl) rfl, ok_mem (tb_at1 3 rfl) rfl, ⟨by decide +kernel, by decide +kernel⟩, by decide +kernel⟩
theorem mi_X1_passPart : MI yX1_passPart 1 := ⟨ok_mem (tb_at3 176 rfl) (by decide +kernel), ok_mem (sel_at 10 rfl) (by decide +kernel), _, _, rfl⟩
theorem mv_X1_passRock : MV yX1_passRock cX1_passRock 4 (some .boolean) 0 := ⟨ok_mem (tb_at3 185 rfl) rfl, ok_mem (tb_at1 3 rfl) rfl, ⟨by decide +kernel, by decide +kernel⟩, by decide +kernel⟩
theorem mi_X1_passRock : MI yX1_passRock 1 := ⟨ok_mem (tb_at3 184 rfl) (by decide +kernel), ok_mem (sel_at 11 rfl) (by decide +kernel), _, _, rfl⟩
theorem mv_X1_passTriangle : MV yX1_passTriangle cX1_passTriangle 4 (some .boolean) 0 := ⟨ok_mem (tb_at4 63 rfl) rfl, ok_mem (tb_at1 3 rfl) rfl, ⟨by decide +kernel, by decide +kernel⟩, by decide +kernel⟩
theorem mi_X1_passTriangle : MI yX1_passTriangle 1 := ⟨ok_mem (tb_at4 62 rfl) (by decide +kernel), ok_mem (sel_at 16 rfl) (by decide +kernel), _, _, rfl⟩
theorem mv_X1_passUnlike : MV yX1_passUnlike cX1_passUnlike 4 (some .boolean) 0 := ⟨ok_mem (tb_at4 27 rfl) rfl, ok_mem (tb_at1 3 rfl) rfl, ⟨by decide +kernel, by decide +kernel⟩, by decide +kernel⟩
theorem mi_X1_passUnlike : MI yX1_passUnlike 1 := ⟨ok_mem (tb_at4 26 rfl) (by decide +kernel), ok_mem (sel_at 13 rfl) (by decide +kernel), _, _, rfl⟩
theorem mv_X2_addFault : MV yX2_addFault cX2_addFault 5 none 3 := ⟨ok_mem (tb_at4 87 rfl) rfl, ok_mem (tb_at1 5 rfl) rfl, ⟨by decide +kernel, by decide +kernel⟩, by decide +kernel⟩
theorem mi_X2_addFault : MI yX2_addFault 2 := ⟨ok_mem (tb_at4 85 rfl) (by decide +kernel), ok_mem (tb_at4 86 rfl) (by decide +kernel), _, _, rfl⟩
theorem mv_X2_addHole : MV yX2_addHole cX2_addHole 5 none 3 := ⟨ok_mem (tb_at4 48 rfl) rfl, ok_mem (tb_at1 5 rfl) rfl, ⟨by decide +kernel, by decide +kernel⟩, by decide +kernel⟩
theorem mi_X2_addHole : MI yX2_addHole 2 := ⟨ok_mem (tb_at4 46 rfl) (by decide +kernel), ok_mem (tb_at4 47 rfl) (by decide +kernel), _, _, rfl⟩
theorem mv_X2_addLayer : MV yX2_addLayer cX2_addLayer 5 none 2 := ⟨ok_mem (tb_at4 56 rfl) rfl, ok_mem (tb_at1 5 rfl) rfl, ⟨by decide +kernel, by decide +kernel⟩, by decide +kernel⟩
theorem mi_X2_addLayer : MI yX2_addLayer 2 := ⟨ok_mem (tb_at4 54 rfl) (by decide +kernel), ok_mem (tb_at4 55 rfl) (by decide +kernel), _, _, rfl⟩
theorem mv_X2_addRock : MV yX2_addRock cX2_addRock 5 none 2 := ⟨ok_mem (tb_at4 11 rfl) rfl, ok_mem (tb_at1 5 rfl) rfl, ⟨by decide +kernel, by decide +kernel⟩, by decide +kernel⟩
theorem mi_X2_addRock : MI yX2_addRock 2 := ⟨ok_mem (tb_at4 9 rfl) (by decide +kernel), ok_mem (tb_at4 10 rfl) (by decide +kernel), _, _, rfl⟩
theorem mv_X2_addTriangle : MV yX2_addTriangle cX2_addTriangle 4 none 3 := ⟨ok_mem (tb_at4 75 rfl) rfl, ok_mem (tb_at1 5 rfl) rfl, ⟨by decide +kernel, by decide +kernel⟩, by decide +kernel⟩
theorem mi_X2_addTriangle : MI yX2_addTriangle 2 := ⟨ok_mem (tb_at4 73 rfl) (by decide +kernel), ok_mem (tb_at4 74 rfl) (by decide +kernel), _, _, rfl⟩
theorem mv_X2_allThick : MV yX2_allThick cX2_allThick 2 (some .int) 1 := ⟨ok_mem (tb_at4 205 rfl) rfl, ok_mem (tb_at1 5 rfl) rfl, ⟨by decide +kernel, by decide +kernel⟩, by decide +kernel⟩
theorem mi_X2_allThick : MI yX2_allThick 2 := ⟨ok_mem (tb_at4 203 rfl) (by decide +kernel), ok_mem (tb_at4 204 rfl) (by decide +kernel), _, _, rfl⟩
theorem mv_X2_clear : MV yX2_clear cX2_clear 1 none 0 := ⟨ok_mem (tb_at3 169 rfl) rfl, ok_mem (tb_at1 5 rfl) rfl, ⟨by decide +kernel, by decide +kernel⟩, by decide +kernel⟩
theorem mi_X2_clear : MI yX2_clear 2 := ⟨ok_mem (tb_at3 167 rfl) (by decide +kernel), ok_mem (tb_at3 168 rfl) (by decide +kernel), _, _, rfl⟩
theorem mv_X2_cornerHole : MV yX2_cornerHole cX2_cornerHole 3 (some .int) 2 := ⟨ok_mem (tb_at5 191 rfl) rfl, ok_mem (tb_at1 5 rfl) rfl, ⟨by decide +kernel, by decide +kernel⟩, by decide +kernel⟩
theorem mi_X2_cornerHole : MI yX2_cornerHole 2 := ⟨ok_mem (tb_at5 189 rfl) (by decide +kernel), ok_mem (tb_at5 190 rfl) (by decide +kernel), _, _, rfl⟩
theorem mv_X2_costOfTwo : MV yX2_costOfTwo cX2_costOfTwo 3 (some .int) 2 := ⟨ok_mem (tb_at4 193 rfl) rfl, ok_mem (tb_at1 5 rfl) rfl, ⟨by decide +kernel, by decide +kernel⟩, by decide +kernel⟩
theorem mi_X2_costOfTwo : MI yX2_costOfTwo 2 := ⟨ok_mem (tb_at4 191 rfl) (by decide +kernel), ok_mem (tb_at4 192 rfl) (by decide +kernel), _, _, rfl⟩
theorem mv_X2_depthOf : MV yX2_depthOf cX2_depthOf 3 (some .int) 2 := ⟨ok_mem (tb_at4 231 rfl) rfl, ok_mem (tb_at1 5 rfl) rfl, ⟨by decide +kernel, by decide +kernel⟩, by decide +kernel⟩
theorem mi_X2_depthOf : MI yX2_depthOf 2 := ⟨ok_mem (tb_at4 229 rfl) (by decide +kernel), ok_mem (tb_at4 230 rfl) (by decide +kernel), _, _, rfl⟩
theorem mv_X2_faultNamed : MV yX2_faultNamed cX2_faultNamed 3 (some .int) 1 := ⟨ok_mem (tb_at3 224 rfl) rfl, ok_mem (tb_at1 5 rfl) rfl, ⟨by decide +kernel, by decide +kernel⟩, by decide +kernel⟩
theorem mi_X2_faultNamed : MI yX2_faultNamed 2 := ⟨ok_mem (tb_at3 222 rfl) (by decide +kernel), ok_mem (tb_at3 223 rfl) (by decide +kernel), _, _, rfl⟩
theorem mv_X2_hasRock : MV yX2_hasRock cX2_hasRock 4 (some .boolean) 2 := ⟨ok_mem (tb_at6 211 rfl) rfl, ok_mem (tb_at1 5 rfl) rfl, ⟨by decide +kernel, by decide +kernel⟩, by decide +kernel⟩
theorem mi_X2_hasRock : MI yX2_hasRock 2 := ⟨ok_mem (tb_at6 209 rfl) (by decide +kernel), ok_mem (tb_at6 210 rfl) (by decide +kernel), _, _, rfl⟩
theorem mv_X2_hasRockOnTop : MV yX2_hasRockOnTop cX2_hasRockOnTop 3 (some .boolean) 2 := ⟨ok_mem (tb_at6 155 rfl) rfl, ok_mem (tb_at1 5 rfl) rfl, ⟨by decide +kernel, by decide +kernel⟩, by decide +kernel⟩
theorem mi_X2_hasRockOnTop : MI yX2_hasRockOnTop 2 := ⟨ok_mem (tb_at6 153 rfl) (by decide +kernel), ok_mem (tb_at6 154 rfl) (by decide +kernel), _, _, rfl⟩
theorem mv_X2_holeNamed : MV yX2_holeNamed cX2_holeNamed 3 (some .int) 1 := ⟨ok_mem (tb_at3 220 rfl) rfl, ok_mem (tb_at1 5 rfl) rfl, ⟨by decide +kernel, by decide +kernel⟩, by decide +kernel⟩
theorem mi_X2_holeNamed : MI yX2_holeNamed 2 := ⟨ok_mem (tb_at3 218 rfl) (by decide +kernel), ok_mem (tb_at3 219 rfl) (by decide +kernel), _, _, rfl⟩
theorem mv_X2_isFault : MV yX2_isFault cX2_isFault 2 (some .boolean) 1 := ⟨ok_mem (tb_at5 12 rfl) rfl, ok_mem (tb_at1 5 rfl) rfl, ⟨by decide +kernel, by decide +kernel⟩, by decide +kernel⟩
theorem mi_X2_isFault : MI yX2_isFault 2 := ⟨ok_mem (tb_at5 10 rfl) (by decide +kernel), ok_mem (tb_at5 11 rfl) (by decide +kernel), _, _, rfl⟩
theorem mv_X2_isHole : MV yX2_isHole cX2_isHole 2 (some .boolean) 1 := ⟨ok_mem (tb_at4 201 rfl) rfl, ok_mem (tb_at1 5 rfl) rfl, ⟨by decide +kernel, by decide +kernel⟩, by decide +kernel⟩
theorem mi_X2_isHole : MI yX2_isHole 2 := ⟨ok_mem (tb_at4 199 rfl) (by decide +kernel), ok_mem (tb_at4 200 rfl) (by decide +kernel), _, _, rfl⟩
theorem mv_X2_isHoleAt : MV yX2_isHoleAt cX2_isHoleAt 4 (some .boolean) 2 := ⟨ok_mem (tb_at4 44 rfl) rfl, ok_mem (tb_at1 5 rfl) rfl, ⟨by decide +kernel, by decide +kernel⟩, by decide +kernel⟩
theorem mi_X2_isHoleAt : MI yX2_isHoleAt 2 := ⟨ok_mem (tb_at4 42 rfl) (by decide +kernel), ok_mem (tb_at4 43 rfl) (by decide +kernel), _, _, rfl⟩
theorem mv_X2_isInside : MV yX2_isInside cX2_isInside 6 (some .boolean) 3 := ⟨ok_mem (tb_at5 229 rfl) rfl, ok_mem (tb_at1 5 rfl) rfl, ⟨by decide +kernel, by decide +kernel⟩, by decide +kernel⟩
theorem mi_X2_isInside : MI yX2_isInside 2 := ⟨ok_mem (tb_at5 228 rfl) (by decide +kernel), ok_mem (sel_at 43 rfl) (by decide +kernel), _, _, rfl⟩
theorem mv_X2_isLayer : MV yX2_isLayer cX2_isLayer 3 (some .boolean) 2 := ⟨ok_mem (tb_at4 225 rfl) rfl, ok_mem (tb_at1 5 rfl) rfl, ⟨by decide +kernel, by decide +kernel⟩, by decide +kernel⟩
theorem mi_X2_isLayer : MI yX2_isLayer 2 := ⟨ok_mem (tb_at4 223 rfl) (by decide +kernel), ok_mem (tb_at4 224 rfl) (by decide +kernel), _, _, rfl⟩
theorem mv_X2_isOnRight : MV yX2_isOnRight cX2_isOnRight 4 (some .boolean) 2 := ⟨ok_mem (tb_at4 217 rfl) rfl, ok_mem (tb_at1 5 rfl) rfl, ⟨by decide +kernel, by decide +kernel⟩, by decide +kernel⟩
theorem mi_X2_isOnRight : MI yX2_isOnRight 2 := ⟨ok_mem (tb_at4 215 rfl) (by decide +kernel), ok_mem (tb_at4 216 rfl) (by decide +kernel), _, _, rfl⟩
theorem mv_X2_isRock : MV yX2_isRock cX2_isRock 2 (some .boolean) 1 := ⟨ok_mem (tb_at4 185 rfl) rfl, ok_mem (tb_at1 5 rfl) rfl, ⟨by decide +kernel, by decide +kernel⟩, by decide +kernel⟩
theorem mi_X2_isRock : MI yX2_isRock 2 := ⟨ok_mem (tb_at4 183 rfl) (by decide +kernel), ok_mem (tb_at4 184 rfl) (by decide +kernel), _, _, rfl⟩
theorem mv_X2_isSplit : MV yX2_isSplit cX2_isSplit 4 (some .boolean) 1 := ⟨ok_mem (tb_at5 213 rfl) rfl, ok_mem (tb_at1 5 rfl) rfl, ⟨by decide +kernel, by decide +kernel⟩, by decide +kernel⟩
theorem mi_X2_isSplit : MI yX2_isSplit 2 := ⟨ok_mem (tb_at5 211 rfl) (by decide +kernel), ok_mem (tb_at5 212 rfl) (by decide +kernel), _, _, rfl⟩
theorem mv_X2_isTakenName : MV yX2_isTakenName cX2_isTakenName 3 (some .boolean) 1 := ⟨ok_mem (tb_at3 209 rfl) rfl, ok_mem (tb_at1 5 rfl) rfl, ⟨by decide +kernel, by decide +kernel⟩, by decide +kernel⟩
theorem mi_X2_isTakenName : MI yX2_isTakenName 2 := ⟨ok_mem (tb_at3 207 rfl) (by decide +kernel), ok_mem (tb_at3 208 rfl) (by decide +kernel), _, _, rfl⟩
theorem mv_X2_isTriangle : MV yX2_isTriangle cX2_isTriangle 2 (some .boolean) 1 := ⟨ok_mem (tb_at5 179 rfl) rfl, ok_mem (tb_at1 5 rfl) rfl, ⟨by decide +kernel, by decide +kernel⟩, by decide +kernel⟩
theorem mi_X2_isTriangle : MI yX2_isTriangle 2 := ⟨ok_mem (tb_at5 177 rfl) (by decide +kernel), ok_mem (tb_at5 178 rfl) (by decide +kernel), _, _, rfl⟩
theorem mv_X2_layOn : MV yX2_layOn cX2_layOn 5 (some .int) 3 := ⟨ok_mem (tb_at6 151 rfl) rfl, ok_mem (tb_at1 5 rfl) rfl, ⟨by decide +kernel, by decide +kernel⟩, by decide +kernel⟩
theorem mi_X2_layOn : MI yX2_layOn 2 := ⟨ok_mem (tb_at6 149 rfl) (by decide +kernel), ok_mem (tb_at6 150 rfl) (by decide +kernel), _, _, rfl⟩
theorem mv_X2_layerWithUnit : MV yX2_layerWithUnit cX2_layerWithUnit 5 (some .int) 2 := ⟨ok_mem (tb_at5 0 rfl) rfl, ok_mem (tb_at1 5 rfl) rfl, ⟨by decide +kernel, by decide +kernel⟩, by decide +kernel⟩
theorem mi_X2_layerWithUnit : MI yX2_layerWithUnit 2 := ⟨ok_mem (tb_at4 238 rfl) (by decide +kernel), ok_mem (tb_at4 239 rfl) (by decide +kernel), _, _, rfl⟩
theorem mv_X2_placeOf : MV yX2_placeOf cX2_placeOf 5 (some .int) 3 := ⟨ok_mem (tb_at3 216 rfl) rfl, ok_mem (tb_at1 5 rfl) rfl, ⟨by decide +kernel, by decide +kernel⟩, by decide +kernel⟩
theorem ms_X2_placeOf : Cond.static yX2_placeOf ∈ okT := ok_mem (tb_at3 215 rfl) (by decide +kernel)
theorem mv_X2_rockNamed : MV yX2_rockNamed cX2_rockNamed 3 (some .int) 1 := ⟨ok_mem (tb_at3 213 rfl) rfl, ok_mem (tb_at1 5 rfl) rfl, ⟨by decide +kernel, by decide +kernel⟩, by decide +kernel⟩
theorem mi_X2_rockNamed : MI yX2_rockNamed 2 := ⟨ok_mem (tb_at3 211 rfl) (by decide +kernel), ok_mem (tb_at3 212 rfl) (by decide +kernel), _, _, rfl⟩
theorem mv_X2_setCostOfTwo : MV yX2_setCostOfTwo cX2_setCostOfTwo 4 none 3 := ⟨ok_mem (tb_at4 15 rfl) rfl, ok_mem (tb_at1 5 rfl) rfl, ⟨by decide +kernel, by decide +kernel⟩, by decide +kernel⟩
theorem mi_X2_setCostOfTwo : MI yX2_setCostOfTwo 2 := ⟨ok_mem (tb_at4 13 rfl) (by decide +kernel), ok_mem (tb_at4 14 rfl) (by decide +kernel), _, _, rfl⟩
theorem mv_X2_sideAlongX : MV yX2_sideAlongX cX2_sideAlongX 3 (some .int) 2 := ⟨ok_mem (tb_at6 41 rfl) rfl, ok_mem (tb_at1 5 rfl) rfl, ⟨by decide +kernel, by decide +kernel⟩, by decide +kernel⟩
theorem mi_X2_sideAlongX : MI yX2_sideAlongX 2 := ⟨ok_mem (tb_at6 39 rfl) (by decide +kernel), ok_mem (tb_at6 40 rfl) (by decide +kernel), _, _, rfl⟩
theorem mv_X2_sideAlongY : MV yX2_sideAlongY cX2_sideAlongY 3 (some .int) 2 := ⟨ok_mem (tb_at6 37 rfl) rfl, ok_mem (tb_at1 5 rfl) rfl, ⟨by decide +kernel, by decide +kernel⟩, by decide +kernel⟩
theorem mi_X2_sideAlongY : MI yX2_sideAlongY 2 := ⟨ok_mem (tb_at6 35 rfl) (by decide +kernel), ok_mem (tb_at6 36 rfl) (by decide +kernel), _, _, rfl⟩
theorem mv_X2_takeOver : MV yX2_takeOver cX2_takeOver 2 none 1 := ⟨ok_mem (tb_at6 228 rfl) rfl, ok_mem (tb_at1 5 rfl) rfl, ⟨by decide +kernel, by decide +kernel⟩, by decide +kernel⟩
theorem mi_X2_takeOver : MI yX2_takeOver 2 := ⟨ok_mem (tb_at6 226 rfl) (by decide +kernel), ok_mem (tb_at6 227 rfl) (by decide +kernel), _, _, rfl⟩
theorem mv_X2_thickAbove : MV yX2_thickAbove cX2_thickAbove 5 (some .int) 2 := ⟨ok_mem (tb_at4 209 rfl) rfl, ok_mem (tb_at1 5 rfl) rfl, ⟨by decide +kernel, by decide +kernel⟩, by decide +kernel⟩
theorem mi_X2_thickAbove : MI yX2_thickAbove 2 := ⟨ok_mem (tb_at4 208 rfl) (by decide +kernel), ok_mem (sel_at 29 rfl) (by decide +kernel), _, _, rfl⟩
theorem mv_X2_thrownDown : MV yX2_thrownDown cX2_thrownDown 4 (some .int) 1 := ⟨ok_mem (tb_at4 213 rfl) rfl, ok_mem (tb_at1 5 rfl) rfl, ⟨by decide +kernel, by decide +kernel⟩, by decide +kernel⟩
theorem mi_X2_thrownDown : MI yX2_thrownDown 2 := ⟨ok_mem (tb_at4 211 rfl) (by decide +kernel), ok_mem (tb_at4 212 rfl) (by decide +kernel), _, _, rfl⟩
theorem mv_X2_triangleWith : MV yX2_triangleWith cX2_triangleWith 4 (some .int) 2 := ⟨ok_mem (tb_at5 224 rfl) rfl, ok_mem (tb_at1 5 rfl) rfl, ⟨by decide +kernel, by decide +kernel⟩, by decide +kernel⟩
theorem mi_X2_triangleWith : MI yX2_triangleWith 2 := ⟨ok_mem (tb_at5 222 rfl) (by decide +kernel), ok_mem (tb_at5 223 rfl) (by decide +kernel), _, _, rfl⟩
theorem mv_X2_turn : MV yX2_turn cX2_turn 2 (some .int) 1 := ⟨ok_mem (tb_at5 187 rfl) rfl, ok_mem (tb_at1 5 rfl) rfl, ⟨by decide +kernel, by decide +kernel⟩, by decide +kernel⟩
theorem mi_X2_turn : MI yX2_turn 2 := ⟨ok_mem (tb_at5 185 rfl) (by decide +kernel), ok_mem (tb_at5 186 rfl) (by decide +kernel), _, _, rfl⟩
theorem mv_X2_turnOf : MV yX2_turnOf cX2_turnOf 6 (some .int) 6 := ⟨ok_mem (tb_at4 71 rfl) rfl, ok_mem (tb_at1 5 rfl) rfl, ⟨by decide +kernel, by decide +kernel⟩, by decide +kernel⟩
theorem ms_X2_turnOf : Cond.static yX2_turnOf ∈ okT := ok_mem (tb_at4 70 rfl) (by decide +kernel)
theorem mv_X2_turnOfHoles : MV yX2_turnOfHoles cX2_turnOfHoles 4 (some .int) 3 := ⟨ok_mem (tb_at4 68 rfl) rfl, ok_mem (tb_at1 5 rfl) rfl, ⟨by decide +kernel, by decide +kernel⟩, by decide +kernel⟩
theorem mi_X2_turnOfHoles : MI yX2_turnOfHoles 2 := ⟨ok_mem (tb_at4 66 rfl) (by decide +kernel), ok_mem (tb_at4 67 rfl) (by decide +kernel), _, _, rfl⟩
theorem mv_X2_twiceArea : MV yX2_twiceArea cX2_twiceArea 2 (some .int) 1 := ⟨ok_mem (tb_at5 183 rfl) rfl, ok_mem (tb_at1 5 rfl) rfl, ⟨by decide +kernel, by decide +kernel⟩, by decide +kernel⟩
theorem mi_X2_twiceArea : MI yX2_twiceArea 2 := ⟨ok_mem (tb_at5 181 rfl) (by decide +kernel), ok_mem (tb_at5 182 rfl) (by decide +kernel), _, _, rfl⟩
theorem mv_X2_wearOff : MV yX2_wearOff cX2_wearOff 8 (some .int) 2 := ⟨ok_mem (tb_at6 163 rfl) rfl, ok_mem (tb_at1 5 rfl) rfl, ⟨by decide +kernel, by decide +kernel⟩, by decide +kernel⟩
theorem mi_X2_wearOff : MI yX2_wearOff 2 := ⟨ok_mem (tb_at6 161 rfl) (by decide +kernel), ok_mem (tb_at6 162 rfl) (by decide +kernel), _, _, rfl⟩
theorem mv_X2_weight : MV yX2_weight cX2_weight 7 (some .int) 4 := ⟨ok_mem (tb_at5 233 rfl) rfl, ok_mem (tb_at1 5 rfl) rfl, ⟨by decide +kernel, by decide +kernel⟩, by decide +kernel⟩
theorem mi_X2_weight : MI yX2_weight 2 := ⟨ok_mem (tb_at5 231 rfl) (by decide +kernel), ok_mem (tb_at5 232 rfl) (by decide +kernel), _, _, rfl⟩
theorem mv_X3_behindEnd : MV yX3_behindEnd cX3_behindEnd 4 (some .int) 2 := ⟨ok_mem (tb_at6 181 rfl) rfl, ok_mem (tb_at1 10 rfl) rfl, ⟨by decide +kernel, by decide +kernel⟩, by decide +kernel⟩
theorem mi_X3_behindEnd : MI yX3_behindEnd 3 := ⟨ok_mem (tb_at6 180 rfl) (by decide +kernel), ok_mem (sel_at 50 rfl) (by decide +kernel), _, _, rfl⟩
theorem mv_X3_behindStep : MV yX3_behindStep cX3_behindStep 4 (some .int) 3 := ⟨ok_mem (tb_at6 185 rfl) rfl, ok_mem (tb_at1 10 rfl) rfl, ⟨by decide +kernel, by decide +kernel⟩, by decide +kernel⟩
theorem mi_X3_behindStep : MI yX3_behindStep 3 := ⟨ok_mem (tb_at6 184 rfl) (by decide +kernel), ok_mem (sel_at 51 rfl) (by decide +kernel), _, _, rfl⟩
theorem mv_X3_compares : MV yX3_compares cX3_compares 3 (some .boolean) 3 := ⟨ok_mem (tb_at6 216 rfl) rfl, ok_mem (tb_at1 10 rfl) rfl, ⟨by decide +kernel, by decide +kernel⟩, by decide +kernel⟩
theorem ms_X3_compares : Cond.static yX3_compares ∈ okT := ok_mem (tb_at6 215 rfl) (by decide +kernel)
theorem mv_X3_holds : MV yX3_holds cX3_holds 4 (some .boolean) 3 := ⟨ok_mem (tb_at6 207 rfl) rfl, ok_mem (tb_at1 10 rfl) rfl, ⟨by decide +kernel, by decide +kernel⟩, by decide +kernel⟩
theorem ms_X3_holds : Cond.static yX3_holds ∈ okT := ok_mem (tb_at6 206 rfl) (by decide +kernel)
theorem mv_X3_layDown : MV yX3_layDown cX3_layDown 5 none 4 := ⟨ok_mem (tb_at6 189 rfl) rfl, ok_mem (tb_at1 10 rfl) rfl, ⟨by decide +kernel, by decide +kernel⟩, by decide +kernel⟩
theorem mi_X3_layDown : MI yX3_layDown 3 := ⟨ok_mem (tb_at6 188 rfl) (by decide +kernel), ok_mem (sel_at 52 rfl) (by decide +kernel), _, _, rfl⟩
theorem mv_X3_move : MV yX3_move cX3_move 4 none 3 := ⟨ok_mem (tb_at6 204 rfl) rfl, ok_mem (tb_at1 10 rfl) rfl, ⟨by decide +kernel, by decide +kernel⟩, by decide +kernel⟩
theorem mi_X3_move : MI yX3_move 3 := ⟨ok_mem (tb_at6 203 rfl) (by decide +kernel), ok_mem (sel_at 55 rfl) (by decide +kernel), _, _, rfl⟩
theorem mv_X3_nextDraw : MV yX3_nextDraw cX3_nextDraw 2 (some .int) 1 := ⟨ok_mem (tb_at6 199 rfl) rfl, ok_mem (tb_at1 10 rfl) rfl, ⟨by decide +kernel, by decide +kernel⟩, by decide +kernel⟩
theorem mi_X3_nextDraw : MI yX3_nextDraw 3 := ⟨ok_mem (tb_at6 198 rfl) (by decide +kernel), ok_mem (sel_at 54 rfl) (by decide +kernel), _, _, rfl⟩
theorem mv_X3_run : MV yX3_run cX3_run 6 none 3 := ⟨ok_mem (tb_at6 176 rfl) rfl, ok_mem (tb_at1 10 rfl) rfl, ⟨by decide +kernel, by decide +kernel⟩, by decide +kernel⟩
theorem mi_X3_run : MI yX3_run 3 := ⟨ok_mem (tb_at6 174 rfl) (by decide +kernel), ok_mem (tb_at6 175 rfl) (by decide +kernel), _, _, rfl⟩
theorem mv_X3_storm : MV yX3_storm cX3_storm 5 none 2 := ⟨ok_mem (tb_at6 195 rfl) rfl, ok_mem (tb_at1 10 rfl) rfl, ⟨by decide +kernel, by decide +kernel⟩, by decide +kernel⟩
theorem mi_X3_storm : MI yX3_storm 3 := ⟨ok_mem (tb_at6 194 rfl) (by decide +kernel), ok_mem (sel_at 53 rfl) (by decide +kernel), _, _, rfl⟩
theorem mv_X4_alike : MV yX4_alike cX4_alike 7 (some .int) 3 := ⟨ok_mem (tb_at6 130 rfl) rfl, ok_mem (tb_at1 9 rfl) rfl, ⟨by decide +kernel, by decide +kernel⟩, by decide +kernel⟩
theorem mi_X4_alike : MI yX4_alike 4 := ⟨ok_mem (tb_at6 128 rfl) (by decide +kernel), ok_mem (tb_at6 129 rfl) (by decide +kernel), _, _, rfl⟩
theorem mv_X4_bestShift : MV yX4_bestShift cX4_bestShift 8 (some .int) 2 := ⟨ok_mem (tb_at6 138 rfl) rfl, ok_mem (tb_at1 9 rfl) rfl, ⟨by decide +kernel, by decide +kernel⟩, by decide +kernel⟩
theorem mi_X4_bestShift : MI yX4_bestShift 4 := ⟨ok_mem (tb_at6 136 rfl) (by decide +kernel), ok_mem (tb_at6 137 rfl) (by decide +kernel), _, _, rfl⟩
theorem mv_X4_draw : MV yX4_draw cX4_draw 5 (some .int) 3 := ⟨ok_mem (tb_at6 73 rfl) rfl, ok_mem (tb_at1 9 rfl) rfl, ⟨by decide +kernel, by decide +kernel⟩, by decide +kernel⟩
theorem mi_X4_draw : MI yX4_draw 4 := ⟨ok_mem (tb_at6 71 rfl) (by decide +kernel), ok_mem (tb_at6 72 rfl) (by decide +kernel), _, _, rfl⟩
theorem mv_X4_isPick : MV yX4_isPick cX4_isPick 8 (some .boolean) 5 := ⟨ok_mem (tb_at6 100 rfl) rfl, ok_mem (tb_at1 9 rfl) rfl, ⟨by decide +kernel, by decide +kernel⟩, by decide +kernel⟩
theorem ms_X4_isPick : Cond.static yX4_isPick ∈ okT := ok_mem (tb_at6 99 rfl) (by decide +kernel)
theorem mv_X4_pick : MV yX4_pick cX4_pick 6 (some .int) 4 := ⟨ok_mem (tb_at6 97 rfl) rfl, ok_mem (tb_at1 9 rfl) rfl, ⟨by decide +kernel, by decide +kernel⟩, by decide +kernel⟩
theorem mi_X4_pick : MI yX4_pick 4 := ⟨ok_mem (tb_at6 95 rfl) (by decide +kernel), ok_mem (tb_at6 96 rfl) (by decide +kernel), _, _, rfl⟩
theorem mv_X4_unfold : MV yX4_unfold cX4_unfold 6 none 2 := ⟨ok_mem (tb_at6 77 rfl) rfl, ok_mem (tb_at1 9 rfl) rfl, ⟨by decide +kernel, by decide +kernel⟩, by decide +kernel⟩
theorem mi_X4_unfold : MI yX4_unfold 4 := ⟨ok_mem (tb_at6 75 rfl) (by decide +kernel), ok_mem (tb_at6 76 rfl) (by decide +kernel), _, _, rfl⟩
theorem mv_X5_leastFrom : MV yX5_leastFrom cX5_leastFrom 12 (some .int) 5 := ⟨ok_mem (tb_at5 29 rfl) rfl, ok_mem (tb_at1 7 rfl) rfl, ⟨by decide +kernel, by decide +kernel⟩, by decide +kernel⟩
theorem mi_X5_leastFrom : MI yX5_leastFrom 5 := ⟨ok_mem (tb_at5 28 rfl) (by decide +kernel), ok_mem (sel_at 32 rfl) (by decide +kernel), _, _, rfl⟩
theorem mv_X5_leftOutCost : MV yX5_leftOutCost cX5_leftOutCost 2 (some .int) 2 := ⟨ok_mem (tb_at5 41 rfl) rfl, ok_mem (tb_at1 7 rfl) rfl, ⟨by decide +kernel, by decide +kernel⟩, by decide +kernel⟩
theorem ms_X5_leftOutCost : Cond.static yX5_leftOutCost ∈ okT := ok_mem (tb_at5 40 rfl) (by decide +kernel)
theorem mv_X5_mateOf : MV yX5_mateOf cX5_mateOf 2 (some .int) 1 := ⟨ok_mem (tb_at5 56 rfl) rfl, ok_mem (tb_at1 7 rfl) rfl, ⟨by decide +kernel, by decide +kernel⟩, by decide +kernel⟩
theorem mi_X5_mateOf : MI yX5_mateOf 5 := ⟨ok_mem (tb_at5 54 rfl) (by decide +kernel), ok_mem (tb_at5 55 rfl) (by decide +kernel), _, _, rfl⟩
theorem mv_X5_pairCost : MV yX5_pairCost cX5_pairCost 3 (some .int) 3 := ⟨ok_mem (tb_at5 34 rfl) rfl, ok_mem (tb_at1 7 rfl) rfl, ⟨by decide +kernel, by decide +kernel⟩, by decide +kernel⟩
theorem ms_X5_pairCost : Cond.static yX5_pairCost ∈ okT := ok_mem (tb_at5 33 rfl) (by decide +kernel)
theorem mv_X5_trace : MV yX5_trace cX5_trace 9 none 3 := ⟨ok_mem (tb_at5 48 rfl) rfl, ok_mem (tb_at1 7 rfl) rfl, ⟨by decide +kernel, by decide +kernel⟩, by decide +kernel⟩
theorem mi_X5_trace : MI yX5_trace 5 := ⟨ok_mem (tb_at5 47 rfl) (by decide +kernel), ok_mem (sel_at 33 rfl) (by decide +kernel), _, _, rfl⟩
theorem mv_X5_workOut : MV yX5_workOut cX5_workOut 6 (some .int) 3 := ⟨ok_mem (tb_at5 25 rfl) rfl, ok_mem (tb_at1 7 rfl) rfl, ⟨by decide +kernel, by decide +kernel⟩, by decide +kernel⟩
theorem mi_X5_workOut : MI yX5_workOut 5 := ⟨ok_mem (tb_at5 23 rfl) (by decide +kernel), ok_mem (tb_at5 24 rfl) (by decide +kernel), _, _, rfl⟩
theorem mv_X6_addInt : MV yX6_addInt cX6_addInt 3 none 1 := ⟨ok_mem (tb_at3 70 rfl) rfl, ok_mem (tb_at1 2 rfl) rfl, ⟨by decide +kernel, by decide +kernel⟩, by decide +kernel⟩
theorem mi_X6_addInt : MI yX6_addInt 6 := ⟨ok_mem (tb_at3 68 rfl) (by decide +kernel), ok_mem (tb_at3 69 rfl) (by decide +kernel), _, _, rfl⟩
theorem mv_X6_addToken : MV yX6_addToken cX6_addToken 6 none 4 := ⟨ok_mem (tb_at3 154 rfl) rfl, ok_mem (tb_at1 2 rfl) rfl, ⟨by decide +kernel, by decide +kernel⟩, by decide +kernel⟩
theorem mi_X6_addToken : MI yX6_addToken 6 := ⟨ok_mem (tb_at3 153 rfl) (by decide +kernel), ok_mem (sel_at 8 rfl) (by decide +kernel), _, _, rfl⟩
theorem mv_X6_begin : MV yX6_begin cX6_begin 4 none 1 := ⟨ok_mem (tb_at3 78 rfl) rfl, ok_mem (tb_at1 2 rfl) rfl, ⟨by decide +kernel, by decide +kernel⟩, by decide +kernel⟩
theorem mi_X6_begin : MI yX6_begin 6 := ⟨ok_mem (tb_at3 76 rfl) (by decide +kernel), ok_mem (tb_at3 77 rfl) (by decide +kernel), _, _, rfl⟩
theorem mv_X6_goOn : MV yX6_goOn cX6_goOn 1 none 0 := ⟨ok_mem (tb_at3 193 rfl) rfl, ok_mem (tb_at1 2 rfl) rfl, ⟨by decide +kernel, by decide +kernel⟩, by decide +kernel⟩
theorem mi_X6_goOn : MI yX6_goOn 6 := ⟨ok_mem (tb_at3 191 rfl) (by decide +kernel), ok_mem (tb_at3 192 rfl) (by decide +kernel), _, _, rfl⟩
theorem mv_X6_hasRoomFor : MV yX6_hasRoomFor cX6_hasRoomFor 2 (some .boolean) 1 := ⟨ok_mem (tb_at3 66 rfl) rfl, ok_mem (tb_at1 2 rfl) rfl, ⟨by decide +kernel, by decide +kernel⟩, by decide +kernel⟩
theorem mi_X6_hasRoomFor : MI yX6_hasRoomFor 6 := ⟨ok_mem (tb_at3 64 rfl) (by decide +kernel), ok_mem (tb_at3 65 rfl) (by decide +kernel), _, _, rfl⟩
theorem mv_X6_isAtEnd : MV yX6_isAtEnd cX6_isAtEnd 1 (some .boolean) 0 := ⟨ok_mem (tb_at3 173 rfl) rfl, ok_mem (tb_at1 2 rfl) rfl, ⟨by decide +kernel, by decide +kernel⟩, by decide +kernel⟩
theorem mi_X6_isAtEnd : MI yX6_isAtEnd 6 := ⟨ok_mem (tb_at3 171 rfl) (by decide +kernel), ok_mem (tb_at3 172 rfl) (by decide +kernel), _, _, rfl⟩
theorem mv_X6_isBlank : MV yX6_isBlank cX6_isBlank 1 (some .boolean) 1 := ⟨ok_mem (tb_at3 81 rfl) rfl, ok_mem (tb_at1 2 rfl) rfl, ⟨by decide +kernel, by decide +kernel⟩, by decide +kernel⟩
theorem ms_X6_isBlank : Cond.static yX6_isBlank ∈ okT := ok_mem (tb_at3 80 rfl) (by decide +kernel)
theorem mv_X6_isDigit : MV yX6_isDigit cX6_isDigit 1 (some .boolean) 1 := ⟨ok_mem (tb_at3 157 rfl) rfl, ok_mem (tb_at1 2 rfl) rfl, ⟨by decide +kernel, by decide +kernel⟩, by decide +kernel⟩
theorem ms_X6_isDigit : Cond.static yX6_isDigit ∈ okT := ok_mem (tb_at3 156 rfl) (by decide +kernel)
theorem mv_X6_isLetter : MV yX6_isLetter cX6_isLetter 1 (some .boolean) 1 := ⟨ok_mem (tb_at3 88 rfl) rfl, ok_mem (tb_at1 2 rfl) rfl, ⟨by decide +kernel, by decide +kernel⟩, by decide +kernel⟩
theorem ms_X6_isLetter : Cond.static yX6_isLetter ∈ okT := ok_mem (tb_at3 87 rfl) (by decide +kernel)
theorem mv_X6_isName : MV yX6_isName cX6_isName 1 (some .boolean) 0 := ⟨ok_mem (tb_at3 201 rfl) rfl, ok_mem (tb_at1 2 rfl) rfl, ⟨by decide +kernel, by decide +kernel⟩, by decide +kernel⟩
theorem mi_X6_isName : MI yX6_isName 6 := ⟨ok_mem (tb_at3 199 rfl) (by decide +kernel), ok_mem (tb_at3 200 rfl) (by decide +kernel), _, _, rfl⟩
theorem mv_X6_isNumber : MV yX6_isNumber cX6_isNumber 3 (some .boolean) 2 := ⟨ok_mem (tb_at4 1 rfl) rfl, ok_mem (tb_at1 2 rfl) rfl, ⟨by decide +kernel, by decide +kernel⟩, by decide +kernel⟩
theorem mi_X6_isNumber : MI yX6_isNumber 6 := ⟨ok_mem (tb_at3 239 rfl) (by decide +kernel), ok_mem (tb_at4 0 rfl) (by decide +kernel), _, _, rfl⟩
theorem mv_X6_isSign : MV yX6_isSign cX6_isSign 2 (some .boolean) 1 := ⟨ok_mem (tb_at4 23 rfl) rfl, ok_mem (tb_at1 2 rfl) rfl, ⟨by decide +kernel, by decide +kernel⟩, by decide +kernel⟩
theorem mi_X6_isSign : MI yX6_isSign 6 := ⟨ok_mem (tb_at4 21 rfl) (by decide +kernel), ok_mem (tb_at4 22 rfl) (by decide +kernel), _, _, rfl⟩
theorem mv_X6_isSpelt : MV yX6_isSpelt cX6_isSpelt 5 (some .boolean) 3 := ⟨ok_mem (tb_at3 150 rfl) rfl, ok_mem (tb_at1 2 rfl) rfl, ⟨by decide +kernel, by decide +kernel⟩, by decide +kernel⟩
theorem mi_X6_isSpelt : MI yX6_isSpelt 6 := ⟨ok_mem (tb_at3 149 rfl) (by decide +kernel), ok_mem (sel_at 7 rfl) (by decide +kernel), _, _, rfl⟩
theorem mv_X6_keptWord : MV yX6_keptWord cX6_keptWord 6 (some .int) 2 := ⟨ok_mem (tb_at3 97 rfl) rfl, ok_mem (tb_at1 2 rfl) rfl, ⟨by decide +kernel, by decide +kernel⟩, by decide +kernel⟩
theorem mi_X6_keptWord : MI yX6_keptWord 6 := ⟨ok_mem (tb_at3 96 rfl) (by decide +kernel), ok_mem (sel_at 6 rfl) (by decide +kernel), _, _, rfl⟩
theorem mv_X6_name : MV yX6_name cX6_name 1 (some .long) 0 := ⟨ok_mem (tb_at3 205 rfl) rfl, ok_mem (tb_at1 2 rfl) rfl, ⟨by decide +kernel, by decide +kernel⟩, by decide +kernel⟩
theorem mi_X6_name : MI yX6_name 6 := ⟨ok_mem (tb_at3 203 rfl) (by decide +kernel), ok_mem (tb_at3 204 rfl) (by decide +kernel), _, _, rfl⟩
theorem mv_X6_nameFault : MV yX6_nameFault cX6_nameFault 1 (some .int) 0 := ⟨ok_mem (tb_at3 228 rfl) rfl, ok_mem (tb_at1 2 rfl) rfl, ⟨by decide +kernel, by decide +kernel⟩, by decide +kernel⟩
theorem mi_X6_nameFault : MI yX6_nameFault 6 := ⟨ok_mem (tb_at3 226 rfl) (by decide +kernel), ok_mem (tb_at3 227 rfl) (by decide +kernel), _, _, rfl⟩
theorem mv_X6_numberFault : MV yX6_numberFault cX6_numberFault 1 (some .int) 0 := ⟨ok_mem (tb_at4 5 rfl) rfl, ok_mem (tb_at1 2 rfl) rfl, ⟨by decide +kernel, by decide +kernel⟩, by decide +kernel⟩
theorem mi_X6_numberFault : MI yX6_numberFault 6 := ⟨ok_mem (tb_at4 3 rfl) (by decide +kernel), ok_mem (tb_at4 4 rfl) (by decide +kernel), _, _, rfl⟩
theorem mv_X6_passNumber : MV yX6_passNumber cX6_passNumber 3 (some .boolean) 2 := ⟨ok_mem (tb_at3 237 rfl) rfl, ok_mem (tb_at1 2 rfl) rfl, ⟨by decide +kernel, by decide +kernel⟩, by decide +kernel⟩
theorem mi_X6_passNumber : MI yX6_passNumber 6 := ⟨ok_mem (tb_at3 235 rfl) (by decide +kernel), ok_mem (tb_at3 236 rfl) (by decide +kernel), _, _, rfl⟩
theorem mv_X6_passSemicolon : MV yX6_passSemicolon cX6_passSemicolon 1 (some .boolean) 0 := ⟨ok_mem (tb_at4 19 rfl) rfl, ok_mem (tb_at1 2 rfl) rfl, ⟨by decide +kernel, by decide +kernel⟩, by decide +kernel⟩
theorem mi_X6_passSemicolon : MI yX6_passSemicolon 6 := ⟨ok_mem (tb_at4 17 rfl) (by decide +kernel), ok_mem (tb_at4 18 rfl) (by decide +kernel), _, _, rfl⟩
theorem mv_X6_passWord : MV yX6_passWord cX6_passWord 2 (some .boolean) 1 := ⟨ok_mem (tb_at4 32 rfl) rfl, ok_mem (tb_at1 2 rfl) rfl, ⟨by decide +kernel, by decide +kernel⟩, by decide +kernel⟩
theorem mi_X6_passWord : MI yX6_passWord 6 := ⟨ok_mem (tb_at4 30 rfl) (by decide +kernel), ok_mem (tb_at4 31 rfl) (by decide +kernel), _, _, rfl⟩
theorem mv_X6_readNumber : MV yX6_readNumber cX6_readNumber 5 (some .int) 2 := ⟨ok_mem (tb_at3 161 rfl) rfl, ok_mem (tb_at1 2 rfl) rfl, ⟨by decide +kernel, by decide +kernel⟩, by decide +kernel⟩
theorem mi_X6_readNumber : MI yX6_readNumber 6 := ⟨ok_mem (tb_at3 160 rfl) (by decide +kernel), ok_mem (sel_at 9 rfl) (by decide +kernel), _, _, rfl⟩
theorem mv_X6_readToken : MV yX6_readToken cX6_readToken 5 (some .int) 2 := ⟨ok_mem (tb_at3 85 rfl) rfl, ok_mem (tb_at1 2 rfl) rfl, ⟨by decide +kernel, by decide +kernel⟩, by decide +kernel⟩
theorem mi_X6_readToken : MI yX6_readToken 6 := ⟨ok_mem (tb_at3 84 rfl) (by decide +kernel), ok_mem (sel_at 4 rfl) (by decide +kernel), _, _, rfl⟩
theorem mv_X6_readWord : MV yX6_readWord cX6_readWord 6 (some .int) 2 := ⟨ok_mem (tb_at3 92 rfl) rfl, ok_mem (tb_at1 2 rfl) rfl, ⟨by decide +kernel, by decide +kernel⟩, by decide +kernel⟩
theorem mi_X6_readWord : MI yX6_readWord 6 := ⟨ok_mem (tb_at3 91 rfl) (by decide +kernel), ok_mem (sel_at 5 rfl) (by decide +kernel), _, _, rfl⟩
theorem mv_X6_refuseToken : MV yX6_refuseToken cX6_refuseToken 2 (some .boolean) 1 := ⟨ok_mem (tb_at3 189 rfl) rfl, ok_mem (tb_at1 2 rfl) rfl, ⟨by decide +kernel, by decide +kernel⟩, by decide +kernel⟩
theorem mi_X6_refuseToken : MI yX6_refuseToken 6 := ⟨ok_mem (tb_at3 187 rfl) (by decide +kernel), ok_mem (tb_at3 188 rfl) (by decide +kernel), _, _, rfl⟩
theorem mv_X6_value : MV yX6_value cX6_value 1 (some .int) 0 := ⟨ok_mem (tb_at3 233 rfl) rfl, ok_mem (tb_at1 2 rfl) rfl, ⟨by decide +kernel, by decide +kernel⟩, by decide +kernel⟩
theorem mi_X6_value : MI yX6_value 6 := ⟨ok_mem (tb_at3 231 rfl) (by decide +kernel), ok_mem (tb_at3 232 rfl) (by decide +kernel), _, _, rfl⟩
theorem mv_X6_word : MV yX6_word cX6_word 1 (some .int) 0 := ⟨ok_mem (tb_at3 181 rfl) rfl, ok_mem (tb_at1 2 rfl) rfl, ⟨by decide +kernel, by decide +kernel⟩, by decide +kernel⟩
theorem mi_X6_word : MI yX6_word 6 := ⟨ok_mem (tb_at3 179 rfl) (by decide +kernel), ok_mem (tb_at3 180 rfl) (by decide +kernel), _, _, rfl⟩
theorem mv_X7_areWithin : MV yX7_areWithin cX7_areWithin 5 (some .boolean) 2 := ⟨ok_mem (tb_at6 92 rfl) rfl, ok_mem (tb_at1 11 rfl) rfl, ⟨by decide +kernel, by decide +kernel⟩, by decide +kernel⟩
theorem mi_X7_areWithin : MI yX7_areWithin 7 := ⟨ok_mem (tb_at6 90 rfl) (by decide +kernel), ok_mem (tb_at6 91 rfl) (by decide +kernel), _, _, rfl⟩
theorem mv_X7_fillGaps : MV yX7_fillGaps cX7_fillGaps 4 (some .int) 1 := ⟨ok_mem (tb_at6 113 rfl) rfl, ok_mem (tb_at1 11 rfl) rfl, ⟨by decide +kernel, by decide +kernel⟩, by decide +kernel⟩
theorem mi_X7_fillGaps : MI yX7_fillGaps 7 := ⟨ok_mem (tb_at6 111 rfl) (by decide +kernel), ok_mem (tb_at6 112 rfl) (by decide +kernel), _, _, rfl⟩
theorem mv_X7_hasRow : MV yX7_hasRow cX7_hasRow 3 (some .boolean) 2 := ⟨ok_mem (tb_at3 39 rfl) rfl, ok_mem (tb_at1 11 rfl) rfl, ⟨by decide +kernel, by decide +kernel⟩, by decide +kernel⟩
theorem mi_X7_hasRow : MI yX7_hasRow 7 := ⟨ok_mem (tb_at3 37 rfl) (by decide +kernel), ok_mem (tb_at3 38 rfl) (by decide +kernel), _, _, rfl⟩
theorem mv_X7_isMissing : MV yX7_isMissing cX7_isMissing 1 (some .boolean) 0 := ⟨ok_mem (tb_at3 35 rfl) rfl, ok_mem (tb_at1 11 rfl) rfl, ⟨by decide +kernel, by decide +kernel⟩, by decide +kernel⟩
theorem mi_X7_isMissing : MI yX7_isMissing 7 := ⟨ok_mem (tb_at3 33 rfl) (by decide +kernel), ok_mem (tb_at3 34 rfl) (by decide +kernel), _, _, rfl⟩
theorem mv_X7_put : MV yX7_put cX7_put 4 none 2 := ⟨ok_mem (tb_at3 43 rfl) rfl, ok_mem (tb_at1 11 rfl) rfl, ⟨by decide +kernel, by decide +kernel⟩, by decide +kernel⟩
theorem mi_X7_put : MI yX7_put 7 := ⟨ok_mem (tb_at3 41 rfl) (by decide +kernel), ok_mem (tb_at3 42 rfl) (by decide +kernel), _, _, rfl⟩
theorem mv_X7_renew : MV yX7_renew cX7_renew 4 none 2 := ⟨ok_mem (tb_at3 19 rfl) rfl, ok_mem (tb_at1 11 rfl) rfl, ⟨by decide +kernel, by decide +kernel⟩, by decide +kernel⟩
theorem mi_X7_renew : MI yX7_renew 7 := ⟨ok_mem (tb_at3 17 rfl) (by decide +kernel), ok_mem (tb_at3 18 rfl) (by decide +kernel), _, _, rfl⟩
theorem mv_X7_rowsOfAlike : MV yX7_rowsOfAlike cX7_rowsOfAlike 4 (some .int) 1 := ⟨ok_mem (tb_at6 121 rfl) rfl, ok_mem (tb_at1 11 rfl) rfl, ⟨by decide +kernel, by decide +kernel⟩, by decide +kernel⟩
theorem mi_X7_rowsOfAlike : MI yX7_rowsOfAlike 7 := ⟨ok_mem (tb_at6 119 rfl) (by decide +kernel), ok_mem (tb_at6 120 rfl) (by decide +kernel), _, _, rfl⟩
theorem mv_X8_add : MV yX8_add cX8_add 3 (some .int) 1 := ⟨ok_mem (tb_at4 124 rfl) rfl, ok_mem (tb_at1 6 rfl) rfl, ⟨by decide +kernel, by decide +kernel⟩, by decide +kernel⟩
theorem mi_X8_add : MI yX8_add 8 := ⟨ok_mem (tb_at4 122 rfl) (by decide +kernel), ok_mem (tb_at4 123 rfl) (by decide +kernel), _, _, rfl⟩
theorem mv_X8_forget : MV yX8_forget cX8_forget 1 none 0 := ⟨ok_mem (tb_at4 92 rfl) rfl, ok_mem (tb_at1 6 rfl) rfl, ⟨by decide +kernel, by decide +kernel⟩, by decide +kernel⟩
theorem mi_X8_forget : MI yX8_forget 8 := ⟨ok_mem (tb_at4 90 rfl) (by decide +kernel), ok_mem (tb_at4 91 rfl) (by decide +kernel), _, _, rfl⟩
theorem mv_X8_isFull : MV yX8_isFull cX8_isFull 1 (some .boolean) 0 := ⟨ok_mem (tb_at4 133 rfl) rfl, ok_mem (tb_at1 6 rfl) rfl, ⟨by decide +kernel, by decide +kernel⟩, by decide +kernel⟩
theorem mi_X8_isFull : MI yX8_isFull 8 := ⟨ok_mem (tb_at4 131 rfl) (by decide +kernel), ok_mem (tb_at4 132 rfl) (by decide +kernel), _, _, rfl⟩
theorem mv_X8_takeOver : MV yX8_takeOver cX8_takeOver 2 none 1 := ⟨ok_mem (tb_at6 237 rfl) rfl, ok_mem (tb_at1 6 rfl) rfl, ⟨by decide +kernel, by decide +kernel⟩, by decide +kernel⟩
theorem mi_X8_takeOver : MI yX8_takeOver 8 := ⟨ok_mem (tb_at6 235 rfl) (by decide +kernel), ok_mem (tb_at6 236 rfl) (by decide +kernel), _, _, rfl⟩
theorem mv_X9_isDoing : MV yX9_isDoing cX9_isDoing 1 (some .boolean) 1 := ⟨ok_mem (tb_at4 129 rfl) rfl, ok_mem (tb_at1 4 rfl) rfl, ⟨by decide +kernel, by decide +kernel⟩, by decide +kernel⟩
theorem ms_X9_isDoing : Cond.static yX9_isDoing ∈ okT := ok_mem (tb_at4 128 rfl) (by decide +kernel)
theorem mv_X9_isTaken : MV yX9_isTaken cX9_isTaken 5 (some .boolean) 3 := ⟨ok_mem (tb_at4 108 rfl) rfl, ok_mem (tb_at1 4 rfl) rfl, ⟨by decide +kernel, by decide +kernel⟩, by decide +kernel⟩
theorem mi_X9_isTaken : MI yX9_isTaken 9 := ⟨ok_mem (tb_at4 106 rfl) (by decide +kernel), ok_mem (tb_at4 107 rfl) (by decide +kernel), _, _, rfl⟩
theorem mv_X9_passComparison : MV yX9_passComparison cX9_passComparison 2 (some .boolean) 1 := ⟨ok_mem (tb_at4 168 rfl) rfl, ok_mem (tb_at1 4 rfl) rfl, ⟨by decide +kernel, by decide +kernel⟩, by decide +kernel⟩
theorem mi_X9_passComparison : MI yX9_passComparison 9 := ⟨ok_mem (tb_at4 167 rfl) (by decide +kernel), ok_mem (sel_at 28 rfl) (by decide +kernel), _, _, rfl⟩
theorem mv_X9_passEnd : MV yX9_passEnd cX9_passEnd 2 (some .boolean) 0 := ⟨ok_mem (tb_at4 119 rfl) rfl, ok_mem (tb_at1 4 rfl) rfl, ⟨by decide +kernel, by decide +kernel⟩, by decide +kernel⟩
theorem mi_X9_passEnd : MI yX9_passEnd 9 := ⟨ok_mem (tb_at4 118 rfl) (by decide +kernel), ok_mem (sel_at 21 rfl) (by decide +kernel), _, _, rfl⟩
theorem mv_X9_passFault : MV yX9_passFault cX9_passFault 2 (some .boolean) 1 := ⟨ok_mem (tb_at4 163 rfl) rfl, ok_mem (tb_at1 4 rfl) rfl, ⟨by decide +kernel, by decide +kernel⟩, by decide +kernel⟩
theorem mi_X9_passFault : MI yX9_passFault 9 := ⟨ok_mem (tb_at4 162 rfl) (by decide +kernel), ok_mem (sel_at 27 rfl) (by decide +kernel), _, _, rfl⟩
theorem mv_X9_passHole : MV yX9_passHole cX9_passHole 2 (some .boolean) 1 := ⟨ok_mem (tb_at4 141 rfl) rfl, ok_mem (tb_at1 4 rfl) rfl, ⟨by decide +kernel, by decide +kernel⟩, by decide +kernel⟩
theorem mi_X9_passHole : MI yX9_passHole 9 := ⟨ok_mem (tb_at4 140 rfl) (by decide +kernel), ok_mem (sel_at 23 rfl) (by decide +kernel), _, _, rfl⟩
theorem mv_X9_passNameOf : MV yX9_passNameOf cX9_passNameOf 2 (some .boolean) 1 := ⟨ok_mem (tb_at4 147 rfl) rfl, ok_mem (tb_at1 4 rfl) rfl, ⟨by decide +kernel, by decide +kernel⟩, by decide +kernel⟩
theorem mi_X9_passNameOf : MI yX9_passNameOf 9 := ⟨ok_mem (tb_at4 146 rfl) (by decide +kernel), ok_mem (sel_at 24 rfl) (by decide +kernel), _, _, rfl⟩
theorem mv_X9_passNumber : MV yX9_passNumber cX9_passNumber 4 (some .boolean) 3 := ⟨ok_mem (tb_at4 157 rfl) rfl, ok_mem (tb_at1 4 rfl) rfl, ⟨by decide +kernel, by decide +kernel⟩, by decide +kernel⟩
theorem mi_X9_passNumber : MI yX9_passNumber 9 := ⟨ok_mem (tb_at4 156 rfl) (by decide +kernel), ok_mem (sel_at 26 rfl) (by decide +kernel), _, _, rfl⟩
theorem mv_X9_passRest : MV yX9_passRest cX9_passRest 3 (some .boolean) 2 := ⟨ok_mem (tb_at4 137 rfl) rfl, ok_mem (tb_at1 4 rfl) rfl, ⟨by decide +kernel, by decide +kernel⟩, by decide +kernel⟩
theorem mi_X9_passRest : MI yX9_passRest 9 := ⟨ok_mem (tb_at4 136 rfl) (by decide +kernel), ok_mem (sel_at 22 rfl) (by decide +kernel), _, _, rfl⟩
theorem mv_X9_passRock : MV yX9_passRock cX9_passRock 2 (some .boolean) 1 := ⟨ok_mem (tb_at4 152 rfl) rfl, ok_mem (tb_at1 4 rfl) rfl, ⟨by decide +kernel, by decide +kernel⟩, by decide +kernel⟩
theorem mi_X9_passRock : MI yX9_passRock 9 := ⟨ok_mem (tb_at4 151 rfl) (by decide +kernel), ok_mem (sel_at 25 rfl) (by decide +kernel), _, _, rfl⟩
theorem mv_X9_passStep : MV yX9_passStep cX9_passStep 4 (some .boolean) 0 := ⟨ok_mem (tb_at4 114 rfl) rfl, ok_mem (tb_at1 4 rfl) rfl, ⟨by decide +kernel, by decide +kernel⟩, by decide +kernel⟩
theorem mi_X9_passStep : MI yX9_passStep 9 := ⟨ok_mem (tb_at4 113 rfl) (by decide +kernel), ok_mem (sel_at 20 rfl) (by decide +kernel), _, _, rfl⟩
theorem mv_X11_aFault : MV yX11_aFault cX11_aFault 2 (some .boolean) 0 := ⟨ok_mem (tb_at8 64 rfl) rfl, ok_mem (tb_at1 12 rfl) rfl, ⟨by decide +kernel, by decide +kernel⟩, by decide +kernel⟩
theorem mi_X11_aFault : MI yX11_aFault 11 := ⟨ok_mem (tb_at8 63 rfl) (by decide +kernel), ok_mem (sel_at 79 rfl) (by decide +kernel), _, _, rfl⟩
theorem mv_X11_aHole : MV yX11_aHole cX11_aHole 3 (some .boolean) 0 := ⟨ok_mem (tb_at8 49 rfl) rfl, ok_mem (tb_at1 12 rfl) rfl, ⟨by decide +kernel, by decide +kernel⟩, by decide +kernel⟩
theorem mi_X11_aHole : MI yX11_aHole 11 := ⟨ok_mem (tb_at8 48 rfl) (by decide +kernel), ok_mem (sel_at 76 rfl) (by decide +kernel), _, _, rfl⟩
theorem mv_X11_aRock : MV yX11_aRock cX11_aRock 3 (some .boolean) 0 := ⟨ok_mem (tb_at8 5 rfl) rfl, ok_mem (tb_at1 12 rfl) rfl, ⟨by decide +kernel, by decide +kernel⟩, by decide +kernel⟩
theorem mi_X11_aRock : MI yX11_aRock 11 := ⟨ok_mem (tb_at8 4 rfl) (by decide +kernel), ok_mem (sel_at 65 rfl) (by decide +kernel), _, _, rfl⟩
theorem mv_X11_aTriangle : MV yX11_aTriangle cX11_aTriangle 3 (some .boolean) 0 := ⟨ok_mem (tb_at8 53 rfl) rfl, ok_mem (tb_at1 12 rfl) rfl, ⟨by decide +kernel, by decide +kernel⟩, by decide +kernel⟩
theorem mi_X11_aTriangle : MI yX11_aTriangle 11 := ⟨ok_mem (tb_at8 52 rfl) (by decide +kernel), ok_mem (sel_at 77 rfl) (by decide +kernel), _, _, rfl⟩
theorem mv_X11_above : MV yX11_above cX11_above 3 (some .int) 2 := ⟨ok_mem (tb_at9 25 rfl) rfl, ok_mem (tb_at1 12 rfl) rfl, ⟨by decide +kernel, by decide +kernel⟩, by decide +kernel⟩
theorem mi_X11_above : MI yX11_above 11 := ⟨ok_mem (tb_at9 23 rfl) (by decide +kernel), ok_mem (tb_at9 24 rfl) (by decide +kernel), _, _, rfl⟩
theorem mv_X11_across : MV yX11_across cX11_across 2 (some .int) 1 := ⟨ok_mem (tb_at9 72 rfl) rfl, ok_mem (tb_at1 12 rfl) rfl, ⟨by decide +kernel, by decide +kernel⟩, by decide +kernel⟩
theorem mi_X11_across : MI yX11_across 11 := ⟨ok_mem (tb_at9 70 rfl) (by decide +kernel), ok_mem (tb_at9 71 rfl) (by decide +kernel), _, _, rfl⟩
theorem mv_X11_agreeing : MV yX11_agreeing cX11_agreeing 8 (some .int) 4 := ⟨ok_mem (tb_at9 170 rfl) rfl, ok_mem (tb_at1 12 rfl) rfl, ⟨by decide +kernel, by decide +kernel⟩, by decide +kernel⟩
theorem mi_X11_agreeing : MI yX11_agreeing 11 := ⟨ok_mem (tb_at9 169 rfl) (by decide +kernel), ok_mem (sel_at 124 rfl) (by decide +kernel), _, _, rfl⟩
theorem mv_X11_agrees : MV yX11_agrees cX11_agrees 5 (some .int) 3 := ⟨ok_mem (tb_at9 166 rfl) rfl, ok_mem (tb_at1 12 rfl) rfl, ⟨by decide +kernel, by decide +kernel⟩, by decide +kernel⟩
theorem mi_X11_agrees : MI yX11_agrees 11 := ⟨ok_mem (tb_at9 164 rfl) (by decide +kernel), ok_mem (tb_at9 165 rfl) (by decide +kernel), _, _, rfl⟩
theorem mv_X11_ahead : MV yX11_ahead cX11_ahead 2 none 0 := ⟨ok_mem (tb_at7 214 rfl) rfl, ok_mem (tb_at1 12 rfl) rfl, ⟨by decide +kernel, by decide +kernel⟩, by decide +kernel⟩
theorem mi_X11_ahead : MI yX11_ahead 11 := ⟨ok_mem (tb_at7 213 rfl) (by decide +kernel), ok_mem (sel_at 60 rfl) (by decide +kernel), _, _, rfl⟩
theorem mv_X11_allThick : MV yX11_allThick cX11_allThick 5 (some .int) 2 := ⟨ok_mem (tb_at8 143 rfl) rfl, ok_mem (tb_at1 12 rfl) rfl, ⟨by decide +kernel, by decide +kernel⟩, by decide +kernel⟩
theorem mi_X11_allThick : MI yX11_allThick 11 := ⟨ok_mem (tb_at8 142 rfl) (by decide +kernel), ok_mem (sel_at 93 rfl) (by decide +kernel), _, _, rfl⟩
theorem mv_X11_area : MV yX11_area cX11_area 2 (some .boolean) 1 := ⟨ok_mem (tb_at9 48 rfl) rfl, ok_mem (tb_at1 12 rfl) rfl, ⟨by decide +kernel, by decide +kernel⟩, by decide +kernel⟩
theorem mi_X11_area : MI yX11_area 11 := ⟨ok_mem (tb_at9 46 rfl) (by decide +kernel), ok_mem (tb_at9 47 rfl) (by decide +kernel), _, _, rfl⟩
theorem mv_X11_back : MV yX11_back cX11_back 1 (some .int) 0 := ⟨ok_mem (tb_at10 22 rfl) rfl, ok_mem (tb_at1 12 rfl) rfl, ⟨by decide +kernel, by decide +kernel⟩, by decide +kernel⟩
theorem mi_X11_back : MI yX11_back 11 := ⟨ok_mem (tb_at10 20 rfl) (by decide +kernel), ok_mem (tb_at10 21 rfl) (by decide +kernel), _, _, rfl⟩
theorem mv_X11_bed : MV yX11_bed cX11_bed 5 (some .int) 3 := ⟨ok_mem (tb_at9 17 rfl) rfl, ok_mem (tb_at1 12 rfl) rfl, ⟨by decide +kernel, by decide +kernel⟩, by decide +kernel⟩
theorem mi_X11_bed : MI yX11_bed 11 := ⟨ok_mem (tb_at9 15 rfl) (by decide +kernel), ok_mem (tb_at9 16 rfl) (by decide +kernel), _, _, rfl⟩
theorem mv_X11_bedOf : MV yX11_bedOf cX11_bedOf 3 (some .int) 2 := ⟨ok_mem (tb_at8 237 rfl) rfl, ok_mem (tb_at1 12 rfl) rfl, ⟨by decide +kernel, by decide +kernel⟩, by decide +kernel⟩
theorem mi_X11_bedOf : MI yX11_bedOf 11 := ⟨ok_mem (tb_at8 235 rfl) (by decide +kernel), ok_mem (tb_at8 236 rfl) (by decide +kernel), _, _, rfl⟩
theorem mv_X11_beds : MV yX11_beds cX11_beds 1 (some .int) 0 := ⟨ok_mem (tb_at8 229 rfl) rfl, ok_mem (tb_at1 12 rfl) rfl, ⟨by decide +kernel, by decide +kernel⟩, by decide +kernel⟩
theorem mi_X11_beds : MI yX11_beds 11 := ⟨ok_mem (tb_at8 227 rfl) (by decide +kernel), ok_mem (tb_at8 228 rfl) (by decide +kernel), _, _, rfl⟩
theorem mv_X11_begins : MV yX11_begins cX11_begins 4 (some .boolean) 2 := ⟨ok_mem (tb_at7 210 rfl) rfl, ok_mem (tb_at1 12 rfl) rfl, ⟨by decide +kernel, by decide +kernel⟩, by decide +kernel⟩
theorem mi_X11_begins : MI yX11_begins 11 := ⟨ok_mem (tb_at7 209 rfl) (by decide +kernel), ok_mem (sel_at 59 rfl) (by decide +kernel), _, _, rfl⟩
theorem mv_X11_behindEnds : MV yX11_behindEnds cX11_behindEnds 5 (some .int) 1 := ⟨ok_mem (tb_at10 1 rfl) rfl, ok_mem (tb_at1 12 rfl) rfl, ⟨by decide +kernel, by decide +kernel⟩, by decide +kernel⟩
theorem mi_X11_behindEnds : MI yX11_behindEnds 11 := ⟨ok_mem (tb_at10 0 rfl) (by decide +kernel), ok_mem (sel_at 134 rfl) (by decide +kernel), _, _, rfl⟩
theorem mv_X11_bits : MV yX11_bits cX11_bits 3 (some .int) 1 := ⟨ok_mem (tb_at9 44 rfl) rfl, ok_mem (tb_at1 12 rfl) rfl, ⟨by decide +kernel, by decide +kernel⟩, by decide +kernel⟩
theorem ms_X11_bits : Cond.static yX11_bits ∈ okT := ok_mem (tb_at9 43 rfl) (by decide +kernel)
theorem mv_X11_bottom : MV yX11_bottom cX11_bottom 1 (some .long) 0 := ⟨ok_mem (tb_at7 159 rfl) rfl, ok_mem (tb_at1 12 rfl) rfl, ⟨by decide +kernel, by decide +kernel⟩, by decide +kernel⟩
theorem mi_X11_bottom : MI yX11_bottom 11 := ⟨ok_mem (tb_at7 157 rfl) (by decide +kernel), ok_mem (tb_at7 158 rfl) (by decide +kernel), _, _, rfl⟩
theorem mv_X11_byteAt : MV yX11_byteAt cX11_byteAt 2 (some .int) 1 := ⟨ok_mem (tb_at7 218 rfl) rfl, ok_mem (tb_at1 12 rfl) rfl, ⟨by decide +kernel, by decide +kernel⟩, by decide +kernel⟩
theorem mi_X11_byteAt : MI yX11_byteAt 11 := ⟨ok_mem (tb_at7 217 rfl) (by decide +kernel), ok_mem (sel_at 61 rfl) (by decide +kernel), _, _, rfl⟩
theorem mv_X11_copies : MV yX11_copies cX11_copies 4 none 2 := ⟨ok_mem (tb_at10 18 rfl) rfl, ok_mem (tb_at1 12 rfl) rfl, ⟨by decide +kernel, by decide +kernel⟩, by decide +kernel⟩
theorem mi_X11_copies : MI yX11_copies 11 := ⟨ok_mem (tb_at10 17 rfl) (by decide +kernel), ok_mem (sel_at 135 rfl) (by decide +kernel), _, _, rfl⟩
theorem mv_X11_corner : MV yX11_corner cX11_corner 3 (some .int) 2 := ⟨ok_mem (tb_at9 60 rfl) rfl, ok_mem (tb_at1 12 rfl) rfl, ⟨by decide +kernel, by decide +kernel⟩, by decide +kernel⟩
theorem mi_X11_corner : MI yX11_corner 11 := ⟨ok_mem (tb_at9 59 rfl) (by decide +kernel), ok_mem (sel_at 115 rfl) (by decide +kernel), _, _, rfl⟩
theorem mv_X11_cornersOf : MV yX11_cornersOf cX11_cornersOf 8 (some .long) 4 := ⟨ok_mem (tb_at8 57 rfl) rfl, ok_mem (tb_at1 12 rfl) rfl, ⟨by decide +kernel, by decide +kernel⟩, by decide +kernel⟩
theorem mi_X11_cornersOf : MI yX11_cornersOf 11 := ⟨ok_mem (tb_at8 56 rfl) (by decide +kernel), ok_mem (sel_at 78 rfl) (by decide +kernel), _, _, rfl⟩
theorem mv_X11_cut : MV yX11_cut cX11_cut 3 (some .long) 2 := ⟨ok_mem (tb_at7 181 rfl) rfl, ok_mem (tb_at1 12 rfl) rfl, ⟨by decide +kernel, by decide +kernel⟩, by decide +kernel⟩
theorem ms_X11_cut : Cond.static yX11_cut ∈ okT := ok_mem (tb_at7 180 rfl) (by decide +kernel)
theorem mv_X11_deepest : MV yX11_deepest cX11_deepest 6 (some .int) 1 := ⟨ok_mem (tb_at9 124 rfl) rfl, ok_mem (tb_at1 12 rfl) rfl, ⟨by decide +kernel, by decide +kernel⟩, by decide +kernel⟩
theorem mi_X11_deepest : MI yX11_deepest 11 := ⟨ok_mem (tb_at9 122 rfl) (by decide +kernel), ok_mem (tb_at9 123 rfl) (by decide +kernel), _, _, rfl⟩
theorem mv_X11_depthOf : MV yX11_depthOf cX11_depthOf 3 (some .int) 2 := ⟨ok_mem (tb_at8 171 rfl) rfl, ok_mem (tb_at1 12 rfl) rfl, ⟨by decide +kernel, by decide +kernel⟩, by decide +kernel⟩
theorem mi_X11_depthOf : MI yX11_depthOf 11 := ⟨ok_mem (tb_at8 170 rfl) (by decide +kernel), ok_mem (sel_at 99 rfl) (by decide +kernel), _, _, rfl⟩
theorem mv_X11_does : MV yX11_does cX11_does 5 none 1 := ⟨ok_mem (tb_at9 224 rfl) rfl, ok_mem (tb_at1 12 rfl) rfl, ⟨by decide +kernel, by decide +kernel⟩, by decide +kernel⟩
theorem mi_X11_does : MI yX11_does 11 := ⟨ok_mem (tb_at9 223 rfl) (by decide +kernel), ok_mem (sel_at 130 rfl) (by decide +kernel), _, _, rfl⟩
theorem mv_X11_draw : MV yX11_draw cX11_draw 2 (some .int) 1 := ⟨ok_mem (tb_at9 228 rfl) rfl, ok_mem (tb_at1 12 rfl) rfl, ⟨by decide +kernel, by decide +kernel⟩, by decide +kernel⟩
theorem mi_X11_draw : MI yX11_draw 11 := ⟨ok_mem (tb_at9 227 rfl) (by decide +kernel), ok_mem (sel_at 131 rfl) (by decide +kernel), _, _, rfl⟩
theorem mv_X11_draws : MV yX11_draws cX11_draws 4 (some .int) 2 := ⟨ok_mem (tb_at9 186 rfl) rfl, ok_mem (tb_at1 12 rfl) rfl, ⟨by decide +kernel, by decide +kernel⟩, by decide +kernel⟩
theorem mi_X11_draws : MI yX11_draws 11 := ⟨ok_mem (tb_at9 184 rfl) (by decide +kernel), ok_mem (tb_at9 185 rfl) (by decide +kernel), _, _, rfl⟩
theorem mv_X11_fails : MV yX11_fails cX11_fails 2 (some .boolean) 1 := ⟨ok_mem (tb_at8 13 rfl) rfl, ok_mem (tb_at1 12 rfl) rfl, ⟨by decide +kernel, by decide +kernel⟩, by decide +kernel⟩
theorem mi_X11_fails : MI yX11_fails 11 := ⟨ok_mem (tb_at8 12 rfl) (by decide +kernel), ok_mem (sel_at 67 rfl) (by decide +kernel), _, _, rfl⟩
theorem mv_X11_fault : MV yX11_fault cX11_fault 2 (some .int) 1 := ⟨ok_mem (tb_at7 202 rfl) rfl, ok_mem (tb_at1 12 rfl) rfl, ⟨by decide +kernel, by decide +kernel⟩, by decide +kernel⟩
theorem mi_X11_fault : MI yX11_fault 11 := ⟨ok_mem (tb_at7 200 rfl) (by decide +kernel), ok_mem (tb_at7 201 rfl) (by decide +kernel), _, _, rfl⟩
theorem mv_X11_feed : MV yX11_feed cX11_feed 6 (some .int) 5 := ⟨ok_mem (tb_at7 194 rfl) rfl, ok_mem (tb_at1 12 rfl) rfl, ⟨by decide +kernel, by decide +kernel⟩, by decide +kernel⟩
theorem mi_X11_feed : MI yX11_feed 11 := ⟨ok_mem (tb_at7 192 rfl) (by decide +kernel), ok_mem (tb_at7 193 rfl) (by decide +kernel), _, _, rfl⟩
theorem mv_X11_field : MV yX11_field cX11_field 4 (some .int) 1 := ⟨ok_mem (tb_at7 206 rfl) rfl, ok_mem (tb_at1 12 rfl) rfl, ⟨by decide +kernel, by decide +kernel⟩, by decide +kernel⟩
theorem mi_X11_field : MI yX11_field 11 := ⟨ok_mem (tb_at7 204 rfl) (by decide +kernel), ok_mem (tb_at7 205 rfl) (by decide +kernel), _, _, rfl⟩
theorem mv_X11_fieldPart : MV yX11_fieldPart cX11_fieldPart 2 (some .boolean) 0 := ⟨ok_mem (tb_at7 234 rfl) rfl, ok_mem (tb_at1 12 rfl) rfl, ⟨by decide +kernel, by decide +kernel⟩, by decide +kernel⟩
theorem mi_X11_fieldPart : MI yX11_fieldPart 11 := ⟨ok_mem (tb_at7 233 rfl) (by decide +kernel), ok_mem (sel_at 63 rfl) (by decide +kernel), _, _, rfl⟩
theorem mv_X11_fill : MV yX11_fill cX11_fill 6 (some .int) 2 := ⟨ok_mem (tb_at9 158 rfl) rfl, ok_mem (tb_at1 12 rfl) rfl, ⟨by decide +kernel, by decide +kernel⟩, by decide +kernel⟩
theorem mi_X11_fill : MI yX11_fill 11 := ⟨ok_mem (tb_at9 156 rfl) (by decide +kernel), ok_mem (tb_at9 157 rfl) (by decide +kernel), _, _, rfl⟩
theorem mv_X11_findHere : MV yX11_findHere cX11_findHere 4 (some .int) 2 := ⟨ok_mem (tb_at8 21 rfl) rfl, ok_mem (tb_at1 12 rfl) rfl, ⟨by decide +kernel, by decide +kernel⟩, by decide +kernel⟩
theorem mi_X11_findHere : MI yX11_findHere 11 := ⟨ok_mem (tb_at8 20 rfl) (by decide +kernel), ok_mem (sel_at 69 rfl) (by decide +kernel), _, _, rfl⟩
theorem mv_X11_firstOf : MV yX11_firstOf cX11_firstOf 4 (some .int) 2 := ⟨ok_mem (tb_at9 13 rfl) rfl, ok_mem (tb_at1 12 rfl) rfl, ⟨by decide +kernel, by decide +kernel⟩, by decide +kernel⟩
theorem mi_X11_firstOf : MI yX11_firstOf 11 := ⟨ok_mem (tb_at9 12 rfl) (by decide +kernel), ok_mem (sel_at 109 rfl) (by decide +kernel), _, _, rfl⟩
theorem mv_X11_four : MV yX11_four cX11_four 3 none 1 := ⟨ok_mem (tb_at7 198 rfl) rfl, ok_mem (tb_at1 12 rfl) rfl, ⟨by decide +kernel, by decide +kernel⟩, by decide +kernel⟩
theorem mi_X11_four : MI yX11_four 11 := ⟨ok_mem (tb_at7 197 rfl) (by decide +kernel), ok_mem (sel_at 58 rfl) (by decide +kernel), _, _, rfl⟩
theorem mv_X11_gaps : MV yX11_gaps cX11_gaps 7 (some .int) 1 := ⟨ok_mem (tb_at9 132 rfl) rfl, ok_mem (tb_at1 12 rfl) rfl, ⟨by decide +kernel, by decide +kernel⟩, by decide +kernel⟩
theorem mi_X11_gaps : MI yX11_gaps 11 := ⟨ok_mem (tb_at9 130 rfl) (by decide +kernel), ok_mem (tb_at9 131 rfl) (by decide +kernel), _, _, rfl⟩
theorem mv_X11_gives : MV yX11_gives cX11_gives 2 (some .int) 1 := ⟨ok_mem (tb_at8 80 rfl) rfl, ok_mem (tb_at1 12 rfl) rfl, ⟨by decide +kernel, by decide +kernel⟩, by decide +kernel⟩
theorem mi_X11_gives : MI yX11_gives 11 := ⟨ok_mem (tb_at8 79 rfl) (by decide +kernel), ok_mem (sel_at 83 rfl) (by decide +kernel), _, _, rfl⟩
theorem mv_X11_hasRock : MV yX11_hasRock cX11_hasRock 4 (some .boolean) 2 := ⟨ok_mem (tb_at9 237 rfl) rfl, ok_mem (tb_at1 12 rfl) rfl, ⟨by decide +kernel, by decide +kernel⟩, by decide +kernel⟩
theorem mi_X11_hasRock : MI yX11_hasRock 11 := ⟨ok_mem (tb_at9 236 rfl) (by decide +kernel), ok_mem (sel_at 133 rfl) (by decide +kernel), _, _, rfl⟩
theorem mv_X11_holds : MV yX11_holds cX11_holds 6 (some .boolean) 1 := ⟨ok_mem (tb_at9 233 rfl) rfl, ok_mem (tb_at1 12 rfl) rfl, ⟨by decide +kernel, by decide +kernel⟩, by decide +kernel⟩
theorem mi_X11_holds : MI yX11_holds 11 := ⟨ok_mem (tb_at9 232 rfl) (by decide +kernel), ok_mem (sel_at 132 rfl) (by decide +kernel), _, _, rfl⟩
theorem mv_X11_hole : MV yX11_hole cX11_hole 3 (some .int) 2 := ⟨ok_mem (tb_at8 128 rfl) rfl, ok_mem (tb_at1 12 rfl) rfl, ⟨by decide +kernel, by decide +kernel⟩, by decide +kernel⟩
theorem mi_X11_hole : MI yX11_hole 11 := ⟨ok_mem (tb_at8 126 rfl) (by decide +kernel), ok_mem (tb_at8 127 rfl) (by decide +kernel), _, _, rfl⟩
theorem mv_X11_holeRow : MV yX11_holeRow cX11_holeRow 1 (some .int) 1 := ⟨ok_mem (tb_at8 139 rfl) rfl, ok_mem (tb_at1 12 rfl) rfl, ⟨by decide +kernel, by decide +kernel⟩, by decide +kernel⟩
theorem ms_X11_holeRow : Cond.static yX11_holeRow ∈ okT := ok_mem (tb_at8 138 rfl) (by decide +kernel)
theorem mv_X11_holeTo : MV yX11_holeTo cX11_holeTo 2 (some .boolean) 1 := ⟨ok_mem (tb_at8 96 rfl) rfl, ok_mem (tb_at1 12 rfl) rfl, ⟨by decide +kernel, by decide +kernel⟩, by decide +kernel⟩
theorem mi_X11_holeTo : MI yX11_holeTo 11 := ⟨ok_mem (tb_at8 95 rfl) (by decide +kernel), ok_mem (sel_at 86 rfl) (by decide +kernel), _, _, rfl⟩
theorem mv_X11_holesOf : MV yX11_holesOf cX11_holesOf 2 (some .int) 1 := ⟨ok_mem (tb_at9 1 rfl) rfl, ok_mem (tb_at1 12 rfl) rfl, ⟨by decide +kernel, by decide +kernel⟩, by decide +kernel⟩
theorem mi_X11_holesOf : MI yX11_holesOf 11 := ⟨ok_mem (tb_at8 239 rfl) (by decide +kernel), ok_mem (tb_at9 0 rfl) (by decide +kernel), _, _, rfl⟩
theorem mv_X11_holesWith : MV yX11_holesWith cX11_holesWith 4 (some .int) 1 := ⟨ok_mem (tb_at9 9 rfl) rfl, ok_mem (tb_at1 12 rfl) rfl, ⟨by decide +kernel, by decide +kernel⟩, by decide +kernel⟩
theorem mi_X11_holesWith : MI yX11_holesWith 11 := ⟨ok_mem (tb_at9 8 rfl) (by decide +kernel), ok_mem (sel_at 108 rfl) (by decide +kernel), _, _, rfl⟩
theorem mv_X11_inWords : MV yX11_inWords cX11_inWords 7 (some .int) 1 := ⟨ok_mem (tb_at7 239 rfl) rfl, ok_mem (tb_at1 12 rfl) rfl, ⟨by decide +kernel, by decide +kernel⟩, by decide +kernel⟩
theorem mi_X11_inWords : MI yX11_inWords 11 := ⟨ok_mem (tb_at7 238 rfl) (by decide +kernel), ok_mem (sel_at 64 rfl) (by decide +kernel), _, _, rfl⟩
theorem mv_X11_is : MV yX11_is cX11_is 2 (some .boolean) 1 := ⟨ok_mem (tb_at7 170 rfl) rfl, ok_mem (tb_at1 12 rfl) rfl, ⟨by decide +kernel, by decide +kernel⟩, by decide +kernel⟩
theorem mi_X11_is : MI yX11_is 11 := ⟨ok_mem (tb_at7 169 rfl) (by decide +kernel), ok_mem (sel_at 56 rfl) (by decide +kernel), _, _, rfl⟩
theorem mv_X11_isAbove : MV yX11_isAbove cX11_isAbove 4 (some .boolean) 2 := ⟨ok_mem (tb_at9 29 rfl) rfl, ok_mem (tb_at1 12 rfl) rfl, ⟨by decide +kernel, by decide +kernel⟩, by decide +kernel⟩
theorem mi_X11_isAbove : MI yX11_isAbove 11 := ⟨ok_mem (tb_at9 28 rfl) (by decide +kernel), ok_mem (sel_at 111 rfl) (by decide +kernel), _, _, rfl⟩
theorem mv_X11_isAcross : MV yX11_isAcross cX11_isAcross 4 (some .boolean) 1 := ⟨ok_mem (tb_at9 76 rfl) rfl, ok_mem (tb_at1 12 rfl) rfl, ⟨by decide +kernel, by decide +kernel⟩, by decide +kernel⟩
theorem mi_X11_isAcross : MI yX11_isAcross 11 := ⟨ok_mem (tb_at9 75 rfl) (by decide +kernel), ok_mem (sel_at 117 rfl) (by decide +kernel), _, _, rfl⟩
theorem mv_X11_isBed : MV yX11_isBed cX11_isBed 2 (some .boolean) 1 := ⟨ok_mem (tb_at9 5 rfl) rfl, ok_mem (tb_at1 12 rfl) rfl, ⟨by decide +kernel, by decide +kernel⟩, by decide +kernel⟩
theorem mi_X11_isBed : MI yX11_isBed 11 := ⟨ok_mem (tb_at9 4 rfl) (by decide +kernel), ok_mem (sel_at 107 rfl) (by decide +kernel), _, _, rfl⟩
theorem mv_X11_isDigit : MV yX11_isDigit cX11_isDigit 1 (some .boolean) 1 := ⟨ok_mem (tb_at7 224 rfl) rfl, ok_mem (tb_at1 12 rfl) rfl, ⟨by decide +kernel, by decide +kernel⟩, by decide +kernel⟩
theorem ms_X11_isDigit : Cond.static yX11_isDigit ∈ okT := ok_mem (tb_at7 223 rfl) (by decide +kernel)
theorem mv_X11_isFrom : MV yX11_isFrom cX11_isFrom 6 (some .boolean) 3 := ⟨ok_mem (tb_at9 87 rfl) rfl, ok_mem (tb_at1 12 rfl) rfl, ⟨by decide +kernel, by decide +kernel⟩, by decide +kernel⟩
theorem ms_X11_isFrom : Cond.static yX11_isFrom ∈ okT := ok_mem (tb_at9 86 rfl) (by decide +kernel)
theorem mv_X11_isHole : MV yX11_isHole cX11_isHole 2 (some .boolean) 1 := ⟨ok_mem (tb_at8 132 rfl) rfl, ok_mem (tb_at1 12 rfl) rfl, ⟨by decide +kernel, by decide +kernel⟩, by decide +kernel⟩
theorem mi_X11_isHole : MI yX11_isHole 11 := ⟨ok_mem (tb_at8 131 rfl) (by decide +kernel), ok_mem (sel_at 91 rfl) (by decide +kernel), _, _, rfl⟩
theorem mv_X11_isLayer : MV yX11_isLayer cX11_isLayer 3 (some .boolean) 2 := ⟨ok_mem (tb_at8 163 rfl) rfl, ok_mem (tb_at1 12 rfl) rfl, ⟨by decide +kernel, by decide +kernel⟩, by decide +kernel⟩
theorem mi_X11_isLayer : MI yX11_isLayer 11 := ⟨ok_mem (tb_at8 162 rfl) (by decide +kernel), ok_mem (sel_at 97 rfl) (by decide +kernel), _, _, rfl⟩
theorem mv_X11_isName : MV yX11_isName cX11_isName 2 (some .boolean) 1 := ⟨ok_mem (tb_at8 17 rfl) rfl, ok_mem (tb_at1 12 rfl) rfl, ⟨by decide +kernel, by decide +kernel⟩, by decide +kernel⟩
theorem mi_X11_isName : MI yX11_isName 11 := ⟨ok_mem (tb_at8 16 rfl) (by decide +kernel), ok_mem (sel_at 68 rfl) (by decide +kernel), _, _, rfl⟩
theorem mv_X11_isPick : MV yX11_isPick cX11_isPick 7 (some .boolean) 5 := ⟨ok_mem (tb_at9 146 rfl) rfl, ok_mem (tb_at1 12 rfl) rfl, ⟨by decide +kernel, by decide +kernel⟩, by decide +kernel⟩
theorem mi_X11_isPick : MI yX11_isPick 11 := ⟨ok_mem (tb_at9 145 rfl) (by decide +kernel), ok_mem (sel_at 122 rfl) (by decide +kernel), _, _, rfl⟩
theorem mv_X11_isPoint : MV yX11_isPoint cX11_isPoint 2 (some .boolean) 2 := ⟨ok_mem (tb_at9 83 rfl) rfl, ok_mem (tb_at1 12 rfl) rfl, ⟨by decide +kernel, by decide +kernel⟩, by decide +kernel⟩
theorem ms_X11_isPoint : Cond.static yX11_isPoint ∈ okT := ok_mem (tb_at9 82 rfl) (by decide +kernel)
theorem mv_X11_isRight : MV yX11_isRight cX11_isRight 4 (some .boolean) 2 := ⟨ok_mem (tb_at8 155 rfl) rfl, ok_mem (tb_at1 12 rfl) rfl, ⟨by decide +kernel, by decide +kernel⟩, by decide +kernel⟩
theorem mi_X11_isRight : MI yX11_isRight 11 := ⟨ok_mem (tb_at8 154 rfl) (by decide +kernel), ok_mem (sel_at 96 rfl) (by decide +kernel), _, _, rfl⟩
theorem mv_X11_isRock : MV yX11_isRock cX11_isRock 3 (some .boolean) 1 := ⟨ok_mem (tb_at8 116 rfl) rfl, ok_mem (tb_at1 12 rfl) rfl, ⟨by decide +kernel, by decide +kernel⟩, by decide +kernel⟩
theorem mi_X11_isRock : MI yX11_isRock 11 := ⟨ok_mem (tb_at8 115 rfl) (by decide +kernel), ok_mem (sel_at 89 rfl) (by decide +kernel), _, _, rfl⟩
theorem mv_X11_isSign : MV yX11_isSign cX11_isSign 2 (some .boolean) 1 := ⟨ok_mem (tb_at8 72 rfl) rfl, ok_mem (tb_at1 12 rfl) rfl, ⟨by decide +kernel, by decide +kernel⟩, by decide +kernel⟩
theorem mi_X11_isSign : MI yX11_isSign 11 := ⟨ok_mem (tb_at8 71 rfl) (by decide +kernel), ok_mem (sel_at 81 rfl) (by decide +kernel), _, _, rfl⟩
theorem mv_X11_isSmall : MV yX11_isSmall cX11_isSmall 1 (some .boolean) 1 := ⟨ok_mem (tb_at7 221 rfl) rfl, ok_mem (tb_at1 12 rfl) rfl, ⟨by decide +kernel, by decide +kernel⟩, by decide +kernel⟩
theorem ms_X11_isSmall : Cond.static yX11_isSmall ∈ okT := ok_mem (tb_at7 220 rfl) (by decide +kernel)
theorem mv_X11_isThere : MV yX11_isThere cX11_isThere 2 (some .boolean) 1 := ⟨ok_mem (tb_at8 29 rfl) rfl, ok_mem (tb_at1 12 rfl) rfl, ⟨by decide +kernel, by decide +kernel⟩, by decide +kernel⟩
theorem mi_X11_isThere : MI yX11_isThere 11 := ⟨ok_mem (tb_at8 28 rfl) (by decide +kernel), ok_mem (sel_at 71 rfl) (by decide +kernel), _, _, rfl⟩
theorem mv_X11_isTray : MV yX11_isTray cX11_isTray 1 (some .boolean) 1 := ⟨ok_mem (tb_at7 166 rfl) rfl, ok_mem (tb_at1 12 rfl) rfl, ⟨by decide +kernel, by decide +kernel⟩, by decide +kernel⟩
theorem ms_X11_isTray : Cond.static yX11_isTray ∈ okT := ok_mem (tb_at7 165 rfl) (by decide +kernel)
theorem mv_X11_isTriangle : MV yX11_isTriangle cX11_isTriangle 2 (some .boolean) 1 := ⟨ok_mem (tb_at9 52 rfl) rfl, ok_mem (tb_at1 12 rfl) rfl, ⟨by decide +kernel, by decide +kernel⟩, by decide +kernel⟩
theorem mi_X11_isTriangle : MI yX11_isTriangle 11 := ⟨ok_mem (tb_at9 51 rfl) (by decide +kernel), ok_mem (sel_at 113 rfl) (by decide +kernel), _, _, rfl⟩
theorem mv_X11_lay : MV yX11_lay cX11_lay 5 (some .int) 3 := ⟨ok_mem (tb_at9 190 rfl) rfl, ok_mem (tb_at1 12 rfl) rfl, ⟨by decide +kernel, by decide +kernel⟩, by decide +kernel⟩
theorem mi_X11_lay : MI yX11_lay 11 := ⟨ok_mem (tb_at9 188 rfl) (by decide +kernel), ok_mem (tb_at9 189 rfl) (by decide +kernel), _, _, rfl⟩
theorem mv_X11_layer : MV yX11_layer cX11_layer 4 (some .int) 3 := ⟨ok_mem (tb_at8 159 rfl) rfl, ok_mem (tb_at1 12 rfl) rfl, ⟨by decide +kernel, by decide +kernel⟩, by decide +kernel⟩
theorem mi_X11_layer : MI yX11_layer 11 := ⟨ok_mem (tb_at8 157 rfl) (by decide +kernel), ok_mem (tb_at8 158 rfl) (by decide +kernel), _, _, rfl⟩
theorem mv_X11_layerAt : MV yX11_layerAt cX11_layerAt 4 (some .int) 2 := ⟨ok_mem (tb_at8 175 rfl) rfl, ok_mem (tb_at1 12 rfl) rfl, ⟨by decide +kernel, by decide +kernel⟩, by decide +kernel⟩
theorem mi_X11_layerAt : MI yX11_layerAt 11 := ⟨ok_mem (tb_at8 173 rfl) (by decide +kernel), ok_mem (tb_at8 174 rfl) (by decide +kernel), _, _, rfl⟩
theorem mv_X11_layersOf : MV yX11_layersOf cX11_layersOf 2 (some .int) 1 := ⟨ok_mem (tb_at8 136 rfl) rfl, ok_mem (tb_at1 12 rfl) rfl, ⟨by decide +kernel, by decide +kernel⟩, by decide +kernel⟩
theorem mi_X11_layersOf : MI yX11_layersOf 11 := ⟨ok_mem (tb_at8 135 rfl) (by decide +kernel), ok_mem (sel_at 92 rfl) (by decide +kernel), _, _, rfl⟩
theorem mv_X11_lays : MV yX11_lays cX11_lays 6 none 3 := ⟨ok_mem (tb_at9 199 rfl) rfl, ok_mem (tb_at1 12 rfl) rfl, ⟨by decide +kernel, by decide +kernel⟩, by decide +kernel⟩
theorem mi_X11_lays : MI yX11_lays 11 := ⟨ok_mem (tb_at9 198 rfl) (by decide +kernel), ok_mem (sel_at 127 rfl) (by decide +kernel), _, _, rfl⟩
theorem mv_X11_laysBeds : MV yX11_laysBeds cX11_laysBeds 6 none 0 := ⟨ok_mem (tb_at8 233 rfl) rfl, ok_mem (tb_at1 12 rfl) rfl, ⟨by decide +kernel, by decide +kernel⟩, by decide +kernel⟩
theorem mi_X11_laysBeds : MI yX11_laysBeds 11 := ⟨ok_mem (tb_at8 232 rfl) (by decide +kernel), ok_mem (sel_at 106 rfl) (by decide +kernel), _, _, rfl⟩
theorem mv_X11_laysTree : MV yX11_laysTree cX11_laysTree 6 none 0 := ⟨ok_mem (tb_at8 217 rfl) rfl, ok_mem (tb_at1 12 rfl) rfl, ⟨by decide +kernel, by decide +kernel⟩, by decide +kernel⟩
theorem mi_X11_laysTree : MI yX11_laysTree 11 := ⟨ok_mem (tb_at8 216 rfl) (by decide +kernel), ok_mem (sel_at 104 rfl) (by decide +kernel), _, _, rfl⟩
theorem mv_X11_leftCost : MV yX11_leftCost cX11_leftCost 3 (some .int) 2 := ⟨ok_mem (tb_at8 197 rfl) rfl, ok_mem (tb_at1 12 rfl) rfl, ⟨by decide +kernel, by decide +kernel⟩, by decide +kernel⟩
theorem mi_X11_leftCost : MI yX11_leftCost 11 := ⟨ok_mem (tb_at8 196 rfl) (by decide +kernel), ok_mem (sel_at 102 rfl) (by decide +kernel), _, _, rfl⟩
theorem mv_X11_leftOf : MV yX11_leftOf cX11_leftOf 6 (some .long) 6 := ⟨ok_mem (tb_at8 60 rfl) rfl, ok_mem (tb_at1 12 rfl) rfl, ⟨by decide +kernel, by decide +kernel⟩, by decide +kernel⟩
theorem ms_X11_leftOf : Cond.static yX11_leftOf ∈ okT := ok_mem (tb_at8 59 rfl) (by decide +kernel)
theorem mv_X11_likest : MV yX11_likest cX11_likest 6 (some .int) 2 := ⟨ok_mem (tb_at9 182 rfl) rfl, ok_mem (tb_at1 12 rfl) rfl, ⟨by decide +kernel, by decide +kernel⟩, by decide +kernel⟩
theorem mi_X11_likest : MI yX11_likest 11 := ⟨ok_mem (tb_at9 180 rfl) (by decide +kernel), ok_mem (tb_at9 181 rfl) (by decide +kernel), _, _, rfl⟩
theorem mv_X11_live : MV yX11_live cX11_live 3 (some .int) 1 := ⟨ok_mem (tb_at9 215 rfl) rfl, ok_mem (tb_at1 12 rfl) rfl, ⟨by decide +kernel, by decide +kernel⟩, by decide +kernel⟩
theorem mi_X11_live : MI yX11_live 11 := ⟨ok_mem (tb_at9 213 rfl) (by decide +kernel), ok_mem (tb_at9 214 rfl) (by decide +kernel), _, _, rfl⟩
theorem mv_X11_lived : MV yX11_lived cX11_lived 2 (some .int) 1 := ⟨ok_mem (tb_at10 5 rfl) rfl, ok_mem (tb_at1 12 rfl) rfl, ⟨by decide +kernel, by decide +kernel⟩, by decide +kernel⟩
theorem mi_X11_lived : MI yX11_lived 11 := ⟨ok_mem (tb_at10 3 rfl) (by decide +kernel), ok_mem (tb_at10 4 rfl) (by decide +kernel), _, _, rfl⟩
theorem mv_X11_lives : MV yX11_lives cX11_lives 4 none 1 := ⟨ok_mem (tb_at9 220 rfl) rfl, ok_mem (tb_at1 12 rfl) rfl, ⟨by decide +kernel, by decide +kernel⟩, by decide +kernel⟩
theorem mi_X11_lives : MI yX11_lives 11 := ⟨ok_mem (tb_at9 219 rfl) (by decide +kernel), ok_mem (sel_at 129 rfl) (by decide +kernel), _, _, rfl⟩
theorem mv_X11_logAt : MV yX11_logAt cX11_logAt 3 (some .long) 2 := ⟨ok_mem (tb_at9 150 rfl) rfl, ok_mem (tb_at1 12 rfl) rfl, ⟨by decide +kernel, by decide +kernel⟩, by decide +kernel⟩
theorem mi_X11_logAt : MI yX11_logAt 11 := ⟨ok_mem (tb_at9 149 rfl) (by decide +kernel), ok_mem (sel_at 123 rfl) (by decide +kernel), _, _, rfl⟩
theorem mv_X11_mark : MV yX11_mark cX11_mark 1 (some .int) 0 := ⟨ok_mem (tb_at10 14 rfl) rfl, ok_mem (tb_at1 12 rfl) rfl, ⟨by decide +kernel, by decide +kernel⟩, by decide +kernel⟩
theorem mi_X11_mark : MI yX11_mark 11 := ⟨ok_mem (tb_at10 12 rfl) (by decide +kernel), ok_mem (tb_at10 13 rfl) (by decide +kernel), _, _, rfl⟩
theorem mv_X11_match : MV yX11_match cX11_match 5 (some .int) 2 := ⟨ok_mem (tb_at8 183 rfl) rfl, ok_mem (tb_at1 12 rfl) rfl, ⟨by decide +kernel, by decide +kernel⟩, by decide +kernel⟩
theorem mi_X11_match : MI yX11_match 11 := ⟨ok_mem (tb_at8 181 rfl) (by decide +kernel), ok_mem (tb_at8 182 rfl) (by decide +kernel), _, _, rfl⟩
theorem mv_X11_matches : MV yX11_matches cX11_matches 8 (some .int) 2 := ⟨ok_mem (tb_at8 187 rfl) rfl, ok_mem (tb_at1 12 rfl) rfl, ⟨by decide +kernel, by decide +kernel⟩, by decide +kernel⟩
theorem mi_X11_matches : MI yX11_matches 11 := ⟨ok_mem (tb_at8 186 rfl) (by decide +kernel), ok_mem (sel_at 100 rfl) (by decide +kernel), _, _, rfl⟩
theorem mv_X11_nameHere : MV yX11_nameHere cX11_nameHere 4 (some .long) 0 := ⟨ok_mem (tb_at8 25 rfl) rfl, ok_mem (tb_at1 12 rfl) rfl, ⟨by decide +kernel, by decide +kernel⟩, by decide +kernel⟩
theorem mi_X11_nameHere : MI yX11_nameHere 11 := ⟨ok_mem (tb_at8 24 rfl) (by decide +kernel), ok_mem (sel_at 70 rfl) (by decide +kernel), _, _, rfl⟩
theorem mv_X11_newOne : MV yX11_newOne cX11_newOne 4 (some .boolean) 3 := ⟨ok_mem (tb_at8 9 rfl) rfl, ok_mem (tb_at1 12 rfl) rfl, ⟨by decide +kernel, by decide +kernel⟩, by decide +kernel⟩
theorem mi_X11_newOne : MI yX11_newOne 11 := ⟨ok_mem (tb_at8 8 rfl) (by decide +kernel), ok_mem (sel_at 66 rfl) (by decide +kernel), _, _, rfl⟩
theorem mv_X11_number : MV yX11_number cX11_number 4 (some .boolean) 3 := ⟨ok_mem (tb_at8 33 rfl) rfl, ok_mem (tb_at1 12 rfl) rfl, ⟨by decide +kernel, by decide +kernel⟩, by decide +kernel⟩
theorem mi_X11_number : MI yX11_number 11 := ⟨ok_mem (tb_at8 32 rfl) (by decide +kernel), ok_mem (sel_at 72 rfl) (by decide +kernel), _, _, rfl⟩
theorem mv_X11_odds : MV yX11_odds cX11_odds 8 (some .boolean) 4 := ⟨ok_mem (tb_at10 9 rfl) rfl, ok_mem (tb_at1 12 rfl) rfl, ⟨by decide +kernel, by decide +kernel⟩, by decide +kernel⟩
theorem mi_X11_odds : MI yX11_odds 11 := ⟨ok_mem (tb_at10 7 rfl) (by decide +kernel), ok_mem (tb_at10 8 rfl) (by decide +kernel), _, _, rfl⟩
theorem mv_X11_oldOne : MV yX11_oldOne cX11_oldOne 4 (some .boolean) 3 := ⟨ok_mem (tb_at8 41 rfl) rfl, ok_mem (tb_at1 12 rfl) rfl, ⟨by decide +kernel, by decide +kernel⟩, by decide +kernel⟩
theorem mi_X11_oldOne : MI yX11_oldOne 11 := ⟨ok_mem (tb_at8 40 rfl) (by decide +kernel), ok_mem (sel_at 74 rfl) (by decide +kernel), _, _, rfl⟩
theorem mv_X11_orNone : MV yX11_orNone cX11_orNone 2 (some .int) 1 := ⟨ok_mem (tb_at8 205 rfl) rfl, ok_mem (tb_at1 12 rfl) rfl, ⟨by decide +kernel, by decide +kernel⟩, by decide +kernel⟩
theorem mi_X11_orNone : MI yX11_orNone 11 := ⟨ok_mem (tb_at8 204 rfl) (by decide +kernel), ok_mem (sel_at 103 rfl) (by decide +kernel), _, _, rfl⟩
theorem mv_X11_order : MV yX11_order cX11_order 2 (some .int) 1 := ⟨ok_mem (tb_at9 33 rfl) rfl, ok_mem (tb_at1 12 rfl) rfl, ⟨by decide +kernel, by decide +kernel⟩, by decide +kernel⟩
theorem mi_X11_order : MI yX11_order 11 := ⟨ok_mem (tb_at9 31 rfl) (by decide +kernel), ok_mem (tb_at9 32 rfl) (by decide +kernel), _, _, rfl⟩
theorem mv_X11_orders : MV yX11_orders cX11_orders 6 (some .boolean) 0 := ⟨ok_mem (tb_at9 37 rfl) rfl, ok_mem (tb_at1 12 rfl) rfl, ⟨by decide +kernel, by decide +kernel⟩, by decide +kernel⟩
theorem mi_X11_orders : MI yX11_orders 11 := ⟨ok_mem (tb_at9 36 rfl) (by decide +kernel), ok_mem (sel_at 112 rfl) (by decide +kernel), _, _, rfl⟩
theorem mv_X11_pairCost : MV yX11_pairCost cX11_pairCost 5 (some .int) 4 := ⟨ok_mem (tb_at8 192 rfl) rfl, ok_mem (tb_at1 12 rfl) rfl, ⟨by decide +kernel, by decide +kernel⟩, by decide +kernel⟩
theorem mi_X11_pairCost : MI yX11_pairCost 11 := ⟨ok_mem (tb_at8 191 rfl) (by decide +kernel), ok_mem (sel_at 101 rfl) (by decide +kernel), _, _, rfl⟩
theorem mv_X11_pairOf : MV yX11_pairOf cX11_pairOf 2 (some .int) 1 := ⟨ok_mem (tb_at8 201 rfl) rfl, ok_mem (tb_at1 12 rfl) rfl, ⟨by decide +kernel, by decide +kernel⟩, by decide +kernel⟩
theorem mi_X11_pairOf : MI yX11_pairOf 11 := ⟨ok_mem (tb_at8 199 rfl) (by decide +kernel), ok_mem (tb_at8 200 rfl) (by decide +kernel), _, _, rfl⟩
theorem mv_X11_pairs : MV yX11_pairs cX11_pairs 1 (some .int) 0 := ⟨ok_mem (tb_at8 209 rfl) rfl, ok_mem (tb_at1 12 rfl) rfl, ⟨by decide +kernel, by decide +kernel⟩, by decide +kernel⟩
theorem mi_X11_pairs : MI yX11_pairs 11 := ⟨ok_mem (tb_at8 207 rfl) (by decide +kernel), ok_mem (tb_at8 208 rfl) (by decide +kernel), _, _, rfl⟩
theorem mv_X11_pickAt : MV yX11_pickAt cX11_pickAt 2 (some .int) 1 := ⟨ok_mem (tb_at9 154 rfl) rfl, ok_mem (tb_at1 12 rfl) rfl, ⟨by decide +kernel, by decide +kernel⟩, by decide +kernel⟩
theorem mi_X11_pickAt : MI yX11_pickAt 11 := ⟨ok_mem (tb_at9 152 rfl) (by decide +kernel), ok_mem (tb_at9 153 rfl) (by decide +kernel), _, _, rfl⟩
theorem mv_X11_picks : MV yX11_picks cX11_picks 7 (some .int) 4 := ⟨ok_mem (tb_at9 136 rfl) rfl, ok_mem (tb_at1 12 rfl) rfl, ⟨by decide +kernel, by decide +kernel⟩, by decide +kernel⟩
theorem mi_X11_picks : MI yX11_picks 11 := ⟨ok_mem (tb_at9 134 rfl) (by decide +kernel), ok_mem (tb_at9 135 rfl) (by decide +kernel), _, _, rfl⟩
theorem mv_X11_pour : MV yX11_pour cX11_pour 8 (some .boolean) 5 := ⟨ok_mem (tb_at7 190 rfl) rfl, ok_mem (tb_at1 12 rfl) rfl, ⟨by decide +kernel, by decide +kernel⟩, by decide +kernel⟩
theorem mi_X11_pour : MI yX11_pour 11 := ⟨ok_mem (tb_at7 188 rfl) (by decide +kernel), ok_mem (tb_at7 189 rfl) (by decide +kernel), _, _, rfl⟩
theorem mv_X11_read : MV yX11_read cX11_read 3 (some .long) 2 := ⟨ok_mem (tb_at7 185 rfl) rfl, ok_mem (tb_at1 12 rfl) rfl, ⟨by decide +kernel, by decide +kernel⟩, by decide +kernel⟩
theorem mi_X11_read : MI yX11_read 11 := ⟨ok_mem (tb_at7 183 rfl) (by decide +kernel), ok_mem (tb_at7 184 rfl) (by decide +kernel), _, _, rfl⟩
theorem mv_X11_refuse : MV yX11_refuse cX11_refuse 2 (some .int) 1 := ⟨ok_mem (tb_at7 230 rfl) rfl, ok_mem (tb_at1 12 rfl) rfl, ⟨by decide +kernel, by decide +kernel⟩, by decide +kernel⟩
theorem mi_X11_refuse : MI yX11_refuse 11 := ⟨ok_mem (tb_at7 229 rfl) (by decide +kernel), ok_mem (sel_at 62 rfl) (by decide +kernel), _, _, rfl⟩
theorem mv_X11_rockAt : MV yX11_rockAt cX11_rockAt 5 (some .int) 2 := ⟨ok_mem (tb_at9 174 rfl) rfl, ok_mem (tb_at1 12 rfl) rfl, ⟨by decide +kernel, by decide +kernel⟩, by decide +kernel⟩
theorem mi_X11_rockAt : MI yX11_rockAt 11 := ⟨ok_mem (tb_at9 173 rfl) (by decide +kernel), ok_mem (sel_at 125 rfl) (by decide +kernel), _, _, rfl⟩
theorem mv_X11_rockOf : MV yX11_rockOf cX11_rockOf 3 (some .int) 2 := ⟨ok_mem (tb_at8 167 rfl) rfl, ok_mem (tb_at1 12 rfl) rfl, ⟨by decide +kernel, by decide +kernel⟩, by decide +kernel⟩
theorem mi_X11_rockOf : MI yX11_rockOf 11 := ⟨ok_mem (tb_at8 166 rfl) (by decide +kernel), ok_mem (sel_at 98 rfl) (by decide +kernel), _, _, rfl⟩
theorem mv_X11_rockTo : MV yX11_rockTo cX11_rockTo 2 (some .boolean) 1 := ⟨ok_mem (tb_at8 100 rfl) rfl, ok_mem (tb_at1 12 rfl) rfl, ⟨by decide +kernel, by decide +kernel⟩, by decide +kernel⟩
theorem mi_X11_rockTo : MI yX11_rockTo 11 := ⟨ok_mem (tb_at8 99 rfl) (by decide +kernel), ok_mem (sel_at 87 rfl) (by decide +kernel), _, _, rfl⟩
theorem mv_X11_runs : MV yX11_runs cX11_runs 6 (some .int) 2 := ⟨ok_mem (tb_at9 162 rfl) rfl, ok_mem (tb_at1 12 rfl) rfl, ⟨by decide +kernel, by decide +kernel⟩, by decide +kernel⟩
theorem mi_X11_runs : MI yX11_runs 11 := ⟨ok_mem (tb_at9 160 rfl) (by decide +kernel), ok_mem (tb_at9 161 rfl) (by decide +kernel), _, _, rfl⟩
theorem mv_X11_shared : MV yX11_shared cX11_shared 5 (some .int) 2 := ⟨ok_mem (tb_at9 128 rfl) rfl, ok_mem (tb_at1 12 rfl) rfl, ⟨by decide +kernel, by decide +kernel⟩, by decide +kernel⟩
theorem mi_X11_shared : MI yX11_shared 11 := ⟨ok_mem (tb_at9 126 rfl) (by decide +kernel), ok_mem (tb_at9 127 rfl) (by decide +kernel), _, _, rfl⟩
theorem mv_X11_shift : MV yX11_shift cX11_shift 11 (some .int) 4 := ⟨ok_mem (tb_at9 178 rfl) rfl, ok_mem (tb_at1 12 rfl) rfl, ⟨by decide +kernel, by decide +kernel⟩, by decide +kernel⟩
theorem mi_X11_shift : MI yX11_shift 11 := ⟨ok_mem (tb_at9 176 rfl) (by decide +kernel), ok_mem (tb_at9 177 rfl) (by decide +kernel), _, _, rfl⟩
theorem mv_X11_side : MV yX11_side cX11_side 3 (some .int) 2 := ⟨ok_mem (tb_at8 179 rfl) rfl, ok_mem (tb_at1 12 rfl) rfl, ⟨by decide +kernel, by decide +kernel⟩, by decide +kernel⟩
theorem mi_X11_side : MI yX11_side 11 := ⟨ok_mem (tb_at8 177 rfl) (by decide +kernel), ok_mem (tb_at8 178 rfl) (by decide +kernel), _, _, rfl⟩
theorem mv_X11_sixVolumes : MV yX11_sixVolumes cX11_sixVolumes 6 (some .long) 2 := ⟨ok_mem (tb_at9 111 rfl) rfl, ok_mem (tb_at1 12 rfl) rfl, ⟨by decide +kernel, by decide +kernel⟩, by decide +kernel⟩
theorem mi_X11_sixVolumes : MI yX11_sixVolumes 11 := ⟨ok_mem (tb_at9 110 rfl) (by decide +kernel), ok_mem (sel_at 120 rfl) (by decide +kernel), _, _, rfl⟩
theorem mv_X11_size : MV yX11_size cX11_size 2 (some .long) 1 := ⟨ok_mem (tb_at9 63 rfl) rfl, ok_mem (tb_at1 12 rfl) rfl, ⟨by decide +kernel, by decide +kernel⟩, by decide +kernel⟩
theorem ms_X11_size : Cond.static yX11_size ∈ okT := ok_mem (tb_at9 62 rfl) (by decide +kernel)
theorem mv_X11_skip : MV yX11_skip cX11_skip 2 (some .int) 1 := ⟨ok_mem (tb_at8 112 rfl) rfl, ok_mem (tb_at1 12 rfl) rfl, ⟨by decide +kernel, by decide +kernel⟩, by decide +kernel⟩
theorem mi_X11_skip : MI yX11_skip 11 := ⟨ok_mem (tb_at8 110 rfl) (by decide +kernel), ok_mem (tb_at8 111 rfl) (by decide +kernel), _, _, rfl⟩
theorem mv_X11_square : MV yX11_square cX11_square 5 (some .int) 2 := ⟨ok_mem (tb_at8 221 rfl) rfl, ok_mem (tb_at1 12 rfl) rfl, ⟨by decide +kernel, by decide +kernel⟩, by decide +kernel⟩
theorem mi_X11_square : MI yX11_square 11 := ⟨ok_mem (tb_at8 220 rfl) (by decide +kernel), ok_mem (sel_at 105 rfl) (by decide +kernel), _, _, rfl⟩
theorem mv_X11_status : MV yX11_status cX11_status 1 (some .int) 0 := ⟨ok_mem (tb_at7 151 rfl) rfl, ok_mem (tb_at1 12 rfl) rfl, ⟨by decide +kernel, by decide +kernel⟩, by decide +kernel⟩
theorem mi_X11_status : MI yX11_status 11 := ⟨ok_mem (tb_at7 149 rfl) (by decide +kernel), ok_mem (tb_at7 150 rfl) (by decide +kernel), _, _, rfl⟩
theorem mv_X11_step : MV yX11_step cX11_step 6 (some .boolean) 0 := ⟨ok_mem (tb_at8 88 rfl) rfl, ok_mem (tb_at1 12 rfl) rfl, ⟨by decide +kernel, by decide +kernel⟩, by decide +kernel⟩
theorem mi_X11_step : MI yX11_step 11 := ⟨ok_mem (tb_at8 87 rfl) (by decide +kernel), ok_mem (sel_at 84 rfl) (by decide +kernel), _, _, rfl⟩
theorem mv_X11_taken : MV yX11_taken cX11_taken 2 (some .int) 1 := ⟨ok_mem (tb_at8 76 rfl) rfl, ok_mem (tb_at1 12 rfl) rfl, ⟨by decide +kernel, by decide +kernel⟩, by decide +kernel⟩
theorem mi_X11_taken : MI yX11_taken 11 := ⟨ok_mem (tb_at8 75 rfl) (by decide +kernel), ok_mem (sel_at 82 rfl) (by decide +kernel), _, _, rfl⟩
theorem mv_X11_tellsBy : MV yX11_tellsBy cX11_tellsBy 11 (some .boolean) 2 := ⟨ok_mem (tb_at9 68 rfl) rfl, ok_mem (tb_at1 12 rfl) rfl, ⟨by decide +kernel, by decide +kernel⟩, by decide +kernel⟩
theorem mi_X11_tellsBy : MI yX11_tellsBy 11 := ⟨ok_mem (tb_at9 67 rfl) (by decide +kernel), ok_mem (sel_at 116 rfl) (by decide +kernel), _, _, rfl⟩
theorem mv_X11_test : MV yX11_test cX11_test 3 (some .boolean) 1 := ⟨ok_mem (tb_at8 104 rfl) rfl, ok_mem (tb_at1 12 rfl) rfl, ⟨by decide +kernel, by decide +kernel⟩, by decide +kernel⟩
theorem mi_X11_test : MI yX11_test 11 := ⟨ok_mem (tb_at8 103 rfl) (by decide +kernel), ok_mem (sel_at 88 rfl) (by decide +kernel), _, _, rfl⟩
theorem mv_X11_thickAt : MV yX11_thickAt cX11_thickAt 8 (some .boolean) 3 := ⟨ok_mem (tb_at9 103 rfl) rfl, ok_mem (tb_at1 12 rfl) rfl, ⟨by decide +kernel, by decide +kernel⟩, by decide +kernel⟩
theorem mi_X11_thickAt : MI yX11_thickAt 11 := ⟨ok_mem (tb_at9 101 rfl) (by decide +kernel), ok_mem (tb_at9 102 rfl) (by decide +kernel), _, _, rfl⟩
theorem mv_X11_thickIn : MV yX11_thickIn cX11_thickIn 5 (some .int) 2 := ⟨ok_mem (tb_at9 21 rfl) rfl, ok_mem (tb_at1 12 rfl) rfl, ⟨by decide +kernel, by decide +kernel⟩, by decide +kernel⟩
theorem mi_X11_thickIn : MI yX11_thickIn 11 := ⟨ok_mem (tb_at9 20 rfl) (by decide +kernel), ok_mem (sel_at 110 rfl) (by decide +kernel), _, _, rfl⟩
theorem mv_X11_thickOf : MV yX11_thickOf cX11_thickOf 3 (some .int) 2 := ⟨ok_mem (tb_at8 147 rfl) rfl, ok_mem (tb_at1 12 rfl) rfl, ⟨by decide +kernel, by decide +kernel⟩, by decide +kernel⟩
theorem mi_X11_thickOf : MI yX11_thickOf 11 := ⟨ok_mem (tb_at8 146 rfl) (by decide +kernel), ok_mem (sel_at 94 rfl) (by decide +kernel), _, _, rfl⟩
theorem mv_X11_throwing : MV yX11_throwing cX11_throwing 3 (some .boolean) 2 := ⟨ok_mem (tb_at9 211 rfl) rfl, ok_mem (tb_at1 12 rfl) rfl, ⟨by decide +kernel, by decide +kernel⟩, by decide +kernel⟩
theorem mi_X11_throwing : MI yX11_throwing 11 := ⟨ok_mem (tb_at9 209 rfl) (by decide +kernel), ok_mem (tb_at9 210 rfl) (by decide +kernel), _, _, rfl⟩
theorem mv_X11_thrown : MV yX11_thrown cX11_thrown 4 (some .int) 1 := ⟨ok_mem (tb_at8 151 rfl) rfl, ok_mem (tb_at1 12 rfl) rfl, ⟨by decide +kernel, by decide +kernel⟩, by decide +kernel⟩
theorem mi_X11_thrown : MI yX11_thrown 11 := ⟨ok_mem (tb_at8 150 rfl) (by decide +kernel), ok_mem (sel_at 95 rfl) (by decide +kernel), _, _, rfl⟩
theorem mv_X11_tilt : MV yX11_tilt cX11_tilt 9 (some .boolean) 3 := ⟨ok_mem (tb_at9 120 rfl) rfl, ok_mem (tb_at1 12 rfl) rfl, ⟨by decide +kernel, by decide +kernel⟩, by decide +kernel⟩
theorem mi_X11_tilt : MI yX11_tilt 11 := ⟨ok_mem (tb_at9 118 rfl) (by decide +kernel), ok_mem (tb_at9 119 rfl) (by decide +kernel), _, _, rfl⟩
theorem mv_X11_told : MV yX11_told cX11_told 2 (some .int) 1 := ⟨ok_mem (tb_at8 108 rfl) rfl, ok_mem (tb_at1 12 rfl) rfl, ⟨by decide +kernel, by decide +kernel⟩, by decide +kernel⟩
theorem mi_X11_told : MI yX11_told 11 := ⟨ok_mem (tb_at8 106 rfl) (by decide +kernel), ok_mem (tb_at8 107 rfl) (by decide +kernel), _, _, rfl⟩
theorem mv_X11_top : MV yX11_top cX11_top 1 (some .long) 0 := ⟨ok_mem (tb_at7 155 rfl) rfl, ok_mem (tb_at1 12 rfl) rfl, ⟨by decide +kernel, by decide +kernel⟩, by decide +kernel⟩
theorem mi_X11_top : MI yX11_top 11 := ⟨ok_mem (tb_at7 153 rfl) (by decide +kernel), ok_mem (tb_at7 154 rfl) (by decide +kernel), _, _, rfl⟩
theorem mv_X11_topAt : MV yX11_topAt cX11_topAt 9 (some .boolean) 3 := ⟨ok_mem (tb_at9 99 rfl) rfl, ok_mem (tb_at1 12 rfl) rfl, ⟨by decide +kernel, by decide +kernel⟩, by decide +kernel⟩
theorem mi_X11_topAt : MI yX11_topAt 11 := ⟨ok_mem (tb_at9 97 rfl) (by decide +kernel), ok_mem (tb_at9 98 rfl) (by decide +kernel), _, _, rfl⟩
theorem mv_X11_tray : MV yX11_tray cX11_tray 5 (some .boolean) 3 := ⟨ok_mem (tb_at7 163 rfl) rfl, ok_mem (tb_at1 12 rfl) rfl, ⟨by decide +kernel, by decide +kernel⟩, by decide +kernel⟩
theorem mi_X11_tray : MI yX11_tray 11 := ⟨ok_mem (tb_at7 161 rfl) (by decide +kernel), ok_mem (tb_at7 162 rfl) (by decide +kernel), _, _, rfl⟩
theorem mv_X11_tree : MV yX11_tree cX11_tree 3 (some .int) 2 := ⟨ok_mem (tb_at8 213 rfl) rfl, ok_mem (tb_at1 12 rfl) rfl, ⟨by decide +kernel, by decide +kernel⟩, by decide +kernel⟩
theorem mi_X11_tree : MI yX11_tree 11 := ⟨ok_mem (tb_at8 211 rfl) (by decide +kernel), ok_mem (tb_at8 212 rfl) (by decide +kernel), _, _, rfl⟩
theorem mv_X11_treeCost : MV yX11_treeCost cX11_treeCost 3 (some .int) 0 := ⟨ok_mem (tb_at8 225 rfl) rfl, ok_mem (tb_at1 12 rfl) rfl, ⟨by decide +kernel, by decide +kernel⟩, by decide +kernel⟩
theorem mi_X11_treeCost : MI yX11_treeCost 11 := ⟨ok_mem (tb_at8 223 rfl) (by decide +kernel), ok_mem (tb_at8 224 rfl) (by decide +kernel), _, _, rfl⟩
theorem mv_X11_triangleAt : MV yX11_triangleAt cX11_triangleAt 3 (some .int) 2 := ⟨ok_mem (tb_at9 80 rfl) rfl, ok_mem (tb_at1 12 rfl) rfl, ⟨by decide +kernel, by decide +kernel⟩, by decide +kernel⟩
theorem mi_X11_triangleAt : MI yX11_triangleAt 11 := ⟨ok_mem (tb_at9 78 rfl) (by decide +kernel), ok_mem (tb_at9 79 rfl) (by decide +kernel), _, _, rfl⟩
theorem mv_X11_triangleOf : MV yX11_triangleOf cX11_triangleOf 4 (some .int) 2 := ⟨ok_mem (tb_at9 91 rfl) rfl, ok_mem (tb_at1 12 rfl) rfl, ⟨by decide +kernel, by decide +kernel⟩, by decide +kernel⟩
theorem mi_X11_triangleOf : MI yX11_triangleOf 11 := ⟨ok_mem (tb_at9 90 rfl) (by decide +kernel), ok_mem (sel_at 118 rfl) (by decide +kernel), _, _, rfl⟩
theorem mv_X11_twiceArea : MV yX11_twiceArea cX11_twiceArea 2 (some .long) 1 := ⟨ok_mem (tb_at9 56 rfl) rfl, ok_mem (tb_at1 12 rfl) rfl, ⟨by decide +kernel, by decide +kernel⟩, by decide +kernel⟩
theorem mi_X11_twiceArea : MI yX11_twiceArea 11 := ⟨ok_mem (tb_at9 55 rfl) (by decide +kernel), ok_mem (sel_at 114 rfl) (by decide +kernel), _, _, rfl⟩
theorem mv_X11_unlike : MV yX11_unlike cX11_unlike 3 (some .int) 2 := ⟨ok_mem (tb_at8 120 rfl) rfl, ok_mem (tb_at1 12 rfl) rfl, ⟨by decide +kernel, by decide +kernel⟩, by decide +kernel⟩
theorem mi_X11_unlike : MI yX11_unlike 11 := ⟨ok_mem (tb_at8 118 rfl) (by decide +kernel), ok_mem (tb_at8 119 rfl) (by decide +kernel), _, _, rfl⟩
theorem mv_X11_unlikeOf : MV yX11_unlikeOf cX11_unlikeOf 3 (some .int) 2 := ⟨ok_mem (tb_at8 124 rfl) rfl, ok_mem (tb_at1 12 rfl) rfl, ⟨by decide +kernel, by decide +kernel⟩, by decide +kernel⟩
theorem mi_X11_unlikeOf : MI yX11_unlikeOf 11 := ⟨ok_mem (tb_at8 123 rfl) (by decide +kernel), ok_mem (sel_at 90 rfl) (by decide +kernel), _, _, rfl⟩
theorem mv_X11_unlikes : MV yX11_unlikes cX11_unlikes 3 (some .boolean) 0 := ⟨ok_mem (tb_at8 37 rfl) rfl, ok_mem (tb_at1 12 rfl) rfl, ⟨by decide +kernel, by decide +kernel⟩, by decide +kernel⟩
theorem mi_X11_unlikes : MI yX11_unlikes 11 := ⟨ok_mem (tb_at8 36 rfl) (by decide +kernel), ok_mem (sel_at 73 rfl) (by decide +kernel), _, _, rfl⟩
theorem mv_X11_volume : MV yX11_volume cX11_volume 3 (some .boolean) 2 := ⟨ok_mem (tb_at9 107 rfl) rfl, ok_mem (tb_at1 12 rfl) rfl, ⟨by decide +kernel, by decide +kernel⟩, by decide +kernel⟩
theorem mi_X11_volume : MI yX11_volume 11 := ⟨ok_mem (tb_at9 105 rfl) (by decide +kernel), ok_mem (tb_at9 106 rfl) (by decide +kernel), _, _, rfl⟩
theorem mv_X11_volumeOf : MV yX11_volumeOf cX11_volumeOf 5 (some .boolean) 1 := ⟨ok_mem (tb_at9 116 rfl) rfl, ok_mem (tb_at1 12 rfl) rfl, ⟨by decide +kernel, by decide +kernel⟩, by decide +kernel⟩
theorem mi_X11_volumeOf : MI yX11_volumeOf 11 := ⟨ok_mem (tb_at9 114 rfl) (by decide +kernel), ok_mem (tb_at9 115 rfl) (by decide +kernel), _, _, rfl⟩
theorem mv_X11_wantSign : MV yX11_wantSign cX11_wantSign 2 (some .boolean) 1 := ⟨ok_mem (tb_at8 68 rfl) rfl, ok_mem (tb_at1 12 rfl) rfl, ⟨by decide +kernel, by decide +kernel⟩, by decide +kernel⟩
theorem mi_X11_wantSign : MI yX11_wantSign 11 := ⟨ok_mem (tb_at8 67 rfl) (by decide +kernel), ok_mem (sel_at 80 rfl) (by decide +kernel), _, _, rfl⟩
theorem mv_X11_wantWord : MV yX11_wantWord cX11_wantWord 3 (some .boolean) 2 := ⟨ok_mem (tb_at8 45 rfl) rfl, ok_mem (tb_at1 12 rfl) rfl, ⟨by decide +kernel, by decide +kernel⟩, by decide +kernel⟩
theorem mi_X11_wantWord : MI yX11_wantWord 11 := ⟨ok_mem (tb_at8 44 rfl) (by decide +kernel), ok_mem (sel_at 75 rfl) (by decide +kernel), _, _, rfl⟩
theorem mv_X11_wear : MV yX11_wear cX11_wear 3 (some .int) 2 := ⟨ok_mem (tb_at9 203 rfl) rfl, ok_mem (tb_at1 12 rfl) rfl, ⟨by decide +kernel, by decide +kernel⟩, by decide +kernel⟩
theorem mi_X11_wear : MI yX11_wear 11 := ⟨ok_mem (tb_at9 201 rfl) (by decide +kernel), ok_mem (tb_at9 202 rfl) (by decide +kernel), _, _, rfl⟩
theorem mv_X11_wears : MV yX11_wears cX11_wears 7 (some .int) 2 := ⟨ok_mem (tb_at9 207 rfl) rfl, ok_mem (tb_at1 12 rfl) rfl, ⟨by decide +kernel, by decide +kernel⟩, by decide +kernel⟩
theorem mi_X11_wears : MI yX11_wears 11 := ⟨ok_mem (tb_at9 206 rfl) (by decide +kernel), ok_mem (sel_at 128 rfl) (by decide +kernel), _, _, rfl⟩
theorem mv_X11_weighs : MV yX11_weighs cX11_weighs 12 (some .boolean) 3 := ⟨ok_mem (tb_at9 95 rfl) rfl, ok_mem (tb_at1 12 rfl) rfl, ⟨by decide +kernel, by decide +kernel⟩, by decide +kernel⟩
theorem mi_X11_weighs : MI yX11_weighs 11 := ⟨ok_mem (tb_at9 94 rfl) (by decide +kernel), ok_mem (sel_at 119 rfl) (by decide +kernel), _, _, rfl⟩
theorem mv_X11_widest : MV yX11_widest cX11_widest 3 (some .int) 0 := ⟨ok_mem (tb_at9 41 rfl) rfl, ok_mem (tb_at1 12 rfl) rfl, ⟨by decide +kernel, by decide +kernel⟩, by decide +kernel⟩
theorem mi_X11_widest : MI yX11_widest 11 := ⟨ok_mem (tb_at9 39 rfl) (by decide +kernel), ok_mem (tb_at9 40 rfl) (by decide +kernel), _, _, rfl⟩
theorem mv_X11_write : MV yX11_write cX11_write 6 (some .boolean) 3 := ⟨ok_mem (tb_at7 174 rfl) rfl, ok_mem (tb_at1 12 rfl) rfl, ⟨by decide +kernel, by decide +kernel⟩, by decide +kernel⟩
theorem mi_X11_write : MI yX11_write 11 := ⟨ok_mem (tb_at7 172 rfl) (by decide +kernel), ok_mem (tb_at7 173 rfl) (by decide +kernel), _, _, rfl⟩
theorem mv_X11_wrongLay : MV yX11_wrongLay cX11_wrongLay 4 (some .int) 3 := ⟨ok_mem (tb_at9 195 rfl) rfl, ok_mem (tb_at1 12 rfl) rfl, ⟨by decide +kernel, by decide +kernel⟩, by decide +kernel⟩
theorem mi_X11_wrongLay : MI yX11_wrongLay 11 := ⟨ok_mem (tb_at9 194 rfl) (by decide +kernel), ok_mem (sel_at 126 rfl) (by decide +kernel), _, _, rfl⟩
theorem mv_X11_wrongLog : MV yX11_wrongLog cX11_wrongLog 6 (some .int) 3 := ⟨ok_mem (tb_at9 142 rfl) rfl, ok_mem (tb_at1 12 rfl) rfl, ⟨by decide +kernel, by decide +kernel⟩, by decide +kernel⟩
theorem mi_X11_wrongLog : MI yX11_wrongLog 11 := ⟨ok_mem (tb_at9 141 rfl) (by decide +kernel), ok_mem (sel_at 121 rfl) (by decide +kernel), _, _, rfl⟩
theorem mv_X11_wrongPlace : MV yX11_wrongPlace cX11_wrongPlace 3 (some .int) 2 := ⟨ok_mem (tb_at7 178 rfl) rfl, ok_mem (tb_at1 12 rfl) rfl, ⟨by decide +kernel, by decide +kernel⟩, by decide +kernel⟩
theorem mi_X11_wrongPlace : MI yX11_wrongPlace 11 := ⟨ok_mem (tb_at7 177 rfl) (by decide +kernel), ok_mem (sel_at 57 rfl) (by decide +kernel), _, _, rfl⟩
theorem mv_X11_yearOrder : MV yX11_yearOrder cX11_yearOrder 3 (some .boolean) 2 := ⟨ok_mem (tb_at8 92 rfl) rfl, ok_mem (tb_at1 12 rfl) rfl, ⟨by decide +kernel, by decide +kernel⟩, by decide +kernel⟩
theorem mi_X11_yearOrder : MI yX11_yearOrder 11 := ⟨ok_mem (tb_at8 91 rfl) (by decide +kernel), ok_mem (sel_at 85 rfl) (by decide +kernel), _, _, rfl⟩
theorem mv_X11_years : MV yX11_years cX11_years 4 (some .int) 1 := ⟨ok_mem (tb_at8 84 rfl) rfl, ok_mem (tb_at1 12 rfl) rfl, ⟨by decide +kernel, by decide +kernel⟩, by decide +kernel⟩
theorem mi_X11_years : MI yX11_years 11 := ⟨ok_mem (tb_at8 82 rfl) (by decide +kernel), ok_mem (tb_at8 83 rfl) (by decide +kernel), _, _, rfl⟩
theorem mv_J6_bitCount_0f7a4 : MV yJ6_bitCount_0f7a4 cJ6_bitCount_0f7a4 1 (some .int) 1 := ⟨ok_mem (tb_at5 168 rfl) rfl, ok_mem (tb_at1 19 rfl) rfl, ⟨by decide +kernel, by decide +kernel⟩, by decide +kernel⟩
theorem ms_J6_bitCount_0f7a4 : Cond.static yJ6_bitCount_0f7a4 ∈ okT := ok_mem (tb_at5 167 rfl) (by decide +kernel)
theorem cw_RX10_394 : Cond.constant RX10 394 (999999) ∈ okT := ok_mem (tb_at6 84 rfl) rfl
theorem cw_RX0_93 : Cond.constant RX0 93 (2147483647) ∈ okT := ok_mem (tb_at5 77 rfl) rfl
theorem cw_RX3_40 : Cond.constant RX3 40 (1000000) ∈ okT := ok_mem (tb_at6 177 rfl) rfl
theorem cw_RX3_100 : Cond.constant RX3 100 (65536) ∈ okT := ok_mem (tb_at6 200 rfl) rfl
theorem cw_RX5_42 : Cond.constant RX5 42 (2147483647) ∈ okT := ok_mem (tb_at5 31 rfl) rfl
theorem cw_RX11_157 : Cond.constant RX11 157 (100000) ∈ okT := ok_mem (tb_at7 225 rfl) rfl
theorem cw_RX11_322 : Cond.constant RX11 322 (2147483647) ∈ okT := ok_mem (tb_at8 188 rfl) rfl
theorem cw_RX11_455 : Cond.constant RX11 455 (65536) ∈ okT := ok_mem (tb_at9 229 rfl) rfl
theorem cw_RJ6_265 : Cond.constant RJ6 265 (1431655765) ∈ okT := ok_mem (tb_at5 169 rfl) rfl
theorem cw_RJ6_266 : Cond.constant RJ6 266 (858993459) ∈ okT := ok_mem (tb_at5 170 rfl) rfl
theorem cw_RJ6_267 : Cond.constant RJ6 267 (252645135) ∈ okT := ok_mem (tb_at5 171 rfl) rfl
theorem cw_RX10_340 : Cond.constantLong RX10 340 (2) ∈ okT := ok_mem (tb_at5 194 rfl) rfl
theorem cw_RX10_376 : Cond.constantLong RX10 376 (6) ∈ okT := ok_mem (tb_at6 25 rfl) rfl
theorem cw_RX10_472 : Cond.constantLong RX10 472 (-1) ∈ okT := ok_mem (tb_at5 205 rfl) rfl
theorem cw_RX4_32 : Cond.constantLong RX4 32 (-1) ∈ okT := ok_mem (tb_at6 101 rfl) rfl
theorem cw_RX6_73 : Cond.constantLong RX6 73 (32) ∈ okT := ok_mem (tb_at3 93 rfl) rfl
theorem cw_RX7_22 : Cond.constantLong RX7 22 (-1) ∈ okT := ok_mem (tb_at6 93 rfl) rfl
theorem cw_RL_32 : Cond.constantLong RL 32 (4294967295) ∈ okT := ok_mem (tb_at10 23 rfl) rfl
theorem cw_RX11_124 : Cond.constantLong RX11 124 (-1) ∈ okT := ok_mem (tb_at7 186 rfl) rfl
theorem cw_RX11_385 : Cond.constantLong RX11 385 (2) ∈ okT := ok_mem (tb_at9 64 rfl) rfl
theorem cw_RX11_397 : Cond.constantLong RX11 397 (999) ∈ okT := ok_mem (tb_at9 84 rfl) rfl
theorem cw_RX11_413 : Cond.constantLong RX11 413 (6) ∈ okT := ok_mem (tb_at9 112 rfl) rfl
theorem cw_RX11_418 : Cond.constantLong RX11 418 (9) ∈ okT := ok_mem (tb_at9 137 rfl) rfl
theorem cw_RX11_420 : Cond.constantLong RX11 420 (999999) ∈ okT := ok_mem (tb_at9 138 rfl) rfl
theorem cw_RX11_439 : Cond.constantLong RX11 439 (99) ∈ okT := ok_mem (tb_at9 191 rfl) rfl
theorem cw_RX11_474 : Cond.constantLong RX11 474 (9999) ∈ okT := ok_mem (tb_at9 216 rfl) rfl
theorem cw_RX11_483 : Cond.constantLong RX11 483 (10) ∈ okT := ok_mem (tb_at10 10 rfl) rfl
theorem ok_acn : Cond.native arraycopyName ∈ okT := ok_mem (tb_at3 58 rfl) rfl
theorem ok_acs : Cond.static arraycopyName ∈ okT := ok_mem (tb_at3 57 rfl) rfl
theorem ok_sys : Cond.initialized "java/lang/System" ∈ okT := ok_mem (tb_at1 13 rfl) rfl
theorem ok_math : Cond.initialized "java/lang/Math" ∈ okT := ok_mem (tb_at1 18 rfl) rfl
theorem ok_mins : Cond.static Lib.Math.min.name ∈ okT := ok_mem (tb_at5 43 rfl) rfl
theorem ok_min : Cond.code Lib.Math.min.name Lib.Math.min.code 2 (some .int) ∈ okT := ok_mem (tb_at5 44 rfl) rfl
theorem ok_abss : Cond.static Lib.Math.abs.name ∈ okT := ok_mem (tb_at5 37 rfl) rfl
theorem ok_abs : Cond.code Lib.Math.abs.name Lib.Math.abs.code 1 (some .int) ∈ okT := ok_mem (tb_at5 38 rfl) rfl
theorem ok_absls : Cond.static Lib.MathLoose.abs_long.x ∈ okT := ok_mem (tb_at5 203 rfl) rfl
theorem ok_absl : Cond.code Lib.MathLoose.abs_long.x Lib.MathLoose.abs_long.code 2 (some .long) ∈ okT := ok_mem (tb_at5 204 rfl) rfl
