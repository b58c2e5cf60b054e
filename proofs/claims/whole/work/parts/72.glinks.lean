/-! words for what makes cells -/
def gnest (s : State) : Prop := va_Nw (.methodLinkNest RX6 46 yX3_init "CutListDesk") s ∧ va_Nw (.methodLinkNest RX1 17 yX2_init "CutListDesk") s ∧ va_Nw (.methodLinkNest RX6 52 yX4_init "CutListDesk") s ∧ va_AO RX1 s ∧ va_AO RX2 s ∧ va_AO RX4 s ∧ va_AO RX5 s
/-- a final field, written in a constructor -/
def jFF (own : String) (idx ci k : Nat) (ty : FieldType) : Prop := ∃ (C : String) (T : u_T) (N : Nat) (ty0 : Nat → FieldType), jcl[ci]? = some (C, T, N) ∧ k < N ∧ (∀ w ∈ u_ws C T N, w ∈ jtb) ∧ Cond.fieldLink own idx (T k).1 (T k).2.1 (T k).2.2.1 ∈ jtb ∧ (∀ k, k < N → parseFieldDescriptor (T k).2.2.1 = some (ty0 k)) ∧ (∀ a, a < N → ∀ b, b < N → a ≠ b → (T a).2.1 ≠ (T b).2.1) ∧ (T k).2.2.2 = true ∧ (T k).1 = own ∧ parseFieldDescriptor (T k).2.2.1 = some ty
def gNW (own : String) (idx ci N : Nat) (ty : Nat → FieldType) : Prop := ∃ (C : String) (T : u_T), jcl[ci]? = some (C, T, N) ∧ (∀ w ∈ u_ws C T N, w ∈ jtb) ∧ (∀ k, k < N → parseFieldDescriptor (T k).2.2.1 = some (ty k)) ∧ Cond.classLink own idx C ∈ jtb ∧ Cond.instantiable C N ∈ jtb ∧ Cond.initialized C ∈ jtb
def gMI (own : String) (idx : Nat) (M : jMI) (n : Nat) : Prop := Cond.methodLink own idx M.1 ∈ jtb ∧ Cond.instanceMethod M.1 ∈ jtb ∧ M.1.name = "<init>" ∧ (parseMethodDescriptor M.1.desc).map (fun d => d.parameters.length) = some n
def gMN (own : String) (idx : Nat) (M : jMI) (n : Nat) : Prop := (∀ s, gnest s → va_Nw (Cond.methodLinkNest own idx M.1 "CutListDesk") s) ∧ Cond.instanceMethod M.1 ∈ jtb ∧ M.1.name = "<init>" ∧ (parseMethodDescriptor M.1.desc).map (fun d => d.parameters.length) = some n
theorem gcl_L_7 : Cond.classLink RL 7 RX6 ∈ jtb := (jin (List.mem_of_getElem? (i := 72) (by decide +kernel)) rfl)
theorem gnw_L_7 : gNW RL 7 5 8 tyX6 := ⟨RX6, TX6, rfl, in_X6, tyX6_ok, gcl_L_7, (jin (List.mem_of_getElem? (i := 73) (by decide +kernel)) rfl), (jin (List.mem_of_getElem? (i := 61) (by decide +kernel)) rfl)⟩
theorem gcl_X6_9 : Cond.classLink RX6 9 RX1 ∈ jtb := (jin (List.mem_of_getElem? (i := 80) (by decide +kernel)) rfl)
theorem gnw_X6_9 : gNW RX6 9 0 2 tyX1 := ⟨RX1, TX1, rfl, in_X1, tyX1_ok, gcl_X6_9, (jin (List.mem_of_getElem? (i := 129) (by decide +kernel)) rfl), (jin (List.mem_of_getElem? (i := 64) (by decide +kernel)) rfl)⟩
theorem gcl_X6_25 : Cond.classLink RX6 25 RX4 ∈ jtb := (jin (List.mem_of_getElem? (i := 84) (by decide +kernel)) rfl)
theorem gnw_X6_25 : gNW RX6 25 3 4 tyX4 := ⟨RX4, TX4, rfl, in_X4, tyX4_ok, gcl_X6_25, (jin (List.mem_of_getElem? (i := 179) (by decide +kernel)) rfl), (jin (List.mem_of_getElem? (i := 66) (by decide +kernel)) rfl)⟩
theorem gcl_X6_31 : Cond.classLink RX6 31 RX5 ∈ jtb := (jin (List.mem_of_getElem? (i := 86) (by decide +kernel)) rfl)
theorem gnw_X6_31 : gNW RX6 31 4 5 tyX5 := ⟨RX5, TX5, rfl, in_X5, tyX5_ok, gcl_X6_31, (jin (List.mem_of_getElem? (i := 88) (by decide +kernel)) rfl), (jin (List.mem_of_getElem? (i := 62) (by decide +kernel)) rfl)⟩
theorem gcl_X6_44 : Cond.classLink RX6 44 RX3 ∈ jtb := (jin (List.mem_of_getElem? (i := 115) (by decide +kernel)) rfl)
theorem gnw_X6_44 : gNW RX6 44 2 2 tyX3 := ⟨RX3, TX3, rfl, in_X3, tyX3_ok, gcl_X6_44, (jin (List.mem_of_getElem? (i := 116) (by decide +kernel)) rfl), (jin (List.mem_of_getElem? (i := 63) (by decide +kernel)) rfl)⟩
theorem gcl_X1_9 : Cond.classLink RX1 9 RX2 ∈ jtb := (jin (List.mem_of_getElem? (i := 134) (by decide +kernel)) rfl)
theorem gnw_X1_9 : gNW RX1 9 1 5 tyX2 := ⟨RX2, TX2, rfl, in_X2, tyX2_ok, gcl_X1_9, (jin (List.mem_of_getElem? (i := 136) (by decide +kernel)) rfl), (jin (List.mem_of_getElem? (i := 65) (by decide +kernel)) rfl)⟩
theorem gcl_L_10 : Cond.classLink RL 10 RX7 ∈ jtb := (jin (List.mem_of_getElem? (i := 628) (by decide +kernel)) rfl)
theorem gnw_L_10 : gNW RL 10 6 21 tyX7 := ⟨RX7, TX7, rfl, in_X7, tyX7_ok, gcl_L_10, (jin (List.mem_of_getElem? (i := 629) (by decide +kernel)) rfl), (jin (List.mem_of_getElem? (i := 68) (by decide +kernel)) rfl)⟩
theorem gac_int : Cond.arrayClass .int ∈ jtb := (jin (List.mem_of_getElem? (i := 114) (by decide +kernel)) rfl)
theorem gac_boolean : Cond.arrayClass .boolean ∈ jtb := (jin (List.mem_of_getElem? (i := 699) (by decide +kernel)) rfl)
theorem gob_i : Cond.instanceMethod Lib.objectInit ∈ jtb := (jin (List.mem_of_getElem? (i := 78) (by decide +kernel)) rfl)
theorem gob_c : Cond.code Lib.objectInit ⟨#[0xb1]⟩ 1 none ∈ jtb := (jin (List.mem_of_getElem? (i := 79) (by decide +kernel)) rfl)
theorem gmi_L_9 : gMI RL 9 mX6_init 0 := ⟨(jin (List.mem_of_getElem? (i := 74) (by decide +kernel)) rfl), (jin (List.mem_of_getElem? (i := 75) (by decide +kernel)) rfl), rfl, by decide +kernel⟩
theorem gob_X6 : Cond.methodLink RX6 1 Lib.objectInit ∈ jtb := (jin (List.mem_of_getElem? (i := 77) (by decide +kernel)) rfl)
theorem gmi_X6_37 : gMI RX6 37 mX5_init 1 := ⟨(jin (List.mem_of_getElem? (i := 89) (by decide +kernel)) rfl), (jin (List.mem_of_getElem? (i := 90) (by decide +kernel)) rfl), rfl, by decide +kernel⟩
theorem gob_X5 : Cond.methodLink RX5 3 Lib.objectInit ∈ jtb := (jin (List.mem_of_getElem? (i := 92) (by decide +kernel)) rfl)
theorem gob_X3 : Cond.methodLink RX3 3 Lib.objectInit ∈ jtb := (jin (List.mem_of_getElem? (i := 120) (by decide +kernel)) rfl)
theorem gmi_X6_51 : gMI RX6 51 mX1_init 0 := ⟨(jin (List.mem_of_getElem? (i := 130) (by decide +kernel)) rfl), (jin (List.mem_of_getElem? (i := 131) (by decide +kernel)) rfl), rfl, by decide +kernel⟩
theorem gob_X1 : Cond.methodLink RX1 3 Lib.objectInit ∈ jtb := (jin (List.mem_of_getElem? (i := 133) (by decide +kernel)) rfl)
theorem gob_X2 : Cond.methodLink RX2 3 Lib.objectInit ∈ jtb := (jin (List.mem_of_getElem? (i := 140) (by decide +kernel)) rfl)
theorem gob_X4 : Cond.methodLink RX4 3 Lib.objectInit ∈ jtb := (jin (List.mem_of_getElem? (i := 183) (by decide +kernel)) rfl)
theorem gmi_L_12 : gMI RL 12 mX7_init 0 := ⟨(jin (List.mem_of_getElem? (i := 630) (by decide +kernel)) rfl), (jin (List.mem_of_getElem? (i := 631) (by decide +kernel)) rfl), rfl, by decide +kernel⟩
theorem gob_X7 : Cond.methodLink RX7 1 Lib.objectInit ∈ jtb := (jin (List.mem_of_getElem? (i := 633) (by decide +kernel)) rfl)
theorem gmn_X6_46 : gMN RX6 46 mX3_init 0 := ⟨fun _ h => h.1, (jin (List.mem_of_getElem? (i := 118) (by decide +kernel)) rfl), rfl, by decide +kernel⟩
theorem gmn_X1_17 : gMN RX1 17 mX2_init 0 := ⟨fun _ h => h.2.1, (jin (List.mem_of_getElem? (i := 138) (by decide +kernel)) rfl), rfl, by decide +kernel⟩
theorem gmn_X6_52 : gMN RX6 52 mX4_init 0 := ⟨fun _ h => h.2.2.1, (jin (List.mem_of_getElem? (i := 181) (by decide +kernel)) rfl), rfl, by decide +kernel⟩
theorem gff_X1_11 : jFF RX1 11 0 0 (.array (.object RX2)) := ⟨RX1, TX1, 2, tyX1, rfl, by decide, in_X1, (jin (List.mem_of_getElem? (i := 168) (by decide +kernel)) rfl), tyX1_ok, nmX1, rfl, rfl, by decide +kernel⟩
theorem gff_X3_9 : jFF RX3 9 2 0 (.array .int) := ⟨RX3, TX3, 2, tyX3, rfl, by decide, in_X3, (jin (List.mem_of_getElem? (i := 121) (by decide +kernel)) rfl), tyX3_ok, nmX3, rfl, rfl, by decide +kernel⟩
theorem gff_X4_9 : jFF RX4 9 3 0 (.array .int) := ⟨RX4, TX4, 4, tyX4, rfl, by decide, in_X4, (jin (List.mem_of_getElem? (i := 184) (by decide +kernel)) rfl), tyX4_ok, nmX4, rfl, rfl, by decide +kernel⟩
theorem gff_X5_9 : jFF RX5 9 4 0 (.array .int) := ⟨RX5, TX5, 5, tyX5, rfl, by decide, in_X5, (jin (List.mem_of_getElem? (i := 93) (by decide +kernel)) rfl), tyX5_ok, nmX5, rfl, rfl, by decide +kernel⟩
theorem gff_X5_15 : jFF RX5 15 4 1 (.array .int) := ⟨RX5, TX5, 5, tyX5, rfl, by decide, in_X5, (jin (List.mem_of_getElem? (i := 95) (by decide +kernel)) rfl), tyX5_ok, nmX5, rfl, rfl, by decide +kernel⟩
theorem gff_X5_18 : jFF RX5 18 4 2 (.array .int) := ⟨RX5, TX5, 5, tyX5, rfl, by decide, in_X5, (jin (List.mem_of_getElem? (i := 97) (by decide +kernel)) rfl), tyX5_ok, nmX5, rfl, rfl, by decide +kernel⟩
theorem gff_X5_21 : jFF RX5 21 4 3 (.array .int) := ⟨RX5, TX5, 5, tyX5, rfl, by decide, in_X5, (jin (List.mem_of_getElem? (i := 99) (by decide +kernel)) rfl), tyX5_ok, nmX5, rfl, rfl, by decide +kernel⟩
theorem gff_X6_11 : jFF RX6 11 5 0 (.array (.object RX1)) := ⟨RX6, TX6, 8, tyX6, rfl, by decide, in_X6, (jin (List.mem_of_getElem? (i := 205) (by decide +kernel)) rfl), tyX6_ok, nmX6, rfl, rfl, by decide +kernel⟩
theorem gff_X6_15 : jFF RX6 15 5 1 (.array .int) := ⟨RX6, TX6, 8, tyX6, rfl, by decide, in_X6, (jin (List.mem_of_getElem? (i := 206) (by decide +kernel)) rfl), tyX6_ok, nmX6, rfl, rfl, by decide +kernel⟩
theorem gff_X6_22 : jFF RX6 22 5 2 (.array .int) := ⟨RX6, TX6, 8, tyX6, rfl, by decide, in_X6, (jin (List.mem_of_getElem? (i := 207) (by decide +kernel)) rfl), tyX6_ok, nmX6, rfl, rfl, by decide +kernel⟩
theorem gff_X6_27 : jFF RX6 27 5 3 (.array (.object RX4)) := ⟨RX6, TX6, 8, tyX6, rfl, by decide, in_X6, (jin (List.mem_of_getElem? (i := 208) (by decide +kernel)) rfl), tyX6_ok, nmX6, rfl, rfl, by decide +kernel⟩
theorem gff_X6_33 : jFF RX6 33 5 4 (.array (.object RX5)) := ⟨RX6, TX6, 8, tyX6, rfl, by decide, in_X6, (jin (List.mem_of_getElem? (i := 209) (by decide +kernel)) rfl), tyX6_ok, nmX6, rfl, rfl, by decide +kernel⟩
theorem gff_X6_40 : jFF RX6 40 5 5 (.object RX5) := ⟨RX6, TX6, 8, tyX6, rfl, by decide, in_X6, (jin (List.mem_of_getElem? (i := 210) (by decide +kernel)) rfl), tyX6_ok, nmX6, rfl, rfl, by decide +kernel⟩
theorem gff_X6_47 : jFF RX6 47 5 6 (.object RX3) := ⟨RX6, TX6, 8, tyX6, rfl, by decide, in_X6, (jin (List.mem_of_getElem? (i := 211) (by decide +kernel)) rfl), tyX6_ok, nmX6, rfl, rfl, by decide +kernel⟩
theorem gff_X7_7 : jFF RX7 7 6 0 (.array .int) := ⟨RX7, TX7, 21, tyX7, rfl, by decide, in_X7, (jin (List.mem_of_getElem? (i := 635) (by decide +kernel)) rfl), tyX7_ok, nmX7, rfl, rfl, by decide +kernel⟩
theorem gff_X7_13 : jFF RX7 13 6 1 (.array .int) := ⟨RX7, TX7, 21, tyX7, rfl, by decide, in_X7, (jin (List.mem_of_getElem? (i := 636) (by decide +kernel)) rfl), tyX7_ok, nmX7, rfl, rfl, by decide +kernel⟩
theorem gff_X7_16 : jFF RX7 16 6 2 (.array .int) := ⟨RX7, TX7, 21, tyX7, rfl, by decide, in_X7, (jin (List.mem_of_getElem? (i := 637) (by decide +kernel)) rfl), tyX7_ok, nmX7, rfl, rfl, by decide +kernel⟩
theorem gff_X7_19 : jFF RX7 19 6 3 (.array .int) := ⟨RX7, TX7, 21, tyX7, rfl, by decide, in_X7, (jin (List.mem_of_getElem? (i := 638) (by decide +kernel)) rfl), tyX7_ok, nmX7, rfl, rfl, by decide +kernel⟩
theorem gff_X7_22 : jFF RX7 22 6 4 (.array .int) := ⟨RX7, TX7, 21, tyX7, rfl, by decide, in_X7, (jin (List.mem_of_getElem? (i := 639) (by decide +kernel)) rfl), tyX7_ok, nmX7, rfl, rfl, by decide +kernel⟩
theorem gff_X7_25 : jFF RX7 25 6 5 (.array .int) := ⟨RX7, TX7, 21, tyX7, rfl, by decide, in_X7, (jin (List.mem_of_getElem? (i := 640) (by decide +kernel)) rfl), tyX7_ok, nmX7, rfl, rfl, by decide +kernel⟩
theorem gff_X7_28 : jFF RX7 28 6 6 (.array .int) := ⟨RX7, TX7, 21, tyX7, rfl, by decide, in_X7, (jin (List.mem_of_getElem? (i := 641) (by decide +kernel)) rfl), tyX7_ok, nmX7, rfl, rfl, by decide +kernel⟩
theorem gff_X7_31 : jFF RX7 31 6 7 (.array .int) := ⟨RX7, TX7, 21, tyX7, rfl, by decide, in_X7, (jin (List.mem_of_getElem? (i := 642) (by decide +kernel)) rfl), tyX7_ok, nmX7, rfl, rfl, by decide +kernel⟩
theorem gff_X7_34 : jFF RX7 34 6 8 (.array .int) := ⟨RX7, TX7, 21, tyX7, rfl, by decide, in_X7, (jin (List.mem_of_getElem? (i := 643) (by decide +kernel)) rfl), tyX7_ok, nmX7, rfl, rfl, by decide +kernel⟩
theorem gff_X7_37 : jFF RX7 37 6 9 (.array .int) := ⟨RX7, TX7, 21, tyX7, rfl, by decide, in_X7, (jin (List.mem_of_getElem? (i := 644) (by decide +kernel)) rfl), tyX7_ok, nmX7, rfl, rfl, by decide +kernel⟩
theorem gff_X7_40 : jFF RX7 40 6 10 (.array .int) := ⟨RX7, TX7, 21, tyX7, rfl, by decide, in_X7, (jin (List.mem_of_getElem? (i := 645) (by decide +kernel)) rfl), tyX7_ok, nmX7, rfl, rfl, by decide +kernel⟩
theorem gff_X7_43 : jFF RX7 43 6 11 (.array .int) := ⟨RX7, TX7, 21, tyX7, rfl, by decide, in_X7, (jin (List.mem_of_getElem? (i := 646) (by decide +kernel)) rfl), tyX7_ok, nmX7, rfl, rfl, by decide +kernel⟩
theorem gff_X7_46 : jFF RX7 46 6 12 (.array .int) := ⟨RX7, TX7, 21, tyX7, rfl, by decide, in_X7, (jin (List.mem_of_getElem? (i := 647) (by decide +kernel)) rfl), tyX7_ok, nmX7, rfl, rfl, by decide +kernel⟩
theorem gff_X7_49 : jFF RX7 49 6 13 (.array .int) := ⟨RX7, TX7, 21, tyX7, rfl, by decide, in_X7, (jin (List.mem_of_getElem? (i := 648) (by decide +kernel)) rfl), tyX7_ok, nmX7, rfl, rfl, by decide +kernel⟩
theorem gff_X7_52 : jFF RX7 52 6 15 (.array .boolean) := ⟨RX7, TX7, 21, tyX7, rfl, by decide, in_X7, (jin (List.mem_of_getElem? (i := 650) (by decide +kernel)) rfl), tyX7_ok, nmX7, rfl, rfl, by decide +kernel⟩
theorem gff_X7_56 : jFF RX7 56 6 16 (.array .int) := ⟨RX7, TX7, 21, tyX7, rfl, by decide, in_X7, (jin (List.mem_of_getElem? (i := 651) (by decide +kernel)) rfl), tyX7_ok, nmX7, rfl, rfl, by decide +kernel⟩
theorem gff_X7_59 : jFF RX7 59 6 17 (.array .int) := ⟨RX7, TX7, 21, tyX7, rfl, by decide, in_X7, (jin (List.mem_of_getElem? (i := 652) (by decide +kernel)) rfl), tyX7_ok, nmX7, rfl, rfl, by decide +kernel⟩
theorem gff_X7_62 : jFF RX7 62 6 18 (.array .int) := ⟨RX7, TX7, 21, tyX7, rfl, by decide, in_X7, (jin (List.mem_of_getElem? (i := 653) (by decide +kernel)) rfl), tyX7_ok, nmX7, rfl, rfl, by decide +kernel⟩
theorem gff_X7_65 : jFF RX7 65 6 19 (.array .int) := ⟨RX7, TX7, 21, tyX7, rfl, by decide, in_X7, (jin (List.mem_of_getElem? (i := 654) (by decide +kernel)) rfl), tyX7_ok, nmX7, rfl, rfl, by decide +kernel⟩
