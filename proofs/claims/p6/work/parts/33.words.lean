set_option maxRecDepth 100000 in
theorem rxw_135 : (Jvm.Cond.laysFinal "AngleChains" "AngleChains" "figure" "LAngleChains$Figure;") ∈ rx_all := rx_inT (i := 135) rfl rfl
set_option maxRecDepth 100000 in
theorem rxw_137 : (Jvm.Cond.laysFinal "AngleChains" "AngleChains" "hypotheses" "[I") ∈ rx_all := rx_inT (i := 137) rfl rfl
set_option maxRecDepth 100000 in
theorem rxw_139 : (Jvm.Cond.laysFinal "AngleChains" "AngleChains" "deduction" "LAngleChains$Deduction;") ∈ rx_all := rx_inT (i := 139) rfl rfl
set_option maxRecDepth 100000 in
theorem rxw_141 : (Jvm.Cond.lays "AngleChains" "AngleChains" "hypothesisCount" "I") ∈ rx_all := rx_inT (i := 141) rfl rfl
set_option maxRecDepth 100000 in
theorem rxw_143 : (Jvm.Cond.lays "AngleChains" "AngleChains" "onBits" "I") ∈ rx_all := rx_inT (i := 143) rfl rfl
set_option maxRecDepth 100000 in
theorem rxw_145 : (Jvm.Cond.lays "AngleChains" "AngleChains" "leftBits" "I") ∈ rx_all := rx_inT (i := 145) rfl rfl
set_option maxRecDepth 100000 in
theorem rxw_147 : (Jvm.Cond.lays "AngleChains" "AngleChains" "draft" "I") ∈ rx_all := rx_inT (i := 147) rfl rfl
set_option maxRecDepth 100000 in
theorem rxw_149 : (Jvm.Cond.lays "AngleChains" "AngleChains" "draftCount" "I") ∈ rx_all := rx_inT (i := 149) rfl rfl
set_option maxRecDepth 100000 in
theorem rxw_12 : (Jvm.Cond.instantiable "AngleChains" (8 : Nat)) ∈ rx_all := rx_inT (i := 12) rfl rfl
set_option maxRecDepth 100000 in
theorem rxw_1 : (Jvm.Cond.initialized "AngleChains") ∈ rx_all := rx_inT (i := 1) rfl rfl
set_option maxRecDepth 100000 in
theorem rxw_31 : (Jvm.Cond.laysFinal "AngleChains$Figure" "AngleChains$Figure" "xs" "[I") ∈ rx_all := rx_inT (i := 31) rfl rfl
set_option maxRecDepth 100000 in
theorem rxw_33 : (Jvm.Cond.laysFinal "AngleChains$Figure" "AngleChains$Figure" "ys" "[I") ∈ rx_all := rx_inT (i := 33) rfl rfl
set_option maxRecDepth 100000 in
theorem rxw_35 : (Jvm.Cond.lays "AngleChains$Figure" "AngleChains$Figure" "size" "I") ∈ rx_all := rx_inT (i := 35) rfl rfl
set_option maxRecDepth 100000 in
theorem rxw_20 : (Jvm.Cond.instantiable "AngleChains$Figure" (3 : Nat)) ∈ rx_all := rx_inT (i := 20) rfl rfl
set_option maxRecDepth 100000 in
theorem rxw_2 : (Jvm.Cond.initialized "AngleChains$Figure") ∈ rx_all := rx_inT (i := 2) rfl rfl
set_option maxRecDepth 100000 in
theorem rxw_100 : (Jvm.Cond.laysFinal "AngleChains$Deduction" "AngleChains$Deduction" "figure" "LAngleChains$Figure;") ∈ rx_all := rx_inT (i := 100) rfl rfl
set_option maxRecDepth 100000 in
theorem rxw_102 : (Jvm.Cond.laysFinal "AngleChains$Deduction" "AngleChains$Deduction" "hypotheses" "[I") ∈ rx_all := rx_inT (i := 102) rfl rfl
set_option maxRecDepth 100000 in
theorem rxw_104 : (Jvm.Cond.laysFinal "AngleChains$Deduction" "AngleChains$Deduction" "cases" "LAngleChains$Cases;") ∈ rx_all := rx_inT (i := 104) rfl rfl
set_option maxRecDepth 100000 in
theorem rxw_106 : (Jvm.Cond.laysFinal "AngleChains$Deduction" "AngleChains$Deduction" "rows" "LAngleChains$Rows;") ∈ rx_all := rx_inT (i := 106) rfl rfl
set_option maxRecDepth 100000 in
theorem rxw_108 : (Jvm.Cond.laysFinal "AngleChains$Deduction" "AngleChains$Deduction" "lineOf" "[I") ∈ rx_all := rx_inT (i := 108) rfl rfl
set_option maxRecDepth 100000 in
theorem rxw_110 : (Jvm.Cond.laysFinal "AngleChains$Deduction" "AngleChains$Deduction" "columnOf" "[I") ∈ rx_all := rx_inT (i := 110) rfl rfl
set_option maxRecDepth 100000 in
theorem rxw_112 : (Jvm.Cond.laysFinal "AngleChains$Deduction" "AngleChains$Deduction" "lengthOf" "[I") ∈ rx_all := rx_inT (i := 112) rfl rfl
set_option maxRecDepth 100000 in
theorem rxw_114 : (Jvm.Cond.laysFinal "AngleChains$Deduction" "AngleChains$Deduction" "circleOf" "[I") ∈ rx_all := rx_inT (i := 114) rfl rfl
set_option maxRecDepth 100000 in
theorem rxw_116 : (Jvm.Cond.laysFinal "AngleChains$Deduction" "AngleChains$Deduction" "open" "[I") ∈ rx_all := rx_inT (i := 116) rfl rfl
set_option maxRecDepth 100000 in
theorem rxw_118 : (Jvm.Cond.lays "AngleChains$Deduction" "AngleChains$Deduction" "openCount" "I") ∈ rx_all := rx_inT (i := 118) rfl rfl
set_option maxRecDepth 100000 in
theorem rxw_120 : (Jvm.Cond.lays "AngleChains$Deduction" "AngleChains$Deduction" "hasJoined" "Z") ∈ rx_all := rx_inT (i := 120) rfl rfl
set_option maxRecDepth 100000 in
theorem rxw_122 : (Jvm.Cond.lays "AngleChains$Deduction" "AngleChains$Deduction" "closedSize" "I") ∈ rx_all := rx_inT (i := 122) rfl rfl
set_option maxRecDepth 100000 in
theorem rxw_124 : (Jvm.Cond.lays "AngleChains$Deduction" "AngleChains$Deduction" "closedBits" "I") ∈ rx_all := rx_inT (i := 124) rfl rfl
set_option maxRecDepth 100000 in
theorem rxw_40 : (Jvm.Cond.instantiable "AngleChains$Deduction" (13 : Nat)) ∈ rx_all := rx_inT (i := 40) rfl rfl
set_option maxRecDepth 100000 in
theorem rxw_3 : (Jvm.Cond.initialized "AngleChains$Deduction") ∈ rx_all := rx_inT (i := 3) rfl rfl
set_option maxRecDepth 100000 in
theorem rxw_59 : (Jvm.Cond.laysFinal "AngleChains$Rows" "AngleChains$Rows" "basis" "[[J") ∈ rx_all := rx_inT (i := 59) rfl rfl
set_option maxRecDepth 100000 in
theorem rxw_61 : (Jvm.Cond.laysFinal "AngleChains$Rows" "AngleChains$Rows" "row" "[J") ∈ rx_all := rx_inT (i := 61) rfl rfl
set_option maxRecDepth 100000 in
theorem rxw_63 : (Jvm.Cond.lays "AngleChains$Rows" "AngleChains$Rows" "rank" "I") ∈ rx_all := rx_inT (i := 63) rfl rfl
set_option maxRecDepth 100000 in
theorem rxw_65 : (Jvm.Cond.lays "AngleChains$Rows" "AngleChains$Rows" "hasGrown" "Z") ∈ rx_all := rx_inT (i := 65) rfl rfl
set_option maxRecDepth 100000 in
theorem rxw_46 : (Jvm.Cond.instantiable "AngleChains$Rows" (4 : Nat)) ∈ rx_all := rx_inT (i := 46) rfl rfl
set_option maxRecDepth 100000 in
theorem rxw_4 : (Jvm.Cond.initialized "AngleChains$Rows") ∈ rx_all := rx_inT (i := 4) rfl rfl
set_option maxRecDepth 100000 in
theorem rxw_80 : (Jvm.Cond.laysFinal "AngleChains$Cases" "AngleChains$Cases" "figure" "LAngleChains$Figure;") ∈ rx_all := rx_inT (i := 80) rfl rfl
set_option maxRecDepth 100000 in
theorem rxw_82 : (Jvm.Cond.laysFinal "AngleChains$Cases" "AngleChains$Cases" "packed" "[I") ∈ rx_all := rx_inT (i := 82) rfl rfl
set_option maxRecDepth 100000 in
theorem rxw_84 : (Jvm.Cond.lays "AngleChains$Cases" "AngleChains$Cases" "count" "I") ∈ rx_all := rx_inT (i := 84) rfl rfl
set_option maxRecDepth 100000 in
theorem rxw_70 : (Jvm.Cond.instantiable "AngleChains$Cases" (3 : Nat)) ∈ rx_all := rx_inT (i := 70) rfl rfl
set_option maxRecDepth 100000 in
theorem rxw_5 : (Jvm.Cond.initialized "AngleChains$Cases") ∈ rx_all := rx_inT (i := 5) rfl rfl
set_option maxRecDepth 100000 in
theorem rxw_573 : (Jvm.Cond.lays "AngleChainsModel" "AngleChainsModel" "thrown" "I") ∈ rx_all := rx_inT (i := 573) rfl rfl
set_option maxRecDepth 100000 in
theorem rxw_575 : (Jvm.Cond.lays "AngleChainsModel" "AngleChainsModel" "n" "I") ∈ rx_all := rx_inT (i := 575) rfl rfl
set_option maxRecDepth 100000 in
theorem rxw_577 : (Jvm.Cond.laysFinal "AngleChainsModel" "AngleChainsModel" "px" "[I") ∈ rx_all := rx_inT (i := 577) rfl rfl
set_option maxRecDepth 100000 in
theorem rxw_579 : (Jvm.Cond.laysFinal "AngleChainsModel" "AngleChainsModel" "py" "[I") ∈ rx_all := rx_inT (i := 579) rfl rfl
set_option maxRecDepth 100000 in
theorem rxw_581 : (Jvm.Cond.laysFinal "AngleChainsModel" "AngleChainsModel" "draft" "[I") ∈ rx_all := rx_inT (i := 581) rfl rfl
set_option maxRecDepth 100000 in
theorem rxw_583 : (Jvm.Cond.lays "AngleChainsModel" "AngleChainsModel" "drafted" "I") ∈ rx_all := rx_inT (i := 583) rfl rfl
set_option maxRecDepth 100000 in
theorem rxw_585 : (Jvm.Cond.lays "AngleChainsModel" "AngleChainsModel" "facts" "I") ∈ rx_all := rx_inT (i := 585) rfl rfl
set_option maxRecDepth 100000 in
theorem rxw_587 : (Jvm.Cond.laysFinal "AngleChainsModel" "AngleChainsModel" "factKind" "[I") ∈ rx_all := rx_inT (i := 587) rfl rfl
set_option maxRecDepth 100000 in
theorem rxw_589 : (Jvm.Cond.laysFinal "AngleChainsModel" "AngleChainsModel" "factPoint" "[I") ∈ rx_all := rx_inT (i := 589) rfl rfl
set_option maxRecDepth 100000 in
theorem rxw_591 : (Jvm.Cond.laysFinal "AngleChainsModel" "AngleChainsModel" "isOn" "[Z") ∈ rx_all := rx_inT (i := 591) rfl rfl
set_option maxRecDepth 100000 in
theorem rxw_593 : (Jvm.Cond.laysFinal "AngleChainsModel" "AngleChainsModel" "plays" "[Z") ∈ rx_all := rx_inT (i := 593) rfl rfl
set_option maxRecDepth 100000 in
theorem rxw_595 : (Jvm.Cond.laysFinal "AngleChainsModel" "AngleChainsModel" "needed" "[I") ∈ rx_all := rx_inT (i := 595) rfl rfl
set_option maxRecDepth 100000 in
theorem rxw_597 : (Jvm.Cond.lays "AngleChainsModel" "AngleChainsModel" "needs" "I") ∈ rx_all := rx_inT (i := 597) rfl rfl
set_option maxRecDepth 100000 in
theorem rxw_599 : (Jvm.Cond.lays "AngleChainsModel" "AngleChainsModel" "fresh" "Z") ∈ rx_all := rx_inT (i := 599) rfl rfl
set_option maxRecDepth 100000 in
theorem rxw_601 : (Jvm.Cond.laysFinal "AngleChainsModel" "AngleChainsModel" "line" "[I") ∈ rx_all := rx_inT (i := 601) rfl rfl
set_option maxRecDepth 100000 in
theorem rxw_603 : (Jvm.Cond.laysFinal "AngleChainsModel" "AngleChainsModel" "circle" "[I") ∈ rx_all := rx_inT (i := 603) rfl rfl
set_option maxRecDepth 100000 in
theorem rxw_605 : (Jvm.Cond.laysFinal "AngleChainsModel" "AngleChainsModel" "same" "[I") ∈ rx_all := rx_inT (i := 605) rfl rfl
set_option maxRecDepth 100000 in
theorem rxw_607 : (Jvm.Cond.lays "AngleChainsModel" "AngleChainsModel" "news" "Z") ∈ rx_all := rx_inT (i := 607) rfl rfl
set_option maxRecDepth 100000 in
theorem rxw_609 : (Jvm.Cond.laysFinal "AngleChainsModel" "AngleChainsModel" "column" "[I") ∈ rx_all := rx_inT (i := 609) rfl rfl
set_option maxRecDepth 100000 in
theorem rxw_611 : (Jvm.Cond.lays "AngleChainsModel" "AngleChainsModel" "columns" "I") ∈ rx_all := rx_inT (i := 611) rfl rfl
set_option maxRecDepth 100000 in
theorem rxw_613 : (Jvm.Cond.lays "AngleChainsModel" "AngleChainsModel" "moved" "Z") ∈ rx_all := rx_inT (i := 613) rfl rfl
set_option maxRecDepth 100000 in
theorem rxw_615 : (Jvm.Cond.laysFinal "AngleChainsModel" "AngleChainsModel" "steps" "[J") ∈ rx_all := rx_inT (i := 615) rfl rfl
set_option maxRecDepth 100000 in
theorem rxw_617 : (Jvm.Cond.laysFinal "AngleChainsModel" "AngleChainsModel" "hasStep" "[Z") ∈ rx_all := rx_inT (i := 617) rfl rfl
set_option maxRecDepth 100000 in
theorem rxw_619 : (Jvm.Cond.laysFinal "AngleChainsModel" "AngleChainsModel" "row" "[J") ∈ rx_all := rx_inT (i := 619) rfl rfl
set_option maxRecDepth 100000 in
theorem rxw_621 : (Jvm.Cond.laysFinal "AngleChainsModel" "AngleChainsModel" "other" "[J") ∈ rx_all := rx_inT (i := 621) rfl rfl
set_option maxRecDepth 100000 in
theorem rxw_623 : (Jvm.Cond.laysFinal "AngleChainsModel" "AngleChainsModel" "oldSteps" "[J") ∈ rx_all := rx_inT (i := 623) rfl rfl
set_option maxRecDepth 100000 in
theorem rxw_625 : (Jvm.Cond.laysFinal "AngleChainsModel" "AngleChainsModel" "hadStep" "[Z") ∈ rx_all := rx_inT (i := 625) rfl rfl
set_option maxRecDepth 100000 in
theorem rxw_627 : (Jvm.Cond.laysFinal "AngleChainsModel" "AngleChainsModel" "oldColumn" "[I") ∈ rx_all := rx_inT (i := 627) rfl rfl
set_option maxRecDepth 100000 in
theorem rxw_629 : (Jvm.Cond.laysFinal "AngleChainsModel" "AngleChainsModel" "toColumn" "[I") ∈ rx_all := rx_inT (i := 629) rfl rfl
set_option maxRecDepth 100000 in
theorem rxw_631 : (Jvm.Cond.laysFinal "AngleChainsModel" "AngleChainsModel" "reduced" "[J") ∈ rx_all := rx_inT (i := 631) rfl rfl
set_option maxRecDepth 100000 in
theorem rxw_633 : (Jvm.Cond.laysFinal "AngleChainsModel" "AngleChainsModel" "numberOf" "[I") ∈ rx_all := rx_inT (i := 633) rfl rfl
set_option maxRecDepth 100000 in
theorem rxw_635 : (Jvm.Cond.laysFinal "AngleChainsModel" "AngleChainsModel" "table" "[I") ∈ rx_all := rx_inT (i := 635) rfl rfl
set_option maxRecDepth 100000 in
theorem rxw_637 : (Jvm.Cond.lays "AngleChainsModel" "AngleChainsModel" "numbers" "I") ∈ rx_all := rx_inT (i := 637) rfl rfl
set_option maxRecDepth 100000 in
theorem rxw_639 : (Jvm.Cond.lays "AngleChainsModel" "AngleChainsModel" "quarter" "I") ∈ rx_all := rx_inT (i := 639) rfl rfl
set_option maxRecDepth 100000 in
theorem rxw_534 : (Jvm.Cond.instantiable "AngleChainsModel" (34 : Nat)) ∈ rx_all := rx_inT (i := 534) rfl rfl
set_option maxRecDepth 100000 in
theorem rxw_6 : (Jvm.Cond.initialized "AngleChainsModel") ∈ rx_all := rx_inT (i := 6) rfl rfl
set_option maxRecDepth 100000 in
theorem rxw_14 : (Jvm.Cond.instanceMethod ({ cls := "AngleChains", name := "<init>", desc := "()V" } : Jvm.MethodName)) ∈ rx_all := rx_inT (i := 14) rfl rfl
set_option maxRecDepth 100000 in
theorem rxw_15 : (Jvm.Cond.code ({ cls := "AngleChains", name := "<init>", desc := "()V" } : Jvm.MethodName) prog_1_method_1_code (1 : Nat) (Option.none : Option Jvm.ClassFile.FieldType)) ∈ rx_all := rx_inT (i := 15) rfl rfl
set_option maxRecDepth 100000 in
theorem rxw_22 : (Jvm.Cond.instanceMethod ({ cls := "AngleChains$Figure", name := "<init>", desc := "()V" } : Jvm.MethodName)) ∈ rx_all := rx_inT (i := 22) rfl rfl
set_option maxRecDepth 100000 in
theorem rxw_23 : (Jvm.Cond.code ({ cls := "AngleChains$Figure", name := "<init>", desc := "()V" } : Jvm.MethodName) prog_4_method_1_code (1 : Nat) (Option.none : Option Jvm.ClassFile.FieldType)) ∈ rx_all := rx_inT (i := 23) rfl rfl
set_option maxRecDepth 100000 in
theorem rxw_42 : (Jvm.Cond.instanceMethod ({ cls := "AngleChains$Deduction", name := "<init>", desc := "(LAngleChains$Figure;[I)V" } : Jvm.MethodName)) ∈ rx_all := rx_inT (i := 42) rfl rfl
set_option maxRecDepth 100000 in
theorem rxw_43 : (Jvm.Cond.code ({ cls := "AngleChains$Deduction", name := "<init>", desc := "(LAngleChains$Figure;[I)V" } : Jvm.MethodName) prog_3_method_1_code (3 : Nat) (Option.none : Option Jvm.ClassFile.FieldType)) ∈ rx_all := rx_inT (i := 43) rfl rfl
set_option maxRecDepth 100000 in
theorem rxw_48 : (Jvm.Cond.instanceMethod ({ cls := "AngleChains$Rows", name := "<init>", desc := "()V" } : Jvm.MethodName)) ∈ rx_all := rx_inT (i := 48) rfl rfl
set_option maxRecDepth 100000 in
theorem rxw_49 : (Jvm.Cond.code ({ cls := "AngleChains$Rows", name := "<init>", desc := "()V" } : Jvm.MethodName) prog_5_method_1_code (1 : Nat) (Option.none : Option Jvm.ClassFile.FieldType)) ∈ rx_all := rx_inT (i := 49) rfl rfl
set_option maxRecDepth 100000 in
theorem rxw_72 : (Jvm.Cond.instanceMethod ({ cls := "AngleChains$Cases", name := "<init>", desc := "(LAngleChains$Figure;)V" } : Jvm.MethodName)) ∈ rx_all := rx_inT (i := 72) rfl rfl
set_option maxRecDepth 100000 in
theorem rxw_73 : (Jvm.Cond.code ({ cls := "AngleChains$Cases", name := "<init>", desc := "(LAngleChains$Figure;)V" } : Jvm.MethodName) prog_2_method_1_code (2 : Nat) (Option.none : Option Jvm.ClassFile.FieldType)) ∈ rx_all := rx_inT (i := 73) rfl rfl
set_option maxRecDepth 100000 in
theorem rxw_154 : (Jvm.Cond.selects "AngleChains" ({ cls := "AngleChains", name := "point", desc := "(II)I" } : Jvm.MethodName) ({ cls := "AngleChains", name := "point", desc := "(II)I" } : Jvm.MethodName)) ∈ rx_all := rx_inT (i := 154) rfl rfl
set_option maxRecDepth 100000 in
theorem rxw_153 : (Jvm.Cond.instanceMethod ({ cls := "AngleChains", name := "point", desc := "(II)I" } : Jvm.MethodName)) ∈ rx_all := rx_inT (i := 153) rfl rfl
set_option maxRecDepth 100000 in
theorem rxw_155 : (Jvm.Cond.code ({ cls := "AngleChains", name := "point", desc := "(II)I" } : Jvm.MethodName) prog_1_method_2_code (3 : Nat) (Option.some Jvm.ClassFile.FieldType.int)) ∈ rx_all := rx_inT (i := 155) rfl rfl
set_option maxRecDepth 100000 in
theorem rxw_158 : (Jvm.Cond.selects "AngleChains$Figure" ({ cls := "AngleChains$Figure", name := "hasRoomAt", desc := "(II)Z" } : Jvm.MethodName) ({ cls := "AngleChains$Figure", name := "hasRoomAt", desc := "(II)Z" } : Jvm.MethodName)) ∈ rx_all := rx_inT (i := 158) rfl rfl
set_option maxRecDepth 100000 in
theorem rxw_157 : (Jvm.Cond.instanceMethod ({ cls := "AngleChains$Figure", name := "hasRoomAt", desc := "(II)Z" } : Jvm.MethodName)) ∈ rx_all := rx_inT (i := 157) rfl rfl
set_option maxRecDepth 100000 in
theorem rxw_159 : (Jvm.Cond.code ({ cls := "AngleChains$Figure", name := "hasRoomAt", desc := "(II)Z" } : Jvm.MethodName) prog_4_method_3_code (4 : Nat) (Option.some Jvm.ClassFile.FieldType.boolean)) ∈ rx_all := rx_inT (i := 159) rfl rfl
set_option maxRecDepth 100000 in
theorem rxw_161 : (Jvm.Cond.static ({ cls := "AngleChains$Figure", name := "isCoordinate", desc := "(I)Z" } : Jvm.MethodName)) ∈ rx_all := rx_inT (i := 161) rfl rfl
set_option maxRecDepth 100000 in
theorem rxw_162 : (Jvm.Cond.code ({ cls := "AngleChains$Figure", name := "isCoordinate", desc := "(I)Z" } : Jvm.MethodName) prog_4_method_4_code (1 : Nat) (Option.some Jvm.ClassFile.FieldType.boolean)) ∈ rx_all := rx_inT (i := 162) rfl rfl
set_option maxRecDepth 100000 in
theorem rxw_165 : (Jvm.Cond.selects "AngleChains$Figure" ({ cls := "AngleChains$Figure", name := "place", desc := "(II)I" } : Jvm.MethodName) ({ cls := "AngleChains$Figure", name := "place", desc := "(II)I" } : Jvm.MethodName)) ∈ rx_all := rx_inT (i := 165) rfl rfl
set_option maxRecDepth 100000 in
theorem rxw_164 : (Jvm.Cond.instanceMethod ({ cls := "AngleChains$Figure", name := "place", desc := "(II)I" } : Jvm.MethodName)) ∈ rx_all := rx_inT (i := 164) rfl rfl
set_option maxRecDepth 100000 in
theorem rxw_166 : (Jvm.Cond.code ({ cls := "AngleChains$Figure", name := "place", desc := "(II)I" } : Jvm.MethodName) prog_4_method_5_code (4 : Nat) (Option.some Jvm.ClassFile.FieldType.int)) ∈ rx_all := rx_inT (i := 166) rfl rfl
set_option maxRecDepth 100000 in
theorem rxw_169 : (Jvm.Cond.selects "AngleChains" ({ cls := "AngleChains", name := "of", desc := "(I)I" } : Jvm.MethodName) ({ cls := "AngleChains", name := "of", desc := "(I)I" } : Jvm.MethodName)) ∈ rx_all := rx_inT (i := 169) rfl rfl
set_option maxRecDepth 100000 in
theorem rxw_168 : (Jvm.Cond.instanceMethod ({ cls := "AngleChains", name := "of", desc := "(I)I" } : Jvm.MethodName)) ∈ rx_all := rx_inT (i := 168) rfl rfl
set_option maxRecDepth 100000 in
theorem rxw_170 : (Jvm.Cond.code ({ cls := "AngleChains", name := "of", desc := "(I)I" } : Jvm.MethodName) prog_1_method_3_code (2 : Nat) (Option.some Jvm.ClassFile.FieldType.int)) ∈ rx_all := rx_inT (i := 170) rfl rfl
set_option maxRecDepth 100000 in
theorem rxw_173 : (Jvm.Cond.selects "AngleChains$Figure" ({ cls := "AngleChains$Figure", name := "has", desc := "(I)Z" } : Jvm.MethodName) ({ cls := "AngleChains$Figure", name := "has", desc := "(I)Z" } : Jvm.MethodName)) ∈ rx_all := rx_inT (i := 173) rfl rfl
set_option maxRecDepth 100000 in
theorem rxw_172 : (Jvm.Cond.instanceMethod ({ cls := "AngleChains$Figure", name := "has", desc := "(I)Z" } : Jvm.MethodName)) ∈ rx_all := rx_inT (i := 172) rfl rfl
set_option maxRecDepth 100000 in
theorem rxw_174 : (Jvm.Cond.code ({ cls := "AngleChains$Figure", name := "has", desc := "(I)Z" } : Jvm.MethodName) prog_4_method_2_code (2 : Nat) (Option.some Jvm.ClassFile.FieldType.boolean)) ∈ rx_all := rx_inT (i := 174) rfl rfl
set_option maxRecDepth 100000 in
theorem rxw_177 : (Jvm.Cond.selects "AngleChains" ({ cls := "AngleChains", name := "isTrue", desc := "(I)I" } : Jvm.MethodName) ({ cls := "AngleChains", name := "isTrue", desc := "(I)I" } : Jvm.MethodName)) ∈ rx_all := rx_inT (i := 177) rfl rfl
set_option maxRecDepth 100000 in
theorem rxw_176 : (Jvm.Cond.instanceMethod ({ cls := "AngleChains", name := "isTrue", desc := "(I)I" } : Jvm.MethodName)) ∈ rx_all := rx_inT (i := 176) rfl rfl
set_option maxRecDepth 100000 in
theorem rxw_178 : (Jvm.Cond.code ({ cls := "AngleChains", name := "isTrue", desc := "(I)I" } : Jvm.MethodName) prog_1_method_4_code (3 : Nat) (Option.some Jvm.ClassFile.FieldType.int)) ∈ rx_all := rx_inT (i := 178) rfl rfl
theorem rxs_0 : Cond.selects "AngleChains" (⟨"AngleChains", "takeDraft", "(I)I"⟩ : MethodName) (⟨"AngleChains", "takeDraft", "(I)I"⟩ : MethodName) ∈ rx_all := rx_inS (i := 0) (q := ((⟨"AngleChains", "takeDraft", "(I)I"⟩ : MethodName), 8)) (by decide +kernel)
set_option maxRecDepth 100000 in
theorem rxw_181 : (Jvm.Cond.instanceMethod ({ cls := "AngleChains", name := "takeDraft", desc := "(I)I" } : Jvm.MethodName)) ∈ rx_all := rx_inT (i := 181) rfl rfl
set_option maxRecDepth 100000 in
theorem rxw_182 : (Jvm.Cond.code ({ cls := "AngleChains", name := "takeDraft", desc := "(I)I" } : Jvm.MethodName) prog_1_method_14_code (6 : Nat) (Option.some Jvm.ClassFile.FieldType.int)) ∈ rx_all := rx_inT (i := 182) rfl rfl
set_option maxRecDepth 100000 in
theorem rxw_186 : (Jvm.Cond.static ({ cls := "AngleChains", name := "bitsOf", desc := "(II)I" } : Jvm.MethodName)) ∈ rx_all := rx_inT (i := 186) rfl rfl
set_option maxRecDepth 100000 in
theorem rxw_187 : (Jvm.Cond.code ({ cls := "AngleChains", name := "bitsOf", desc := "(II)I" } : Jvm.MethodName) prog_1_method_18_code (4 : Nat) (Option.some Jvm.ClassFile.FieldType.int)) ∈ rx_all := rx_inT (i := 187) rfl rfl
set_option maxRecDepth 100000 in
theorem rxw_189 : (Jvm.Cond.static ({ cls := "AngleChains", name := "at", desc := "(II)I" } : Jvm.MethodName)) ∈ rx_all := rx_inT (i := 189) rfl rfl
set_option maxRecDepth 100000 in
theorem rxw_190 : (Jvm.Cond.code ({ cls := "AngleChains", name := "at", desc := "(II)I" } : Jvm.MethodName) prog_1_method_16_code (2 : Nat) (Option.some Jvm.ClassFile.FieldType.int)) ∈ rx_all := rx_inT (i := 190) rfl rfl
set_option maxRecDepth 100000 in
theorem rxw_192 : (Jvm.Cond.static ({ cls := "java/lang/Integer", name := "bitCount", desc := "(I)I" } : Jvm.MethodName)) ∈ rx_all := rx_inT (i := 192) rfl rfl
set_option maxRecDepth 100000 in
theorem rxw_193 : (Jvm.Cond.code ({ cls := "java/lang/Integer", name := "bitCount", desc := "(I)I" } : Jvm.MethodName) prog_8_method_49_code (1 : Nat) (Option.some Jvm.ClassFile.FieldType.int)) ∈ rx_all := rx_inT (i := 193) rfl rfl
set_option maxRecDepth 100000 in
theorem rxw_7 : (Jvm.Cond.initialized "java/lang/Integer") ∈ rx_all := rx_inT (i := 7) rfl rfl
set_option maxRecDepth 100000 in
theorem rxw_198 : (Jvm.Cond.static ({ cls := "AngleChains", name := "hasPairsOfTwo", desc := "(II)Z" } : Jvm.MethodName)) ∈ rx_all := rx_inT (i := 198) rfl rfl
set_option maxRecDepth 100000 in
theorem rxw_199 : (Jvm.Cond.code ({ cls := "AngleChains", name := "hasPairsOfTwo", desc := "(II)Z" } : Jvm.MethodName) prog_1_method_15_code (3 : Nat) (Option.some Jvm.ClassFile.FieldType.boolean)) ∈ rx_all := rx_inT (i := 199) rfl rfl
set_option maxRecDepth 100000 in
theorem rxw_202 : (Jvm.Cond.selects "AngleChains$Figure" ({ cls := "AngleChains$Figure", name := "holds", desc := "(I)Z" } : Jvm.MethodName) ({ cls := "AngleChains$Figure", name := "holds", desc := "(I)Z" } : Jvm.MethodName)) ∈ rx_all := rx_inT (i := 202) rfl rfl
set_option maxRecDepth 100000 in
theorem rxw_201 : (Jvm.Cond.instanceMethod ({ cls := "AngleChains$Figure", name := "holds", desc := "(I)Z" } : Jvm.MethodName)) ∈ rx_all := rx_inT (i := 201) rfl rfl
set_option maxRecDepth 100000 in
theorem rxw_203 : (Jvm.Cond.code ({ cls := "AngleChains$Figure", name := "holds", desc := "(I)Z" } : Jvm.MethodName) prog_4_method_15_code (6 : Nat) (Option.some Jvm.ClassFile.FieldType.boolean)) ∈ rx_all := rx_inT (i := 203) rfl rfl
set_option maxRecDepth 100000 in
theorem rxw_206 : (Jvm.Cond.static ({ cls := "AngleChains", name := "kindOf", desc := "(I)I" } : Jvm.MethodName)) ∈ rx_all := rx_inT (i := 206) rfl rfl
set_option maxRecDepth 100000 in
theorem rxw_207 : (Jvm.Cond.code ({ cls := "AngleChains", name := "kindOf", desc := "(I)I" } : Jvm.MethodName) prog_1_method_17_code (1 : Nat) (Option.some Jvm.ClassFile.FieldType.int)) ∈ rx_all := rx_inT (i := 207) rfl rfl
set_option maxRecDepth 100000 in
theorem rxw_210 : (Jvm.Cond.selects "AngleChains$Figure" ({ cls := "AngleChains$Figure", name := "areCollinear", desc := "(III)Z" } : Jvm.MethodName) ({ cls := "AngleChains$Figure", name := "areCollinear", desc := "(III)Z" } : Jvm.MethodName)) ∈ rx_all := rx_inT (i := 210) rfl rfl
set_option maxRecDepth 100000 in
theorem rxw_209 : (Jvm.Cond.instanceMethod ({ cls := "AngleChains$Figure", name := "areCollinear", desc := "(III)Z" } : Jvm.MethodName)) ∈ rx_all := rx_inT (i := 209) rfl rfl
set_option maxRecDepth 100000 in
theorem rxw_211 : (Jvm.Cond.code ({ cls := "AngleChains$Figure", name := "areCollinear", desc := "(III)Z" } : Jvm.MethodName) prog_4_method_8_code (4 : Nat) (Option.some Jvm.ClassFile.FieldType.boolean)) ∈ rx_all := rx_inT (i := 211) rfl rfl
set_option maxRecDepth 100000 in
theorem rxw_214 : (Jvm.Cond.selects "AngleChains$Figure" ({ cls := "AngleChains$Figure", name := "cross", desc := "(IIII)J" } : Jvm.MethodName) ({ cls := "AngleChains$Figure", name := "cross", desc := "(IIII)J" } : Jvm.MethodName)) ∈ rx_all := rx_inT (i := 214) rfl rfl
set_option maxRecDepth 100000 in
theorem rxw_213 : (Jvm.Cond.instanceMethod ({ cls := "AngleChains$Figure", name := "cross", desc := "(IIII)J" } : Jvm.MethodName)) ∈ rx_all := rx_inT (i := 213) rfl rfl
set_option maxRecDepth 100000 in
theorem rxw_215 : (Jvm.Cond.code ({ cls := "AngleChains$Figure", name := "cross", desc := "(IIII)J" } : Jvm.MethodName) prog_4_method_6_code (5 : Nat) (Option.some Jvm.ClassFile.FieldType.long)) ∈ rx_all := rx_inT (i := 215) rfl rfl
set_option maxRecDepth 100000 in
theorem rxw_218 : (Jvm.Cond.selects "AngleChains$Figure" ({ cls := "AngleChains$Figure", name := "dot", desc := "(IIII)J" } : Jvm.MethodName) ({ cls := "AngleChains$Figure", name := "dot", desc := "(IIII)J" } : Jvm.MethodName)) ∈ rx_all := rx_inT (i := 218) rfl rfl
set_option maxRecDepth 100000 in
theorem rxw_217 : (Jvm.Cond.instanceMethod ({ cls := "AngleChains$Figure", name := "dot", desc := "(IIII)J" } : Jvm.MethodName)) ∈ rx_all := rx_inT (i := 217) rfl rfl
set_option maxRecDepth 100000 in
theorem rxw_219 : (Jvm.Cond.code ({ cls := "AngleChains$Figure", name := "dot", desc := "(IIII)J" } : Jvm.MethodName) prog_4_method_7_code (5 : Nat) (Option.some Jvm.ClassFile.FieldType.long)) ∈ rx_all := rx_inT (i := 219) rfl rfl
set_option maxRecDepth 100000 in
theorem rxw_222 : (Jvm.Cond.selects "AngleChains$Figure" ({ cls := "AngleChains$Figure", name := "areOnCircle", desc := "(IIII)Z" } : Jvm.MethodName) ({ cls := "AngleChains$Figure", name := "areOnCircle", desc := "(IIII)Z" } : Jvm.MethodName)) ∈ rx_all := rx_inT (i := 222) rfl rfl
set_option maxRecDepth 100000 in
theorem rxw_221 : (Jvm.Cond.instanceMethod ({ cls := "AngleChains$Figure", name := "areOnCircle", desc := "(IIII)Z" } : Jvm.MethodName)) ∈ rx_all := rx_inT (i := 221) rfl rfl
set_option maxRecDepth 100000 in
theorem rxw_223 : (Jvm.Cond.code ({ cls := "AngleChains$Figure", name := "areOnCircle", desc := "(IIII)Z" } : Jvm.MethodName) prog_4_method_12_code (7 : Nat) (Option.some Jvm.ClassFile.FieldType.boolean)) ∈ rx_all := rx_inT (i := 223) rfl rfl
set_option maxRecDepth 100000 in
theorem rxw_226 : (Jvm.Cond.selects "AngleChains$Figure" ({ cls := "AngleChains$Figure", name := "areEqual", desc := "(IIII)Z" } : Jvm.MethodName) ({ cls := "AngleChains$Figure", name := "areEqual", desc := "(IIII)Z" } : Jvm.MethodName)) ∈ rx_all := rx_inT (i := 226) rfl rfl
set_option maxRecDepth 100000 in
theorem rxw_225 : (Jvm.Cond.instanceMethod ({ cls := "AngleChains$Figure", name := "areEqual", desc := "(IIII)Z" } : Jvm.MethodName)) ∈ rx_all := rx_inT (i := 225) rfl rfl
set_option maxRecDepth 100000 in
theorem rxw_227 : (Jvm.Cond.code ({ cls := "AngleChains$Figure", name := "areEqual", desc := "(IIII)Z" } : Jvm.MethodName) prog_4_method_9_code (5 : Nat) (Option.some Jvm.ClassFile.FieldType.boolean)) ∈ rx_all := rx_inT (i := 227) rfl rfl
set_option maxRecDepth 100000 in
theorem rxw_230 : (Jvm.Cond.selects "AngleChains$Figure" ({ cls := "AngleChains$Figure", name := "isMiddle", desc := "(III)Z" } : Jvm.MethodName) ({ cls := "AngleChains$Figure", name := "isMiddle", desc := "(III)Z" } : Jvm.MethodName)) ∈ rx_all := rx_inT (i := 230) rfl rfl
set_option maxRecDepth 100000 in
theorem rxw_229 : (Jvm.Cond.instanceMethod ({ cls := "AngleChains$Figure", name := "isMiddle", desc := "(III)Z" } : Jvm.MethodName)) ∈ rx_all := rx_inT (i := 229) rfl rfl
set_option maxRecDepth 100000 in
theorem rxw_231 : (Jvm.Cond.code ({ cls := "AngleChains$Figure", name := "isMiddle", desc := "(III)Z" } : Jvm.MethodName) prog_4_method_10_code (4 : Nat) (Option.some Jvm.ClassFile.FieldType.boolean)) ∈ rx_all := rx_inT (i := 231) rfl rfl
theorem rxs_1 : Cond.selects "AngleChains$Figure" (⟨"AngleChains$Figure", "hasLikeTurns", "(I)Z"⟩ : MethodName) (⟨"AngleChains$Figure", "hasLikeTurns", "(I)Z"⟩ : MethodName) ∈ rx_all := rx_inS (i := 1) (q := ((⟨"AngleChains$Figure", "hasLikeTurns", "(I)Z"⟩ : MethodName), 3)) (by decide +kernel)
set_option maxRecDepth 100000 in
theorem rxw_234 : (Jvm.Cond.instanceMethod ({ cls := "AngleChains$Figure", name := "hasLikeTurns", desc := "(I)Z" } : Jvm.MethodName)) ∈ rx_all := rx_inT (i := 234) rfl rfl
set_option maxRecDepth 100000 in
theorem rxw_235 : (Jvm.Cond.code ({ cls := "AngleChains$Figure", name := "hasLikeTurns", desc := "(I)Z" } : Jvm.MethodName) prog_4_method_14_code (10 : Nat) (Option.some Jvm.ClassFile.FieldType.boolean)) ∈ rx_all := rx_inT (i := 235) rfl rfl
set_option maxRecDepth 100000 in
theorem rxw_238 : (Jvm.Cond.selects "AngleChains" ({ cls := "AngleChains", name := "fact", desc := "(I)I" } : Jvm.MethodName) ({ cls := "AngleChains", name := "fact", desc := "(I)I" } : Jvm.MethodName)) ∈ rx_all := rx_inT (i := 238) rfl rfl
set_option maxRecDepth 100000 in
theorem rxw_237 : (Jvm.Cond.instanceMethod ({ cls := "AngleChains", name := "fact", desc := "(I)I" } : Jvm.MethodName)) ∈ rx_all := rx_inT (i := 237) rfl rfl
set_option maxRecDepth 100000 in
theorem rxw_239 : (Jvm.Cond.code ({ cls := "AngleChains", name := "fact", desc := "(I)I" } : Jvm.MethodName) prog_1_method_5_code (4 : Nat) (Option.some Jvm.ClassFile.FieldType.int)) ∈ rx_all := rx_inT (i := 239) rfl rfl
set_option maxRecDepth 100000 in
theorem rxw_242 : (Jvm.Cond.selects "AngleChains" ({ cls := "AngleChains", name := "turn", desc := "(IZ)Z" } : Jvm.MethodName) ({ cls := "AngleChains", name := "turn", desc := "(IZ)Z" } : Jvm.MethodName)) ∈ rx_all := rx_inT (i := 242) rfl rfl
set_option maxRecDepth 100000 in
theorem rxw_241 : (Jvm.Cond.instanceMethod ({ cls := "AngleChains", name := "turn", desc := "(IZ)Z" } : Jvm.MethodName)) ∈ rx_all := rx_inT (i := 241) rfl rfl
set_option maxRecDepth 100000 in
theorem rxw_243 : (Jvm.Cond.code ({ cls := "AngleChains", name := "turn", desc := "(IZ)Z" } : Jvm.MethodName) prog_1_method_6_code (4 : Nat) (Option.some Jvm.ClassFile.FieldType.boolean)) ∈ rx_all := rx_inT (i := 243) rfl rfl
set_option maxRecDepth 100000 in
theorem rxw_246 : (Jvm.Cond.selects "AngleChains" ({ cls := "AngleChains", name := "follows", desc := "(I)I" } : Jvm.MethodName) ({ cls := "AngleChains", name := "follows", desc := "(I)I" } : Jvm.MethodName)) ∈ rx_all := rx_inT (i := 246) rfl rfl
set_option maxRecDepth 100000 in
theorem rxw_245 : (Jvm.Cond.instanceMethod ({ cls := "AngleChains", name := "follows", desc := "(I)I" } : Jvm.MethodName)) ∈ rx_all := rx_inT (i := 245) rfl rfl
set_option maxRecDepth 100000 in
theorem rxw_247 : (Jvm.Cond.code ({ cls := "AngleChains", name := "follows", desc := "(I)I" } : Jvm.MethodName) prog_1_method_7_code (3 : Nat) (Option.some Jvm.ClassFile.FieldType.int)) ∈ rx_all := rx_inT (i := 247) rfl rfl
set_option maxRecDepth 100000 in
theorem rxw_250 : (Jvm.Cond.selects "AngleChains$Deduction" ({ cls := "AngleChains$Deduction", name := "close", desc := "(I)V" } : Jvm.MethodName) ({ cls := "AngleChains$Deduction", name := "close", desc := "(I)V" } : Jvm.MethodName)) ∈ rx_all := rx_inT (i := 250) rfl rfl
set_option maxRecDepth 100000 in
theorem rxw_249 : (Jvm.Cond.instanceMethod ({ cls := "AngleChains$Deduction", name := "close", desc := "(I)V" } : Jvm.MethodName)) ∈ rx_all := rx_inT (i := 249) rfl rfl
set_option maxRecDepth 100000 in
theorem rxw_251 : (Jvm.Cond.code ({ cls := "AngleChains$Deduction", name := "close", desc := "(I)V" } : Jvm.MethodName) prog_3_method_2_code (5 : Nat) (Option.none : Option Jvm.ClassFile.FieldType)) ∈ rx_all := rx_inT (i := 251) rfl rfl
set_option maxRecDepth 100000 in
theorem rxw_254 : (Jvm.Cond.selects "AngleChains$Cases" ({ cls := "AngleChains$Cases", name := "find", desc := "()V" } : Jvm.MethodName) ({ cls := "AngleChains$Cases", name := "find", desc := "()V" } : Jvm.MethodName)) ∈ rx_all := rx_inT (i := 254) rfl rfl
set_option maxRecDepth 100000 in
theorem rxw_253 : (Jvm.Cond.instanceMethod ({ cls := "AngleChains$Cases", name := "find", desc := "()V" } : Jvm.MethodName)) ∈ rx_all := rx_inT (i := 253) rfl rfl
set_option maxRecDepth 100000 in
theorem rxw_255 : (Jvm.Cond.code ({ cls := "AngleChains$Cases", name := "find", desc := "()V" } : Jvm.MethodName) prog_2_method_2_code (6 : Nat) (Option.none : Option Jvm.ClassFile.FieldType)) ∈ rx_all := rx_inT (i := 255) rfl rfl
theorem rxs_2 : Cond.selects "AngleChains$Cases" (⟨"AngleChains$Cases", "findBisectors", "(II)V"⟩ : MethodName) (⟨"AngleChains$Cases", "findBisectors", "(II)V"⟩ : MethodName) ∈ rx_all := rx_inS (i := 2) (q := ((⟨"AngleChains$Cases", "findBisectors", "(II)V"⟩ : MethodName), 3)) (by decide +kernel)
set_option maxRecDepth 100000 in
theorem rxw_258 : (Jvm.Cond.instanceMethod ({ cls := "AngleChains$Cases", name := "findBisectors", desc := "(II)V" } : Jvm.MethodName)) ∈ rx_all := rx_inT (i := 258) rfl rfl
set_option maxRecDepth 100000 in
theorem rxw_259 : (Jvm.Cond.code ({ cls := "AngleChains$Cases", name := "findBisectors", desc := "(II)V" } : Jvm.MethodName) prog_2_method_9_code (5 : Nat) (Option.none : Option Jvm.ClassFile.FieldType)) ∈ rx_all := rx_inT (i := 259) rfl rfl
theorem rxs_3 : Cond.selects "AngleChains$Cases" (⟨"AngleChains$Cases", "add", "(IIIIII)V"⟩ : MethodName) (⟨"AngleChains$Cases", "add", "(IIIIII)V"⟩ : MethodName) ∈ rx_all := rx_inS (i := 3) (q := ((⟨"AngleChains$Cases", "add", "(IIIIII)V"⟩ : MethodName), 3)) (by decide +kernel)
set_option maxRecDepth 100000 in
theorem rxw_263 : (Jvm.Cond.instanceMethod ({ cls := "AngleChains$Cases", name := "add", desc := "(IIIIII)V" } : Jvm.MethodName)) ∈ rx_all := rx_inT (i := 263) rfl rfl
set_option maxRecDepth 100000 in
theorem rxw_264 : (Jvm.Cond.code ({ cls := "AngleChains$Cases", name := "add", desc := "(IIIIII)V" } : Jvm.MethodName) prog_2_method_3_code (7 : Nat) (Option.none : Option Jvm.ClassFile.FieldType)) ∈ rx_all := rx_inT (i := 264) rfl rfl
theorem rxs_4 : Cond.selects "AngleChains$Cases" (⟨"AngleChains$Cases", "findOfThree", "(III)V"⟩ : MethodName) (⟨"AngleChains$Cases", "findOfThree", "(III)V"⟩ : MethodName) ∈ rx_all := rx_inS (i := 4) (q := ((⟨"AngleChains$Cases", "findOfThree", "(III)V"⟩ : MethodName), 3)) (by decide +kernel)
set_option maxRecDepth 100000 in
theorem rxw_267 : (Jvm.Cond.instanceMethod ({ cls := "AngleChains$Cases", name := "findOfThree", desc := "(III)V" } : Jvm.MethodName)) ∈ rx_all := rx_inT (i := 267) rfl rfl
set_option maxRecDepth 100000 in
theorem rxw_268 : (Jvm.Cond.code ({ cls := "AngleChains$Cases", name := "findOfThree", desc := "(III)V" } : Jvm.MethodName) prog_2_method_4_code (4 : Nat) (Option.none : Option Jvm.ClassFile.FieldType)) ∈ rx_all := rx_inT (i := 268) rfl rfl
theorem rxs_5 : Cond.selects "AngleChains$Cases" (⟨"AngleChains$Cases", "findAtCorner", "(III)V"⟩ : MethodName) (⟨"AngleChains$Cases", "findAtCorner", "(III)V"⟩ : MethodName) ∈ rx_all := rx_inS (i := 5) (q := ((⟨"AngleChains$Cases", "findAtCorner", "(III)V"⟩ : MethodName), 3)) (by decide +kernel)
set_option maxRecDepth 100000 in
theorem rxw_272 : (Jvm.Cond.instanceMethod ({ cls := "AngleChains$Cases", name := "findAtCorner", desc := "(III)V" } : Jvm.MethodName)) ∈ rx_all := rx_inT (i := 272) rfl rfl
set_option maxRecDepth 100000 in
theorem rxw_273 : (Jvm.Cond.code ({ cls := "AngleChains$Cases", name := "findAtCorner", desc := "(III)V" } : Jvm.MethodName) prog_2_method_5_code (7 : Nat) (Option.none : Option Jvm.ClassFile.FieldType)) ∈ rx_all := rx_inT (i := 273) rfl rfl
set_option maxRecDepth 100000 in
theorem rxw_276 : (Jvm.Cond.selects "AngleChains$Figure" ({ cls := "AngleChains$Figure", name := "middleOf", desc := "(II)I" } : Jvm.MethodName) ({ cls := "AngleChains$Figure", name := "middleOf", desc := "(II)I" } : Jvm.MethodName)) ∈ rx_all := rx_inT (i := 276) rfl rfl
set_option maxRecDepth 100000 in
theorem rxw_275 : (Jvm.Cond.instanceMethod ({ cls := "AngleChains$Figure", name := "middleOf", desc := "(II)I" } : Jvm.MethodName)) ∈ rx_all := rx_inT (i := 275) rfl rfl
set_option maxRecDepth 100000 in
theorem rxw_277 : (Jvm.Cond.code ({ cls := "AngleChains$Figure", name := "middleOf", desc := "(II)I" } : Jvm.MethodName) prog_4_method_11_code (4 : Nat) (Option.some Jvm.ClassFile.FieldType.int)) ∈ rx_all := rx_inT (i := 277) rfl rfl
theorem rxs_6 : Cond.selects "AngleChains$Cases" (⟨"AngleChains$Cases", "findOfFour", "(IIII)V"⟩ : MethodName) (⟨"AngleChains$Cases", "findOfFour", "(IIII)V"⟩ : MethodName) ∈ rx_all := rx_inS (i := 6) (q := ((⟨"AngleChains$Cases", "findOfFour", "(IIII)V"⟩ : MethodName), 3)) (by decide +kernel)
set_option maxRecDepth 100000 in
theorem rxw_280 : (Jvm.Cond.instanceMethod ({ cls := "AngleChains$Cases", name := "findOfFour", desc := "(IIII)V" } : Jvm.MethodName)) ∈ rx_all := rx_inT (i := 280) rfl rfl
set_option maxRecDepth 100000 in
theorem rxw_281 : (Jvm.Cond.code ({ cls := "AngleChains$Cases", name := "findOfFour", desc := "(IIII)V" } : Jvm.MethodName) prog_2_method_6_code (5 : Nat) (Option.none : Option Jvm.ClassFile.FieldType)) ∈ rx_all := rx_inT (i := 281) rfl rfl
theorem rxs_7 : Cond.selects "AngleChains$Cases" (⟨"AngleChains$Cases", "findCentre", "(IIII)V"⟩ : MethodName) (⟨"AngleChains$Cases", "findCentre", "(IIII)V"⟩ : MethodName) ∈ rx_all := rx_inS (i := 7) (q := ((⟨"AngleChains$Cases", "findCentre", "(IIII)V"⟩ : MethodName), 3)) (by decide +kernel)
set_option maxRecDepth 100000 in
theorem rxw_285 : (Jvm.Cond.instanceMethod ({ cls := "AngleChains$Cases", name := "findCentre", desc := "(IIII)V" } : Jvm.MethodName)) ∈ rx_all := rx_inT (i := 285) rfl rfl
set_option maxRecDepth 100000 in
theorem rxw_286 : (Jvm.Cond.code ({ cls := "AngleChains$Cases", name := "findCentre", desc := "(IIII)V" } : Jvm.MethodName) prog_2_method_7_code (6 : Nat) (Option.none : Option Jvm.ClassFile.FieldType)) ∈ rx_all := rx_inT (i := 286) rfl rfl
theorem rxs_8 : Cond.selects "AngleChains$Cases" (⟨"AngleChains$Cases", "findParallelogram", "(IIII)V"⟩ : MethodName) (⟨"AngleChains$Cases", "findParallelogram", "(IIII)V"⟩ : MethodName) ∈ rx_all := rx_inS (i := 8) (q := ((⟨"AngleChains$Cases", "findParallelogram", "(IIII)V"⟩ : MethodName), 3)) (by decide +kernel)
set_option maxRecDepth 100000 in
theorem rxw_289 : (Jvm.Cond.instanceMethod ({ cls := "AngleChains$Cases", name := "findParallelogram", desc := "(IIII)V" } : Jvm.MethodName)) ∈ rx_all := rx_inT (i := 289) rfl rfl
set_option maxRecDepth 100000 in
theorem rxw_290 : (Jvm.Cond.code ({ cls := "AngleChains$Cases", name := "findParallelogram", desc := "(IIII)V" } : Jvm.MethodName) prog_2_method_8_code (5 : Nat) (Option.none : Option Jvm.ClassFile.FieldType)) ∈ rx_all := rx_inT (i := 290) rfl rfl
set_option maxRecDepth 100000 in
theorem rxw_293 : (Jvm.Cond.selects "AngleChains$Figure" ({ cls := "AngleChains$Figure", name := "isParallelogram", desc := "(IIII)Z" } : Jvm.MethodName) ({ cls := "AngleChains$Figure", name := "isParallelogram", desc := "(IIII)Z" } : Jvm.MethodName)) ∈ rx_all := rx_inT (i := 293) rfl rfl
set_option maxRecDepth 100000 in
theorem rxw_292 : (Jvm.Cond.instanceMethod ({ cls := "AngleChains$Figure", name := "isParallelogram", desc := "(IIII)Z" } : Jvm.MethodName)) ∈ rx_all := rx_inT (i := 292) rfl rfl
set_option maxRecDepth 100000 in
theorem rxw_294 : (Jvm.Cond.code ({ cls := "AngleChains$Figure", name := "isParallelogram", desc := "(IIII)Z" } : Jvm.MethodName) prog_4_method_13_code (5 : Nat) (Option.some Jvm.ClassFile.FieldType.boolean)) ∈ rx_all := rx_inT (i := 294) rfl rfl
theorem rxs_9 : Cond.selects "AngleChains$Deduction" (⟨"AngleChains$Deduction", "start", "()V"⟩ : MethodName) (⟨"AngleChains$Deduction", "start", "()V"⟩ : MethodName) ∈ rx_all := rx_inS (i := 9) (q := ((⟨"AngleChains$Deduction", "start", "()V"⟩ : MethodName), 13)) (by decide +kernel)
set_option maxRecDepth 100000 in
theorem rxw_297 : (Jvm.Cond.instanceMethod ({ cls := "AngleChains$Deduction", name := "start", desc := "()V" } : Jvm.MethodName)) ∈ rx_all := rx_inT (i := 297) rfl rfl
set_option maxRecDepth 100000 in
theorem rxw_298 : (Jvm.Cond.code ({ cls := "AngleChains$Deduction", name := "start", desc := "()V" } : Jvm.MethodName) prog_3_method_3_code (3 : Nat) (Option.none : Option Jvm.ClassFile.FieldType)) ∈ rx_all := rx_inT (i := 298) rfl rfl
set_option maxRecDepth 100000 in
theorem rxw_301 : (Jvm.Cond.selects "AngleChains$Rows" ({ cls := "AngleChains$Rows", name := "clear", desc := "()V" } : Jvm.MethodName) ({ cls := "AngleChains$Rows", name := "clear", desc := "()V" } : Jvm.MethodName)) ∈ rx_all := rx_inT (i := 301) rfl rfl
set_option maxRecDepth 100000 in
theorem rxw_300 : (Jvm.Cond.instanceMethod ({ cls := "AngleChains$Rows", name := "clear", desc := "()V" } : Jvm.MethodName)) ∈ rx_all := rx_inT (i := 300) rfl rfl
set_option maxRecDepth 100000 in
theorem rxw_302 : (Jvm.Cond.code ({ cls := "AngleChains$Rows", name := "clear", desc := "()V" } : Jvm.MethodName) prog_5_method_2_code (2 : Nat) (Option.none : Option Jvm.ClassFile.FieldType)) ∈ rx_all := rx_inT (i := 302) rfl rfl
set_option maxRecDepth 100000 in
theorem rxw_304 : (Jvm.Cond.static ({ cls := "java/util/Arrays", name := "fill", desc := "([JJ)V" } : Jvm.MethodName)) ∈ rx_all := rx_inT (i := 304) rfl rfl
set_option maxRecDepth 100000 in
theorem rxw_305 : (Jvm.Cond.code ({ cls := "java/util/Arrays", name := "fill", desc := "([JJ)V" } : Jvm.MethodName) prog_11_method_101_code (5 : Nat) (Option.none : Option Jvm.ClassFile.FieldType)) ∈ rx_all := rx_inT (i := 305) rfl rfl
set_option maxRecDepth 100000 in
theorem rxw_8 : (Jvm.Cond.initialized "java/util/Arrays") ∈ rx_all := rx_inT (i := 8) rfl rfl
theorem rxs_10 : Cond.selects "AngleChains$Deduction" (⟨"AngleChains$Deduction", "isProper", "(I)Z"⟩ : MethodName) (⟨"AngleChains$Deduction", "isProper", "(I)Z"⟩ : MethodName) ∈ rx_all := rx_inS (i := 10) (q := ((⟨"AngleChains$Deduction", "isProper", "(I)Z"⟩ : MethodName), 13)) (by decide +kernel)
set_option maxRecDepth 100000 in
theorem rxw_312 : (Jvm.Cond.instanceMethod ({ cls := "AngleChains$Deduction", name := "isProper", desc := "(I)Z" } : Jvm.MethodName)) ∈ rx_all := rx_inT (i := 312) rfl rfl
set_option maxRecDepth 100000 in
theorem rxw_313 : (Jvm.Cond.code ({ cls := "AngleChains$Deduction", name := "isProper", desc := "(I)Z" } : Jvm.MethodName) prog_3_method_4_code (5 : Nat) (Option.some Jvm.ClassFile.FieldType.boolean)) ∈ rx_all := rx_inT (i := 313) rfl rfl
set_option maxRecDepth 100000 in
theorem rxw_315 : (Jvm.Cond.static ({ cls := "java/lang/Integer", name := "numberOfTrailingZeros", desc := "(I)I" } : Jvm.MethodName)) ∈ rx_all := rx_inT (i := 315) rfl rfl
set_option maxRecDepth 100000 in
theorem rxw_316 : (Jvm.Cond.code ({ cls := "java/lang/Integer", name := "numberOfTrailingZeros", desc := "(I)I" } : Jvm.MethodName) prog_8_method_48_code (2 : Nat) (Option.some Jvm.ClassFile.FieldType.int)) ∈ rx_all := rx_inT (i := 316) rfl rfl
set_option maxRecDepth 100000 in
theorem rxw_319 : (Jvm.Cond.static ({ cls := "java/lang/Integer", name := "numberOfLeadingZeros", desc := "(I)I" } : Jvm.MethodName)) ∈ rx_all := rx_inT (i := 319) rfl rfl
set_option maxRecDepth 100000 in
theorem rxw_320 : (Jvm.Cond.code ({ cls := "java/lang/Integer", name := "numberOfLeadingZeros", desc := "(I)I" } : Jvm.MethodName) prog_8_method_47_code (2 : Nat) (Option.some Jvm.ClassFile.FieldType.int)) ∈ rx_all := rx_inT (i := 320) rfl rfl
theorem rxs_11 : Cond.selects "AngleChains$Deduction" (⟨"AngleChains$Deduction", "assume", "(I)V"⟩ : MethodName) (⟨"AngleChains$Deduction", "assume", "(I)V"⟩ : MethodName) ∈ rx_all := rx_inS (i := 11) (q := ((⟨"AngleChains$Deduction", "assume", "(I)V"⟩ : MethodName), 13)) (by decide +kernel)
set_option maxRecDepth 100000 in
theorem rxw_328 : (Jvm.Cond.instanceMethod ({ cls := "AngleChains$Deduction", name := "assume", desc := "(I)V" } : Jvm.MethodName)) ∈ rx_all := rx_inT (i := 328) rfl rfl
set_option maxRecDepth 100000 in
theorem rxw_329 : (Jvm.Cond.code ({ cls := "AngleChains$Deduction", name := "assume", desc := "(I)V" } : Jvm.MethodName) prog_3_method_5_code (2 : Nat) (Option.none : Option Jvm.ClassFile.FieldType)) ∈ rx_all := rx_inT (i := 329) rfl rfl
theorem rxs_12 : Cond.selects "AngleChains$Deduction" (⟨"AngleChains$Deduction", "joinLine", "(I)V"⟩ : MethodName) (⟨"AngleChains$Deduction", "joinLine", "(I)V"⟩ : MethodName) ∈ rx_all := rx_inS (i := 12) (q := ((⟨"AngleChains$Deduction", "joinLine", "(I)V"⟩ : MethodName), 13)) (by decide +kernel)
set_option maxRecDepth 100000 in
theorem rxw_334 : (Jvm.Cond.instanceMethod ({ cls := "AngleChains$Deduction", name := "joinLine", desc := "(I)V" } : Jvm.MethodName)) ∈ rx_all := rx_inT (i := 334) rfl rfl
set_option maxRecDepth 100000 in
theorem rxw_335 : (Jvm.Cond.code ({ cls := "AngleChains$Deduction", name := "joinLine", desc := "(I)V" } : Jvm.MethodName) prog_3_method_16_code (6 : Nat) (Option.none : Option Jvm.ClassFile.FieldType)) ∈ rx_all := rx_inT (i := 335) rfl rfl
set_option maxRecDepth 100000 in
theorem rxw_339 : (Jvm.Cond.selects "AngleChains$Rows" ({ cls := "AngleChains$Rows", name := "writeDifference", desc := "(III)V" } : Jvm.MethodName) ({ cls := "AngleChains$Rows", name := "writeDifference", desc := "(III)V" } : Jvm.MethodName)) ∈ rx_all := rx_inT (i := 339) rfl rfl
set_option maxRecDepth 100000 in
theorem rxw_338 : (Jvm.Cond.instanceMethod ({ cls := "AngleChains$Rows", name := "writeDifference", desc := "(III)V" } : Jvm.MethodName)) ∈ rx_all := rx_inT (i := 338) rfl rfl
set_option maxRecDepth 100000 in
theorem rxw_340 : (Jvm.Cond.code ({ cls := "AngleChains$Rows", name := "writeDifference", desc := "(III)V" } : Jvm.MethodName) prog_5_method_3_code (4 : Nat) (Option.none : Option Jvm.ClassFile.FieldType)) ∈ rx_all := rx_inT (i := 340) rfl rfl
set_option maxRecDepth 100000 in
theorem rxw_343 : (Jvm.Cond.selects "AngleChains$Rows" ({ cls := "AngleChains$Rows", name := "takeWritten", desc := "()V" } : Jvm.MethodName) ({ cls := "AngleChains$Rows", name := "takeWritten", desc := "()V" } : Jvm.MethodName)) ∈ rx_all := rx_inT (i := 343) rfl rfl
set_option maxRecDepth 100000 in
theorem rxw_342 : (Jvm.Cond.instanceMethod ({ cls := "AngleChains$Rows", name := "takeWritten", desc := "()V" } : Jvm.MethodName)) ∈ rx_all := rx_inT (i := 342) rfl rfl
set_option maxRecDepth 100000 in
theorem rxw_344 : (Jvm.Cond.code ({ cls := "AngleChains$Rows", name := "takeWritten", desc := "()V" } : Jvm.MethodName) prog_5_method_6_code (6 : Nat) (Option.none : Option Jvm.ClassFile.FieldType)) ∈ rx_all := rx_inT (i := 344) rfl rfl
theorem rxs_13 : Cond.selects "AngleChains$Rows" (⟨"AngleChains$Rows", "subtract", "([JJI)V"⟩ : MethodName) (⟨"AngleChains$Rows", "subtract", "([JJI)V"⟩ : MethodName) ∈ rx_all := rx_inS (i := 13) (q := ((⟨"AngleChains$Rows", "subtract", "([JJI)V"⟩ : MethodName), 4)) (by decide +kernel)
set_option maxRecDepth 100000 in
theorem rxw_347 : (Jvm.Cond.instanceMethod ({ cls := "AngleChains$Rows", name := "subtract", desc := "([JJI)V" } : Jvm.MethodName)) ∈ rx_all := rx_inT (i := 347) rfl rfl
set_option maxRecDepth 100000 in
theorem rxw_348 : (Jvm.Cond.code ({ cls := "AngleChains$Rows", name := "subtract", desc := "([JJI)V" } : Jvm.MethodName) prog_5_method_9_code (7 : Nat) (Option.none : Option Jvm.ClassFile.FieldType)) ∈ rx_all := rx_inT (i := 348) rfl rfl
theorem rxs_14 : Cond.selects "AngleChains$Rows" (⟨"AngleChains$Rows", "settle", "([JI)V"⟩ : MethodName) (⟨"AngleChains$Rows", "settle", "([JI)V"⟩ : MethodName) ∈ rx_all := rx_inS (i := 14) (q := ((⟨"AngleChains$Rows", "settle", "([JI)V"⟩ : MethodName), 4)) (by decide +kernel)
set_option maxRecDepth 100000 in
theorem rxw_351 : (Jvm.Cond.instanceMethod ({ cls := "AngleChains$Rows", name := "settle", desc := "([JI)V" } : Jvm.MethodName)) ∈ rx_all := rx_inT (i := 351) rfl rfl
set_option maxRecDepth 100000 in
theorem rxw_352 : (Jvm.Cond.code ({ cls := "AngleChains$Rows", name := "settle", desc := "([JI)V" } : Jvm.MethodName) prog_5_method_8_code (6 : Nat) (Option.none : Option Jvm.ClassFile.FieldType)) ∈ rx_all := rx_inT (i := 352) rfl rfl
set_option maxRecDepth 100000 in
theorem rxw_354 : (Jvm.Cond.static ({ cls := "java/lang/Math", name := "floorDiv", desc := "(JJ)J" } : Jvm.MethodName)) ∈ rx_all := rx_inT (i := 354) rfl rfl
set_option maxRecDepth 100000 in
theorem rxw_355 : (Jvm.Cond.code ({ cls := "java/lang/Math", name := "floorDiv", desc := "(JJ)J" } : Jvm.MethodName) prog_9_method_49_code (6 : Nat) (Option.some Jvm.ClassFile.FieldType.long)) ∈ rx_all := rx_inT (i := 355) rfl rfl
set_option maxRecDepth 100000 in
theorem rxw_10 : (Jvm.Cond.initialized "java/lang/Math") ∈ rx_all := rx_inT (i := 10) rfl rfl
theorem rxs_15 : Cond.selects "AngleChains$Rows" (⟨"AngleChains$Rows", "swapWithBasis", "(I)V"⟩ : MethodName) (⟨"AngleChains$Rows", "swapWithBasis", "(I)V"⟩ : MethodName) ∈ rx_all := rx_inS (i := 15) (q := ((⟨"AngleChains$Rows", "swapWithBasis", "(I)V"⟩ : MethodName), 4)) (by decide +kernel)
set_option maxRecDepth 100000 in
theorem rxw_358 : (Jvm.Cond.instanceMethod ({ cls := "AngleChains$Rows", name := "swapWithBasis", desc := "(I)V" } : Jvm.MethodName)) ∈ rx_all := rx_inT (i := 358) rfl rfl
set_option maxRecDepth 100000 in
theorem rxw_359 : (Jvm.Cond.code ({ cls := "AngleChains$Rows", name := "swapWithBasis", desc := "(I)V" } : Jvm.MethodName) prog_5_method_7_code (8 : Nat) (Option.none : Option Jvm.ClassFile.FieldType)) ∈ rx_all := rx_inT (i := 359) rfl rfl
theorem rxs_16 : Cond.selects "AngleChains$Deduction" (⟨"AngleChains$Deduction", "joinCircle", "(I)V"⟩ : MethodName) (⟨"AngleChains$Deduction", "joinCircle", "(I)V"⟩ : MethodName) ∈ rx_all := rx_inS (i := 16) (q := ((⟨"AngleChains$Deduction", "joinCircle", "(I)V"⟩ : MethodName), 13)) (by decide +kernel)
set_option maxRecDepth 100000 in
theorem rxw_363 : (Jvm.Cond.instanceMethod ({ cls := "AngleChains$Deduction", name := "joinCircle", desc := "(I)V" } : Jvm.MethodName)) ∈ rx_all := rx_inT (i := 363) rfl rfl
set_option maxRecDepth 100000 in
theorem rxw_364 : (Jvm.Cond.code ({ cls := "AngleChains$Deduction", name := "joinCircle", desc := "(I)V" } : Jvm.MethodName) prog_3_method_17_code (7 : Nat) (Option.none : Option Jvm.ClassFile.FieldType)) ∈ rx_all := rx_inT (i := 364) rfl rfl
set_option maxRecDepth 100000 in
theorem rxw_366 : (Jvm.Cond.static ({ cls := "AngleChains", name := "pairAt", desc := "(III)I" } : Jvm.MethodName)) ∈ rx_all := rx_inT (i := 366) rfl rfl
set_option maxRecDepth 100000 in
theorem rxw_367 : (Jvm.Cond.code ({ cls := "AngleChains", name := "pairAt", desc := "(III)I" } : Jvm.MethodName) prog_1_method_20_code (3 : Nat) (Option.some Jvm.ClassFile.FieldType.int)) ∈ rx_all := rx_inT (i := 367) rfl rfl
set_option maxRecDepth 100000 in
theorem rxw_369 : (Jvm.Cond.static ({ cls := "AngleChains", name := "pairOf", desc := "(II)I" } : Jvm.MethodName)) ∈ rx_all := rx_inT (i := 369) rfl rfl
set_option maxRecDepth 100000 in
theorem rxw_370 : (Jvm.Cond.code ({ cls := "AngleChains", name := "pairOf", desc := "(II)I" } : Jvm.MethodName) prog_1_method_19_code (2 : Nat) (Option.some Jvm.ClassFile.FieldType.int)) ∈ rx_all := rx_inT (i := 370) rfl rfl
theorem rxs_17 : Cond.selects "AngleChains$Deduction" (⟨"AngleChains$Deduction", "joinLengths", "(II)V"⟩ : MethodName) (⟨"AngleChains$Deduction", "joinLengths", "(II)V"⟩ : MethodName) ∈ rx_all := rx_inS (i := 17) (q := ((⟨"AngleChains$Deduction", "joinLengths", "(II)V"⟩ : MethodName), 13)) (by decide +kernel)
set_option maxRecDepth 100000 in
theorem rxw_375 : (Jvm.Cond.instanceMethod ({ cls := "AngleChains$Deduction", name := "joinLengths", desc := "(II)V" } : Jvm.MethodName)) ∈ rx_all := rx_inT (i := 375) rfl rfl
set_option maxRecDepth 100000 in
theorem rxw_376 : (Jvm.Cond.code ({ cls := "AngleChains$Deduction", name := "joinLengths", desc := "(II)V" } : Jvm.MethodName) prog_3_method_18_code (6 : Nat) (Option.none : Option Jvm.ClassFile.FieldType)) ∈ rx_all := rx_inT (i := 376) rfl rfl
theorem rxs_18 : Cond.selects "AngleChains$Deduction" (⟨"AngleChains$Deduction", "writeRowOf", "(I)V"⟩ : MethodName) (⟨"AngleChains$Deduction", "writeRowOf", "(I)V"⟩ : MethodName) ∈ rx_all := rx_inS (i := 18) (q := ((⟨"AngleChains$Deduction", "writeRowOf", "(I)V"⟩ : MethodName), 13)) (by decide +kernel)
set_option maxRecDepth 100000 in
theorem rxw_385 : (Jvm.Cond.instanceMethod ({ cls := "AngleChains$Deduction", name := "writeRowOf", desc := "(I)V" } : Jvm.MethodName)) ∈ rx_all := rx_inT (i := 385) rfl rfl
set_option maxRecDepth 100000 in
theorem rxw_386 : (Jvm.Cond.code ({ cls := "AngleChains$Deduction", name := "writeRowOf", desc := "(I)V" } : Jvm.MethodName) prog_3_method_7_code (4 : Nat) (Option.none : Option Jvm.ClassFile.FieldType)) ∈ rx_all := rx_inT (i := 386) rfl rfl
theorem rxs_19 : Cond.selects "AngleChains$Deduction" (⟨"AngleChains$Deduction", "writeDifference", "(III)V"⟩ : MethodName) (⟨"AngleChains$Deduction", "writeDifference", "(III)V"⟩ : MethodName) ∈ rx_all := rx_inS (i := 19) (q := ((⟨"AngleChains$Deduction", "writeDifference", "(III)V"⟩ : MethodName), 13)) (by decide +kernel)
set_option maxRecDepth 100000 in
theorem rxw_389 : (Jvm.Cond.instanceMethod ({ cls := "AngleChains$Deduction", name := "writeDifference", desc := "(III)V" } : Jvm.MethodName)) ∈ rx_all := rx_inT (i := 389) rfl rfl
set_option maxRecDepth 100000 in
theorem rxw_390 : (Jvm.Cond.code ({ cls := "AngleChains$Deduction", name := "writeDifference", desc := "(III)V" } : Jvm.MethodName) prog_3_method_8_code (4 : Nat) (Option.none : Option Jvm.ClassFile.FieldType)) ∈ rx_all := rx_inT (i := 390) rfl rfl
theorem rxs_20 : Cond.selects "AngleChains$Deduction" (⟨"AngleChains$Deduction", "writeTurns", "(IIII)V"⟩ : MethodName) (⟨"AngleChains$Deduction", "writeTurns", "(IIII)V"⟩ : MethodName) ∈ rx_all := rx_inS (i := 20) (q := ((⟨"AngleChains$Deduction", "writeTurns", "(IIII)V"⟩ : MethodName), 13)) (by decide +kernel)
set_option maxRecDepth 100000 in
theorem rxw_393 : (Jvm.Cond.instanceMethod ({ cls := "AngleChains$Deduction", name := "writeTurns", desc := "(IIII)V" } : Jvm.MethodName)) ∈ rx_all := rx_inT (i := 393) rfl rfl
set_option maxRecDepth 100000 in
theorem rxw_394 : (Jvm.Cond.code ({ cls := "AngleChains$Deduction", name := "writeTurns", desc := "(IIII)V" } : Jvm.MethodName) prog_3_method_9_code (5 : Nat) (Option.none : Option Jvm.ClassFile.FieldType)) ∈ rx_all := rx_inT (i := 394) rfl rfl
set_option maxRecDepth 100000 in
theorem rxw_397 : (Jvm.Cond.selects "AngleChains$Rows" ({ cls := "AngleChains$Rows", name := "writeTurns", desc := "(IIII)V" } : Jvm.MethodName) ({ cls := "AngleChains$Rows", name := "writeTurns", desc := "(IIII)V" } : Jvm.MethodName)) ∈ rx_all := rx_inT (i := 397) rfl rfl
set_option maxRecDepth 100000 in
theorem rxw_396 : (Jvm.Cond.instanceMethod ({ cls := "AngleChains$Rows", name := "writeTurns", desc := "(IIII)V" } : Jvm.MethodName)) ∈ rx_all := rx_inT (i := 396) rfl rfl
set_option maxRecDepth 100000 in
theorem rxw_398 : (Jvm.Cond.code ({ cls := "AngleChains$Rows", name := "writeTurns", desc := "(IIII)V" } : Jvm.MethodName) prog_5_method_4_code (5 : Nat) (Option.none : Option Jvm.ClassFile.FieldType)) ∈ rx_all := rx_inT (i := 398) rfl rfl
theorem rxs_21 : Cond.selects "AngleChains$Deduction" (⟨"AngleChains$Deduction", "usesUp", "(I)Z"⟩ : MethodName) (⟨"AngleChains$Deduction", "usesUp", "(I)Z"⟩ : MethodName) ∈ rx_all := rx_inS (i := 21) (q := ((⟨"AngleChains$Deduction", "usesUp", "(I)Z"⟩ : MethodName), 13)) (by decide +kernel)
set_option maxRecDepth 100000 in
theorem rxw_401 : (Jvm.Cond.instanceMethod ({ cls := "AngleChains$Deduction", name := "usesUp", desc := "(I)Z" } : Jvm.MethodName)) ∈ rx_all := rx_inT (i := 401) rfl rfl
set_option maxRecDepth 100000 in
theorem rxw_402 : (Jvm.Cond.code ({ cls := "AngleChains$Deduction", name := "usesUp", desc := "(I)Z" } : Jvm.MethodName) prog_3_method_19_code (2 : Nat) (Option.some Jvm.ClassFile.FieldType.boolean)) ∈ rx_all := rx_inT (i := 402) rfl rfl
theorem rxs_22 : Cond.selects "AngleChains$Deduction" (⟨"AngleChains$Deduction", "triesLine", "(I)Z"⟩ : MethodName) (⟨"AngleChains$Deduction", "triesLine", "(I)Z"⟩ : MethodName) ∈ rx_all := rx_inS (i := 22) (q := ((⟨"AngleChains$Deduction", "triesLine", "(I)Z"⟩ : MethodName), 13)) (by decide +kernel)
set_option maxRecDepth 100000 in
theorem rxw_405 : (Jvm.Cond.instanceMethod ({ cls := "AngleChains$Deduction", name := "triesLine", desc := "(I)Z" } : Jvm.MethodName)) ∈ rx_all := rx_inT (i := 405) rfl rfl
set_option maxRecDepth 100000 in
theorem rxw_406 : (Jvm.Cond.code ({ cls := "AngleChains$Deduction", name := "triesLine", desc := "(I)Z" } : Jvm.MethodName) prog_3_method_20_code (5 : Nat) (Option.some Jvm.ClassFile.FieldType.boolean)) ∈ rx_all := rx_inT (i := 406) rfl rfl
theorem rxs_23 : Cond.selects "AngleChains$Deduction" (⟨"AngleChains$Deduction", "areOnLine", "(I)Z"⟩ : MethodName) (⟨"AngleChains$Deduction", "areOnLine", "(I)Z"⟩ : MethodName) ∈ rx_all := rx_inS (i := 23) (q := ((⟨"AngleChains$Deduction", "areOnLine", "(I)Z"⟩ : MethodName), 13)) (by decide +kernel)
set_option maxRecDepth 100000 in
theorem rxw_409 : (Jvm.Cond.instanceMethod ({ cls := "AngleChains$Deduction", name := "areOnLine", desc := "(I)Z" } : Jvm.MethodName)) ∈ rx_all := rx_inT (i := 409) rfl rfl
set_option maxRecDepth 100000 in
theorem rxw_410 : (Jvm.Cond.code ({ cls := "AngleChains$Deduction", name := "areOnLine", desc := "(I)Z" } : Jvm.MethodName) prog_3_method_13_code (2 : Nat) (Option.some Jvm.ClassFile.FieldType.boolean)) ∈ rx_all := rx_inT (i := 410) rfl rfl
theorem rxs_24 : Cond.selects "AngleChains$Deduction" (⟨"AngleChains$Deduction", "haveDifference", "(III)Z"⟩ : MethodName) (⟨"AngleChains$Deduction", "haveDifference", "(III)Z"⟩ : MethodName) ∈ rx_all := rx_inS (i := 24) (q := ((⟨"AngleChains$Deduction", "haveDifference", "(III)Z"⟩ : MethodName), 13)) (by decide +kernel)
set_option maxRecDepth 100000 in
theorem rxw_414 : (Jvm.Cond.instanceMethod ({ cls := "AngleChains$Deduction", name := "haveDifference", desc := "(III)Z" } : Jvm.MethodName)) ∈ rx_all := rx_inT (i := 414) rfl rfl
set_option maxRecDepth 100000 in
theorem rxw_415 : (Jvm.Cond.code ({ cls := "AngleChains$Deduction", name := "haveDifference", desc := "(III)Z" } : Jvm.MethodName) prog_3_method_10_code (4 : Nat) (Option.some Jvm.ClassFile.FieldType.boolean)) ∈ rx_all := rx_inT (i := 415) rfl rfl
set_option maxRecDepth 100000 in
theorem rxw_418 : (Jvm.Cond.selects "AngleChains$Rows" ({ cls := "AngleChains$Rows", name := "haveWritten", desc := "()Z" } : Jvm.MethodName) ({ cls := "AngleChains$Rows", name := "haveWritten", desc := "()Z" } : Jvm.MethodName)) ∈ rx_all := rx_inT (i := 418) rfl rfl
set_option maxRecDepth 100000 in
theorem rxw_417 : (Jvm.Cond.instanceMethod ({ cls := "AngleChains$Rows", name := "haveWritten", desc := "()Z" } : Jvm.MethodName)) ∈ rx_all := rx_inT (i := 417) rfl rfl
set_option maxRecDepth 100000 in
theorem rxw_419 : (Jvm.Cond.code ({ cls := "AngleChains$Rows", name := "haveWritten", desc := "()Z" } : Jvm.MethodName) prog_5_method_5_code (4 : Nat) (Option.some Jvm.ClassFile.FieldType.boolean)) ∈ rx_all := rx_inT (i := 419) rfl rfl
theorem rxs_25 : Cond.selects "AngleChains$Deduction" (⟨"AngleChains$Deduction", "triesCircle", "(I)Z"⟩ : MethodName) (⟨"AngleChains$Deduction", "triesCircle", "(I)Z"⟩ : MethodName) ∈ rx_all := rx_inS (i := 25) (q := ((⟨"AngleChains$Deduction", "triesCircle", "(I)Z"⟩ : MethodName), 13)) (by decide +kernel)
set_option maxRecDepth 100000 in
theorem rxw_422 : (Jvm.Cond.instanceMethod ({ cls := "AngleChains$Deduction", name := "triesCircle", desc := "(I)Z" } : Jvm.MethodName)) ∈ rx_all := rx_inT (i := 422) rfl rfl
set_option maxRecDepth 100000 in
theorem rxw_423 : (Jvm.Cond.code ({ cls := "AngleChains$Deduction", name := "triesCircle", desc := "(I)Z" } : Jvm.MethodName) prog_3_method_21_code (9 : Nat) (Option.some Jvm.ClassFile.FieldType.boolean)) ∈ rx_all := rx_inT (i := 423) rfl rfl
theorem rxs_26 : Cond.selects "AngleChains$Deduction" (⟨"AngleChains$Deduction", "areOnCircle", "(I)Z"⟩ : MethodName) (⟨"AngleChains$Deduction", "areOnCircle", "(I)Z"⟩ : MethodName) ∈ rx_all := rx_inS (i := 26) (q := ((⟨"AngleChains$Deduction", "areOnCircle", "(I)Z"⟩ : MethodName), 13)) (by decide +kernel)
set_option maxRecDepth 100000 in
theorem rxw_426 : (Jvm.Cond.instanceMethod ({ cls := "AngleChains$Deduction", name := "areOnCircle", desc := "(I)Z" } : Jvm.MethodName)) ∈ rx_all := rx_inT (i := 426) rfl rfl
set_option maxRecDepth 100000 in
theorem rxw_427 : (Jvm.Cond.code ({ cls := "AngleChains$Deduction", name := "areOnCircle", desc := "(I)Z" } : Jvm.MethodName) prog_3_method_15_code (3 : Nat) (Option.some Jvm.ClassFile.FieldType.boolean)) ∈ rx_all := rx_inT (i := 427) rfl rfl
theorem rxs_27 : Cond.selects "AngleChains$Deduction" (⟨"AngleChains$Deduction", "haveTurns", "(IIII)Z"⟩ : MethodName) (⟨"AngleChains$Deduction", "haveTurns", "(IIII)Z"⟩ : MethodName) ∈ rx_all := rx_inS (i := 27) (q := ((⟨"AngleChains$Deduction", "haveTurns", "(IIII)Z"⟩ : MethodName), 13)) (by decide +kernel)
set_option maxRecDepth 100000 in
theorem rxw_430 : (Jvm.Cond.instanceMethod ({ cls := "AngleChains$Deduction", name := "haveTurns", desc := "(IIII)Z" } : Jvm.MethodName)) ∈ rx_all := rx_inT (i := 430) rfl rfl
set_option maxRecDepth 100000 in
theorem rxw_431 : (Jvm.Cond.code ({ cls := "AngleChains$Deduction", name := "haveTurns", desc := "(IIII)Z" } : Jvm.MethodName) prog_3_method_11_code (5 : Nat) (Option.some Jvm.ClassFile.FieldType.boolean)) ∈ rx_all := rx_inT (i := 431) rfl rfl
theorem rxs_28 : Cond.selects "AngleChains$Deduction" (⟨"AngleChains$Deduction", "triesIsosceles", "(I)Z"⟩ : MethodName) (⟨"AngleChains$Deduction", "triesIsosceles", "(I)Z"⟩ : MethodName) ∈ rx_all := rx_inS (i := 28) (q := ((⟨"AngleChains$Deduction", "triesIsosceles", "(I)Z"⟩ : MethodName), 13)) (by decide +kernel)
set_option maxRecDepth 100000 in
theorem rxw_434 : (Jvm.Cond.instanceMethod ({ cls := "AngleChains$Deduction", name := "triesIsosceles", desc := "(I)Z" } : Jvm.MethodName)) ∈ rx_all := rx_inT (i := 434) rfl rfl
set_option maxRecDepth 100000 in
theorem rxw_435 : (Jvm.Cond.code ({ cls := "AngleChains$Deduction", name := "triesIsosceles", desc := "(I)Z" } : Jvm.MethodName) prog_3_method_23_code (5 : Nat) (Option.some Jvm.ClassFile.FieldType.boolean)) ∈ rx_all := rx_inT (i := 435) rfl rfl
theorem rxs_29 : Cond.selects "AngleChains$Deduction" (⟨"AngleChains$Deduction", "linksRowTo", "(II)Z"⟩ : MethodName) (⟨"AngleChains$Deduction", "linksRowTo", "(II)Z"⟩ : MethodName) ∈ rx_all := rx_inS (i := 29) (q := ((⟨"AngleChains$Deduction", "linksRowTo", "(II)Z"⟩ : MethodName), 13)) (by decide +kernel)
set_option maxRecDepth 100000 in
theorem rxw_438 : (Jvm.Cond.instanceMethod ({ cls := "AngleChains$Deduction", name := "linksRowTo", desc := "(II)Z" } : Jvm.MethodName)) ∈ rx_all := rx_inT (i := 438) rfl rfl
set_option maxRecDepth 100000 in
theorem rxw_439 : (Jvm.Cond.code ({ cls := "AngleChains$Deduction", name := "linksRowTo", desc := "(II)Z" } : Jvm.MethodName) prog_3_method_22_code (3 : Nat) (Option.some Jvm.ClassFile.FieldType.boolean)) ∈ rx_all := rx_inT (i := 439) rfl rfl
theorem rxs_30 : Cond.selects "AngleChains$Deduction" (⟨"AngleChains$Deduction", "areSame", "(II)Z"⟩ : MethodName) (⟨"AngleChains$Deduction", "areSame", "(II)Z"⟩ : MethodName) ∈ rx_all := rx_inS (i := 30) (q := ((⟨"AngleChains$Deduction", "areSame", "(II)Z"⟩ : MethodName), 13)) (by decide +kernel)
set_option maxRecDepth 100000 in
theorem rxw_442 : (Jvm.Cond.instanceMethod ({ cls := "AngleChains$Deduction", name := "areSame", desc := "(II)Z" } : Jvm.MethodName)) ∈ rx_all := rx_inT (i := 442) rfl rfl
set_option maxRecDepth 100000 in
theorem rxw_443 : (Jvm.Cond.code ({ cls := "AngleChains$Deduction", name := "areSame", desc := "(II)Z" } : Jvm.MethodName) prog_3_method_12_code (3 : Nat) (Option.some Jvm.ClassFile.FieldType.boolean)) ∈ rx_all := rx_inT (i := 443) rfl rfl
theorem rxs_31 : Cond.selects "AngleChains$Deduction" (⟨"AngleChains$Deduction", "triesDiameter", "(I)Z"⟩ : MethodName) (⟨"AngleChains$Deduction", "triesDiameter", "(I)Z"⟩ : MethodName) ∈ rx_all := rx_inS (i := 31) (q := ((⟨"AngleChains$Deduction", "triesDiameter", "(I)Z"⟩ : MethodName), 13)) (by decide +kernel)
set_option maxRecDepth 100000 in
theorem rxw_446 : (Jvm.Cond.instanceMethod ({ cls := "AngleChains$Deduction", name := "triesDiameter", desc := "(I)Z" } : Jvm.MethodName)) ∈ rx_all := rx_inT (i := 446) rfl rfl
set_option maxRecDepth 100000 in
theorem rxw_447 : (Jvm.Cond.code ({ cls := "AngleChains$Deduction", name := "triesDiameter", desc := "(I)Z" } : Jvm.MethodName) prog_3_method_24_code (6 : Nat) (Option.some Jvm.ClassFile.FieldType.boolean)) ∈ rx_all := rx_inT (i := 447) rfl rfl
theorem rxs_32 : Cond.selects "AngleChains$Deduction" (⟨"AngleChains$Deduction", "isMiddle", "(III)Z"⟩ : MethodName) (⟨"AngleChains$Deduction", "isMiddle", "(III)Z"⟩ : MethodName) ∈ rx_all := rx_inS (i := 32) (q := ((⟨"AngleChains$Deduction", "isMiddle", "(III)Z"⟩ : MethodName), 13)) (by decide +kernel)
set_option maxRecDepth 100000 in
theorem rxw_450 : (Jvm.Cond.instanceMethod ({ cls := "AngleChains$Deduction", name := "isMiddle", desc := "(III)Z" } : Jvm.MethodName)) ∈ rx_all := rx_inT (i := 450) rfl rfl
set_option maxRecDepth 100000 in
theorem rxw_451 : (Jvm.Cond.code ({ cls := "AngleChains$Deduction", name := "isMiddle", desc := "(III)Z" } : Jvm.MethodName) prog_3_method_14_code (4 : Nat) (Option.some Jvm.ClassFile.FieldType.boolean)) ∈ rx_all := rx_inT (i := 451) rfl rfl
theorem rxs_33 : Cond.selects "AngleChains$Deduction" (⟨"AngleChains$Deduction", "triesCentre", "(I)Z"⟩ : MethodName) (⟨"AngleChains$Deduction", "triesCentre", "(I)Z"⟩ : MethodName) ∈ rx_all := rx_inS (i := 33) (q := ((⟨"AngleChains$Deduction", "triesCentre", "(I)Z"⟩ : MethodName), 13)) (by decide +kernel)
set_option maxRecDepth 100000 in
theorem rxw_455 : (Jvm.Cond.instanceMethod ({ cls := "AngleChains$Deduction", name := "triesCentre", desc := "(I)Z" } : Jvm.MethodName)) ∈ rx_all := rx_inT (i := 455) rfl rfl
set_option maxRecDepth 100000 in
theorem rxw_456 : (Jvm.Cond.code ({ cls := "AngleChains$Deduction", name := "triesCentre", desc := "(I)Z" } : Jvm.MethodName) prog_3_method_25_code (4 : Nat) (Option.some Jvm.ClassFile.FieldType.boolean)) ∈ rx_all := rx_inT (i := 456) rfl rfl
theorem rxs_34 : Cond.selects "AngleChains$Deduction" (⟨"AngleChains$Deduction", "triesBisector", "(I)Z"⟩ : MethodName) (⟨"AngleChains$Deduction", "triesBisector", "(I)Z"⟩ : MethodName) ∈ rx_all := rx_inS (i := 34) (q := ((⟨"AngleChains$Deduction", "triesBisector", "(I)Z"⟩ : MethodName), 13)) (by decide +kernel)
set_option maxRecDepth 100000 in
theorem rxw_459 : (Jvm.Cond.instanceMethod ({ cls := "AngleChains$Deduction", name := "triesBisector", desc := "(I)Z" } : Jvm.MethodName)) ∈ rx_all := rx_inT (i := 459) rfl rfl
set_option maxRecDepth 100000 in
theorem rxw_460 : (Jvm.Cond.code ({ cls := "AngleChains$Deduction", name := "triesBisector", desc := "(I)Z" } : Jvm.MethodName) prog_3_method_26_code (7 : Nat) (Option.some Jvm.ClassFile.FieldType.boolean)) ∈ rx_all := rx_inT (i := 460) rfl rfl
theorem rxs_35 : Cond.selects "AngleChains$Deduction" (⟨"AngleChains$Deduction", "triesMidline", "(I)Z"⟩ : MethodName) (⟨"AngleChains$Deduction", "triesMidline", "(I)Z"⟩ : MethodName) ∈ rx_all := rx_inS (i := 35) (q := ((⟨"AngleChains$Deduction", "triesMidline", "(I)Z"⟩ : MethodName), 13)) (by decide +kernel)
set_option maxRecDepth 100000 in
theorem rxw_463 : (Jvm.Cond.instanceMethod ({ cls := "AngleChains$Deduction", name := "triesMidline", desc := "(I)Z" } : Jvm.MethodName)) ∈ rx_all := rx_inT (i := 463) rfl rfl
set_option maxRecDepth 100000 in
theorem rxw_464 : (Jvm.Cond.code ({ cls := "AngleChains$Deduction", name := "triesMidline", desc := "(I)Z" } : Jvm.MethodName) prog_3_method_27_code (7 : Nat) (Option.some Jvm.ClassFile.FieldType.boolean)) ∈ rx_all := rx_inT (i := 464) rfl rfl
theorem rxs_36 : Cond.selects "AngleChains$Deduction" (⟨"AngleChains$Deduction", "triesParallelogram", "(I)Z"⟩ : MethodName) (⟨"AngleChains$Deduction", "triesParallelogram", "(I)Z"⟩ : MethodName) ∈ rx_all := rx_inS (i := 36) (q := ((⟨"AngleChains$Deduction", "triesParallelogram", "(I)Z"⟩ : MethodName), 13)) (by decide +kernel)
set_option maxRecDepth 100000 in
theorem rxw_467 : (Jvm.Cond.instanceMethod ({ cls := "AngleChains$Deduction", name := "triesParallelogram", desc := "(I)Z" } : Jvm.MethodName)) ∈ rx_all := rx_inT (i := 467) rfl rfl
set_option maxRecDepth 100000 in
theorem rxw_468 : (Jvm.Cond.code ({ cls := "AngleChains$Deduction", name := "triesParallelogram", desc := "(I)Z" } : Jvm.MethodName) prog_3_method_28_code (6 : Nat) (Option.some Jvm.ClassFile.FieldType.boolean)) ∈ rx_all := rx_inT (i := 468) rfl rfl
set_option maxRecDepth 100000 in
theorem rxw_471 : (Jvm.Cond.selects "AngleChains$Deduction" ({ cls := "AngleChains$Deduction", name := "shows", desc := "(I)Z" } : Jvm.MethodName) ({ cls := "AngleChains$Deduction", name := "shows", desc := "(I)Z" } : Jvm.MethodName)) ∈ rx_all := rx_inT (i := 471) rfl rfl
set_option maxRecDepth 100000 in
theorem rxw_470 : (Jvm.Cond.instanceMethod ({ cls := "AngleChains$Deduction", name := "shows", desc := "(I)Z" } : Jvm.MethodName)) ∈ rx_all := rx_inT (i := 470) rfl rfl
set_option maxRecDepth 100000 in
theorem rxw_472 : (Jvm.Cond.code ({ cls := "AngleChains$Deduction", name := "shows", desc := "(I)Z" } : Jvm.MethodName) prog_3_method_6_code (2 : Nat) (Option.some Jvm.ClassFile.FieldType.boolean)) ∈ rx_all := rx_inT (i := 472) rfl rfl
set_option maxRecDepth 100000 in
theorem rxw_475 : (Jvm.Cond.selects "AngleChains" ({ cls := "AngleChains", name := "needs", desc := "(I)I" } : Jvm.MethodName) ({ cls := "AngleChains", name := "needs", desc := "(I)I" } : Jvm.MethodName)) ∈ rx_all := rx_inT (i := 475) rfl rfl
set_option maxRecDepth 100000 in
theorem rxw_474 : (Jvm.Cond.instanceMethod ({ cls := "AngleChains", name := "needs", desc := "(I)I" } : Jvm.MethodName)) ∈ rx_all := rx_inT (i := 474) rfl rfl
set_option maxRecDepth 100000 in
theorem rxw_476 : (Jvm.Cond.code ({ cls := "AngleChains", name := "needs", desc := "(I)I" } : Jvm.MethodName) prog_1_method_8_code (8 : Nat) (Option.some Jvm.ClassFile.FieldType.int)) ∈ rx_all := rx_inT (i := 476) rfl rfl
set_option maxRecDepth 100000 in
theorem rxw_479 : (Jvm.Cond.selects "AngleChains" ({ cls := "AngleChains", name := "need", desc := "(I)I" } : Jvm.MethodName) ({ cls := "AngleChains", name := "need", desc := "(I)I" } : Jvm.MethodName)) ∈ rx_all := rx_inT (i := 479) rfl rfl
set_option maxRecDepth 100000 in
theorem rxw_478 : (Jvm.Cond.instanceMethod ({ cls := "AngleChains", name := "need", desc := "(I)I" } : Jvm.MethodName)) ∈ rx_all := rx_inT (i := 478) rfl rfl
set_option maxRecDepth 100000 in
theorem rxw_480 : (Jvm.Cond.code ({ cls := "AngleChains", name := "need", desc := "(I)I" } : Jvm.MethodName) prog_1_method_9_code (4 : Nat) (Option.some Jvm.ClassFile.FieldType.int)) ∈ rx_all := rx_inT (i := 480) rfl rfl
set_option maxRecDepth 100000 in
theorem rxw_483 : (Jvm.Cond.selects "AngleChains" ({ cls := "AngleChains", name := "line", desc := "(II)I" } : Jvm.MethodName) ({ cls := "AngleChains", name := "line", desc := "(II)I" } : Jvm.MethodName)) ∈ rx_all := rx_inT (i := 483) rfl rfl
set_option maxRecDepth 100000 in
theorem rxw_482 : (Jvm.Cond.instanceMethod ({ cls := "AngleChains", name := "line", desc := "(II)I" } : Jvm.MethodName)) ∈ rx_all := rx_inT (i := 482) rfl rfl
set_option maxRecDepth 100000 in
theorem rxw_484 : (Jvm.Cond.code ({ cls := "AngleChains", name := "line", desc := "(II)I" } : Jvm.MethodName) prog_1_method_10_code (3 : Nat) (Option.some Jvm.ClassFile.FieldType.int)) ∈ rx_all := rx_inT (i := 484) rfl rfl
set_option maxRecDepth 100000 in
theorem rxw_487 : (Jvm.Cond.selects "AngleChains$Deduction" ({ cls := "AngleChains$Deduction", name := "lineBits", desc := "(II)I" } : Jvm.MethodName) ({ cls := "AngleChains$Deduction", name := "lineBits", desc := "(II)I" } : Jvm.MethodName)) ∈ rx_all := rx_inT (i := 487) rfl rfl
set_option maxRecDepth 100000 in
theorem rxw_486 : (Jvm.Cond.instanceMethod ({ cls := "AngleChains$Deduction", name := "lineBits", desc := "(II)I" } : Jvm.MethodName)) ∈ rx_all := rx_inT (i := 486) rfl rfl
set_option maxRecDepth 100000 in
theorem rxw_488 : (Jvm.Cond.code ({ cls := "AngleChains$Deduction", name := "lineBits", desc := "(II)I" } : Jvm.MethodName) prog_3_method_29_code (3 : Nat) (Option.some Jvm.ClassFile.FieldType.int)) ∈ rx_all := rx_inT (i := 488) rfl rfl
set_option maxRecDepth 100000 in
theorem rxw_491 : (Jvm.Cond.selects "AngleChains" ({ cls := "AngleChains", name := "circle", desc := "(III)I" } : Jvm.MethodName) ({ cls := "AngleChains", name := "circle", desc := "(III)I" } : Jvm.MethodName)) ∈ rx_all := rx_inT (i := 491) rfl rfl
set_option maxRecDepth 100000 in
theorem rxw_490 : (Jvm.Cond.instanceMethod ({ cls := "AngleChains", name := "circle", desc := "(III)I" } : Jvm.MethodName)) ∈ rx_all := rx_inT (i := 490) rfl rfl
set_option maxRecDepth 100000 in
theorem rxw_492 : (Jvm.Cond.code ({ cls := "AngleChains", name := "circle", desc := "(III)I" } : Jvm.MethodName) prog_1_method_11_code (4 : Nat) (Option.some Jvm.ClassFile.FieldType.int)) ∈ rx_all := rx_inT (i := 492) rfl rfl
set_option maxRecDepth 100000 in
theorem rxw_496 : (Jvm.Cond.selects "AngleChains$Deduction" ({ cls := "AngleChains$Deduction", name := "circleBits", desc := "(III)I" } : Jvm.MethodName) ({ cls := "AngleChains$Deduction", name := "circleBits", desc := "(III)I" } : Jvm.MethodName)) ∈ rx_all := rx_inT (i := 496) rfl rfl
set_option maxRecDepth 100000 in
theorem rxw_495 : (Jvm.Cond.instanceMethod ({ cls := "AngleChains$Deduction", name := "circleBits", desc := "(III)I" } : Jvm.MethodName)) ∈ rx_all := rx_inT (i := 495) rfl rfl
set_option maxRecDepth 100000 in
theorem rxw_497 : (Jvm.Cond.code ({ cls := "AngleChains$Deduction", name := "circleBits", desc := "(III)I" } : Jvm.MethodName) prog_3_method_30_code (4 : Nat) (Option.some Jvm.ClassFile.FieldType.int)) ∈ rx_all := rx_inT (i := 497) rfl rfl
set_option maxRecDepth 100000 in
theorem rxw_500 : (Jvm.Cond.selects "AngleChains" ({ cls := "AngleChains", name := "length", desc := "(II)I" } : Jvm.MethodName) ({ cls := "AngleChains", name := "length", desc := "(II)I" } : Jvm.MethodName)) ∈ rx_all := rx_inT (i := 500) rfl rfl
set_option maxRecDepth 100000 in
theorem rxw_499 : (Jvm.Cond.instanceMethod ({ cls := "AngleChains", name := "length", desc := "(II)I" } : Jvm.MethodName)) ∈ rx_all := rx_inT (i := 499) rfl rfl
set_option maxRecDepth 100000 in
theorem rxw_501 : (Jvm.Cond.code ({ cls := "AngleChains", name := "length", desc := "(II)I" } : Jvm.MethodName) prog_1_method_12_code (3 : Nat) (Option.some Jvm.ClassFile.FieldType.int)) ∈ rx_all := rx_inT (i := 501) rfl rfl
set_option maxRecDepth 100000 in
theorem rxw_504 : (Jvm.Cond.selects "AngleChains$Deduction" ({ cls := "AngleChains$Deduction", name := "leastPair", desc := "(II)I" } : Jvm.MethodName) ({ cls := "AngleChains$Deduction", name := "leastPair", desc := "(II)I" } : Jvm.MethodName)) ∈ rx_all := rx_inT (i := 504) rfl rfl
set_option maxRecDepth 100000 in
theorem rxw_503 : (Jvm.Cond.instanceMethod ({ cls := "AngleChains$Deduction", name := "leastPair", desc := "(II)I" } : Jvm.MethodName)) ∈ rx_all := rx_inT (i := 503) rfl rfl
set_option maxRecDepth 100000 in
theorem rxw_505 : (Jvm.Cond.code ({ cls := "AngleChains$Deduction", name := "leastPair", desc := "(II)I" } : Jvm.MethodName) prog_3_method_31_code (6 : Nat) (Option.some Jvm.ClassFile.FieldType.int)) ∈ rx_all := rx_inT (i := 505) rfl rfl
set_option maxRecDepth 100000 in
theorem rxw_508 : (Jvm.Cond.selects "AngleChains" ({ cls := "AngleChains", name := "told", desc := "(I)I" } : Jvm.MethodName) ({ cls := "AngleChains", name := "told", desc := "(I)I" } : Jvm.MethodName)) ∈ rx_all := rx_inT (i := 508) rfl rfl
set_option maxRecDepth 100000 in
theorem rxw_507 : (Jvm.Cond.instanceMethod ({ cls := "AngleChains", name := "told", desc := "(I)I" } : Jvm.MethodName)) ∈ rx_all := rx_inT (i := 507) rfl rfl
set_option maxRecDepth 100000 in
theorem rxw_509 : (Jvm.Cond.code ({ cls := "AngleChains", name := "told", desc := "(I)I" } : Jvm.MethodName) prog_1_method_13_code (2 : Nat) (Option.some Jvm.ClassFile.FieldType.int)) ∈ rx_all := rx_inT (i := 509) rfl rfl
set_option maxRecDepth 100000 in
theorem rxw_512 : (Jvm.Cond.selects "AngleChains$Deduction" ({ cls := "AngleChains$Deduction", name := "countLines", desc := "()I" } : Jvm.MethodName) ({ cls := "AngleChains$Deduction", name := "countLines", desc := "()I" } : Jvm.MethodName)) ∈ rx_all := rx_inT (i := 512) rfl rfl
set_option maxRecDepth 100000 in
theorem rxw_511 : (Jvm.Cond.instanceMethod ({ cls := "AngleChains$Deduction", name := "countLines", desc := "()I" } : Jvm.MethodName)) ∈ rx_all := rx_inT (i := 511) rfl rfl
set_option maxRecDepth 100000 in
theorem rxw_513 : (Jvm.Cond.code ({ cls := "AngleChains$Deduction", name := "countLines", desc := "()I" } : Jvm.MethodName) prog_3_method_33_code (3 : Nat) (Option.some Jvm.ClassFile.FieldType.int)) ∈ rx_all := rx_inT (i := 513) rfl rfl
theorem rxs_37 : Cond.selects "AngleChains$Deduction" (⟨"AngleChains$Deduction", "isThere", "(I)Z"⟩ : MethodName) (⟨"AngleChains$Deduction", "isThere", "(I)Z"⟩ : MethodName) ∈ rx_all := rx_inS (i := 37) (q := ((⟨"AngleChains$Deduction", "isThere", "(I)Z"⟩ : MethodName), 13)) (by decide +kernel)
set_option maxRecDepth 100000 in
theorem rxw_516 : (Jvm.Cond.instanceMethod ({ cls := "AngleChains$Deduction", name := "isThere", desc := "(I)Z" } : Jvm.MethodName)) ∈ rx_all := rx_inT (i := 516) rfl rfl
set_option maxRecDepth 100000 in
theorem rxw_517 : (Jvm.Cond.code ({ cls := "AngleChains$Deduction", name := "isThere", desc := "(I)Z" } : Jvm.MethodName) prog_3_method_32_code (2 : Nat) (Option.some Jvm.ClassFile.FieldType.boolean)) ∈ rx_all := rx_inT (i := 517) rfl rfl
set_option maxRecDepth 100000 in
theorem rxw_520 : (Jvm.Cond.selects "AngleChains$Deduction" ({ cls := "AngleChains$Deduction", name := "countWideCircles", desc := "()I" } : Jvm.MethodName) ({ cls := "AngleChains$Deduction", name := "countWideCircles", desc := "()I" } : Jvm.MethodName)) ∈ rx_all := rx_inT (i := 520) rfl rfl
set_option maxRecDepth 100000 in
theorem rxw_519 : (Jvm.Cond.instanceMethod ({ cls := "AngleChains$Deduction", name := "countWideCircles", desc := "()I" } : Jvm.MethodName)) ∈ rx_all := rx_inT (i := 519) rfl rfl
set_option maxRecDepth 100000 in
theorem rxw_521 : (Jvm.Cond.code ({ cls := "AngleChains$Deduction", name := "countWideCircles", desc := "()I" } : Jvm.MethodName) prog_3_method_35_code (4 : Nat) (Option.some Jvm.ClassFile.FieldType.int)) ∈ rx_all := rx_inT (i := 521) rfl rfl
set_option maxRecDepth 100000 in
theorem rxw_523 : (Jvm.Cond.static ({ cls := "java/lang/Integer", name := "lowestOneBit", desc := "(I)I" } : Jvm.MethodName)) ∈ rx_all := rx_inT (i := 523) rfl rfl
set_option maxRecDepth 100000 in
theorem rxw_524 : (Jvm.Cond.code ({ cls := "java/lang/Integer", name := "lowestOneBit", desc := "(I)I" } : Jvm.MethodName) prog_8_method_46_code (1 : Nat) (Option.some Jvm.ClassFile.FieldType.int)) ∈ rx_all := rx_inT (i := 524) rfl rfl
set_option maxRecDepth 100000 in
theorem rxw_527 : (Jvm.Cond.selects "AngleChains$Deduction" ({ cls := "AngleChains$Deduction", name := "countLengths", desc := "()I" } : Jvm.MethodName) ({ cls := "AngleChains$Deduction", name := "countLengths", desc := "()I" } : Jvm.MethodName)) ∈ rx_all := rx_inT (i := 527) rfl rfl
set_option maxRecDepth 100000 in
theorem rxw_526 : (Jvm.Cond.instanceMethod ({ cls := "AngleChains$Deduction", name := "countLengths", desc := "()I" } : Jvm.MethodName)) ∈ rx_all := rx_inT (i := 526) rfl rfl
set_option maxRecDepth 100000 in
theorem rxw_528 : (Jvm.Cond.code ({ cls := "AngleChains$Deduction", name := "countLengths", desc := "()I" } : Jvm.MethodName) prog_3_method_34_code (3 : Nat) (Option.some Jvm.ClassFile.FieldType.int)) ∈ rx_all := rx_inT (i := 528) rfl rfl
set_option maxRecDepth 100000 in
theorem rxw_531 : (Jvm.Cond.selects "AngleChains$Deduction" ({ cls := "AngleChains$Deduction", name := "countRows", desc := "()I" } : Jvm.MethodName) ({ cls := "AngleChains$Deduction", name := "countRows", desc := "()I" } : Jvm.MethodName)) ∈ rx_all := rx_inT (i := 531) rfl rfl
set_option maxRecDepth 100000 in
theorem rxw_530 : (Jvm.Cond.instanceMethod ({ cls := "AngleChains$Deduction", name := "countRows", desc := "()I" } : Jvm.MethodName)) ∈ rx_all := rx_inT (i := 530) rfl rfl
set_option maxRecDepth 100000 in
theorem rxw_532 : (Jvm.Cond.code ({ cls := "AngleChains$Deduction", name := "countRows", desc := "()I" } : Jvm.MethodName) prog_3_method_36_code (3 : Nat) (Option.some Jvm.ClassFile.FieldType.int)) ∈ rx_all := rx_inT (i := 532) rfl rfl
set_option maxRecDepth 100000 in
theorem rxw_536 : (Jvm.Cond.instanceMethod ({ cls := "AngleChainsModel", name := "<init>", desc := "()V" } : Jvm.MethodName)) ∈ rx_all := rx_inT (i := 536) rfl rfl
set_option maxRecDepth 100000 in
theorem rxw_537 : (Jvm.Cond.code ({ cls := "AngleChainsModel", name := "<init>", desc := "()V" } : Jvm.MethodName) prog_7_method_1_code (1 : Nat) (Option.none : Option Jvm.ClassFile.FieldType)) ∈ rx_all := rx_inT (i := 537) rfl rfl
set_option maxRecDepth 100000 in
theorem rxw_645 : (Jvm.Cond.selects "AngleChainsModel" ({ cls := "AngleChainsModel", name := "point", desc := "(II)I" } : Jvm.MethodName) ({ cls := "AngleChainsModel", name := "point", desc := "(II)I" } : Jvm.MethodName)) ∈ rx_all := rx_inT (i := 645) rfl rfl
set_option maxRecDepth 100000 in
theorem rxw_644 : (Jvm.Cond.instanceMethod ({ cls := "AngleChainsModel", name := "point", desc := "(II)I" } : Jvm.MethodName)) ∈ rx_all := rx_inT (i := 644) rfl rfl
set_option maxRecDepth 100000 in
theorem rxw_646 : (Jvm.Cond.code ({ cls := "AngleChainsModel", name := "point", desc := "(II)I" } : Jvm.MethodName) prog_7_method_12_code (4 : Nat) (Option.some Jvm.ClassFile.FieldType.int)) ∈ rx_all := rx_inT (i := 646) rfl rfl
set_option maxRecDepth 100000 in
theorem rxw_649 : (Jvm.Cond.selects "AngleChainsModel" ({ cls := "AngleChainsModel", name := "of", desc := "(I)I" } : Jvm.MethodName) ({ cls := "AngleChainsModel", name := "of", desc := "(I)I" } : Jvm.MethodName)) ∈ rx_all := rx_inT (i := 649) rfl rfl
set_option maxRecDepth 100000 in
theorem rxw_648 : (Jvm.Cond.instanceMethod ({ cls := "AngleChainsModel", name := "of", desc := "(I)I" } : Jvm.MethodName)) ∈ rx_all := rx_inT (i := 648) rfl rfl
set_option maxRecDepth 100000 in
theorem rxw_650 : (Jvm.Cond.code ({ cls := "AngleChainsModel", name := "of", desc := "(I)I" } : Jvm.MethodName) prog_7_method_13_code (2 : Nat) (Option.some Jvm.ClassFile.FieldType.int)) ∈ rx_all := rx_inT (i := 650) rfl rfl
set_option maxRecDepth 100000 in
theorem rxw_653 : (Jvm.Cond.selects "AngleChainsModel" ({ cls := "AngleChainsModel", name := "isTrue", desc := "(I)I" } : Jvm.MethodName) ({ cls := "AngleChainsModel", name := "isTrue", desc := "(I)I" } : Jvm.MethodName)) ∈ rx_all := rx_inT (i := 653) rfl rfl
set_option maxRecDepth 100000 in
theorem rxw_652 : (Jvm.Cond.instanceMethod ({ cls := "AngleChainsModel", name := "isTrue", desc := "(I)I" } : Jvm.MethodName)) ∈ rx_all := rx_inT (i := 652) rfl rfl
set_option maxRecDepth 100000 in
theorem rxw_654 : (Jvm.Cond.code ({ cls := "AngleChainsModel", name := "isTrue", desc := "(I)I" } : Jvm.MethodName) prog_7_method_14_code (4 : Nat) (Option.some Jvm.ClassFile.FieldType.int)) ∈ rx_all := rx_inT (i := 654) rfl rfl
theorem rxs_38 : Cond.selects "AngleChainsModel" (⟨"AngleChainsModel", "isFact", "(I)Z"⟩ : MethodName) (⟨"AngleChainsModel", "isFact", "(I)Z"⟩ : MethodName) ∈ rx_all := rx_inS (i := 38) (q := ((⟨"AngleChainsModel", "isFact", "(I)Z"⟩ : MethodName), 34)) (by decide +kernel)
set_option maxRecDepth 100000 in
theorem rxw_657 : (Jvm.Cond.instanceMethod ({ cls := "AngleChainsModel", name := "isFact", desc := "(I)Z" } : Jvm.MethodName)) ∈ rx_all := rx_inT (i := 657) rfl rfl
set_option maxRecDepth 100000 in
theorem rxw_658 : (Jvm.Cond.code ({ cls := "AngleChainsModel", name := "isFact", desc := "(I)Z" } : Jvm.MethodName) prog_7_method_11_code (6 : Nat) (Option.some Jvm.ClassFile.FieldType.boolean)) ∈ rx_all := rx_inT (i := 658) rfl rfl
set_option maxRecDepth 100000 in
theorem rxw_660 : (Jvm.Cond.static ({ cls := "AngleChainsModel", name := "pointsOf", desc := "(I)I" } : Jvm.MethodName)) ∈ rx_all := rx_inT (i := 660) rfl rfl
set_option maxRecDepth 100000 in
theorem rxw_661 : (Jvm.Cond.code ({ cls := "AngleChainsModel", name := "pointsOf", desc := "(I)I" } : Jvm.MethodName) prog_7_method_10_code (1 : Nat) (Option.some Jvm.ClassFile.FieldType.int)) ∈ rx_all := rx_inT (i := 661) rfl rfl
theorem rxs_39 : Cond.selects "AngleChainsModel" (⟨"AngleChainsModel", "holds", "(I)Z"⟩ : MethodName) (⟨"AngleChainsModel", "holds", "(I)Z"⟩ : MethodName) ∈ rx_all := rx_inS (i := 39) (q := ((⟨"AngleChainsModel", "holds", "(I)Z"⟩ : MethodName), 34)) (by decide +kernel)
set_option maxRecDepth 100000 in
theorem rxw_664 : (Jvm.Cond.instanceMethod ({ cls := "AngleChainsModel", name := "holds", desc := "(I)Z" } : Jvm.MethodName)) ∈ rx_all := rx_inT (i := 664) rfl rfl
set_option maxRecDepth 100000 in
theorem rxw_665 : (Jvm.Cond.code ({ cls := "AngleChainsModel", name := "holds", desc := "(I)Z" } : Jvm.MethodName) prog_7_method_9_code (2 : Nat) (Option.some Jvm.ClassFile.FieldType.boolean)) ∈ rx_all := rx_inT (i := 665) rfl rfl
theorem rxs_40 : Cond.selects "AngleChainsModel" (⟨"AngleChainsModel", "p", "(I)I"⟩ : MethodName) (⟨"AngleChainsModel", "p", "(I)I"⟩ : MethodName) ∈ rx_all := rx_inS (i := 40) (q := ((⟨"AngleChainsModel", "p", "(I)I"⟩ : MethodName), 34)) (by decide +kernel)
set_option maxRecDepth 100000 in
theorem rxw_668 : (Jvm.Cond.instanceMethod ({ cls := "AngleChainsModel", name := "p", desc := "(I)I" } : Jvm.MethodName)) ∈ rx_all := rx_inT (i := 668) rfl rfl
set_option maxRecDepth 100000 in
theorem rxw_669 : (Jvm.Cond.code ({ cls := "AngleChainsModel", name := "p", desc := "(I)I" } : Jvm.MethodName) prog_7_method_8_code (2 : Nat) (Option.some Jvm.ClassFile.FieldType.int)) ∈ rx_all := rx_inT (i := 669) rfl rfl
theorem rxs_41 : Cond.selects "AngleChainsModel" (⟨"AngleChainsModel", "isProper", "(III)Z"⟩ : MethodName) (⟨"AngleChainsModel", "isProper", "(III)Z"⟩ : MethodName) ∈ rx_all := rx_inS (i := 41) (q := ((⟨"AngleChainsModel", "isProper", "(III)Z"⟩ : MethodName), 34)) (by decide +kernel)
set_option maxRecDepth 100000 in
theorem rxw_672 : (Jvm.Cond.instanceMethod ({ cls := "AngleChainsModel", name := "isProper", desc := "(III)Z" } : Jvm.MethodName)) ∈ rx_all := rx_inT (i := 672) rfl rfl
set_option maxRecDepth 100000 in
theorem rxw_673 : (Jvm.Cond.code ({ cls := "AngleChainsModel", name := "isProper", desc := "(III)Z" } : Jvm.MethodName) prog_7_method_5_code (4 : Nat) (Option.some Jvm.ClassFile.FieldType.boolean)) ∈ rx_all := rx_inT (i := 673) rfl rfl
theorem rxs_42 : Cond.selects "AngleChainsModel" (⟨"AngleChainsModel", "cross", "(IIII)J"⟩ : MethodName) (⟨"AngleChainsModel", "cross", "(IIII)J"⟩ : MethodName) ∈ rx_all := rx_inS (i := 42) (q := ((⟨"AngleChainsModel", "cross", "(IIII)J"⟩ : MethodName), 34)) (by decide +kernel)
set_option maxRecDepth 100000 in
theorem rxw_676 : (Jvm.Cond.instanceMethod ({ cls := "AngleChainsModel", name := "cross", desc := "(IIII)J" } : Jvm.MethodName)) ∈ rx_all := rx_inT (i := 676) rfl rfl
set_option maxRecDepth 100000 in
theorem rxw_677 : (Jvm.Cond.code ({ cls := "AngleChainsModel", name := "cross", desc := "(IIII)J" } : Jvm.MethodName) prog_7_method_3_code (5 : Nat) (Option.some Jvm.ClassFile.FieldType.long)) ∈ rx_all := rx_inT (i := 677) rfl rfl
theorem rxs_43 : Cond.selects "AngleChainsModel" (⟨"AngleChainsModel", "dot", "(IIII)J"⟩ : MethodName) (⟨"AngleChainsModel", "dot", "(IIII)J"⟩ : MethodName) ∈ rx_all := rx_inS (i := 43) (q := ((⟨"AngleChainsModel", "dot", "(IIII)J"⟩ : MethodName), 34)) (by decide +kernel)
set_option maxRecDepth 100000 in
theorem rxw_680 : (Jvm.Cond.instanceMethod ({ cls := "AngleChainsModel", name := "dot", desc := "(IIII)J" } : Jvm.MethodName)) ∈ rx_all := rx_inT (i := 680) rfl rfl
set_option maxRecDepth 100000 in
theorem rxw_681 : (Jvm.Cond.code ({ cls := "AngleChainsModel", name := "dot", desc := "(IIII)J" } : Jvm.MethodName) prog_7_method_4_code (5 : Nat) (Option.some Jvm.ClassFile.FieldType.long)) ∈ rx_all := rx_inT (i := 681) rfl rfl
theorem rxs_44 : Cond.selects "AngleChainsModel" (⟨"AngleChainsModel", "isCircle", "(IIII)Z"⟩ : MethodName) (⟨"AngleChainsModel", "isCircle", "(IIII)Z"⟩ : MethodName) ∈ rx_all := rx_inS (i := 44) (q := ((⟨"AngleChainsModel", "isCircle", "(IIII)Z"⟩ : MethodName), 34)) (by decide +kernel)
set_option maxRecDepth 100000 in
theorem rxw_684 : (Jvm.Cond.instanceMethod ({ cls := "AngleChainsModel", name := "isCircle", desc := "(IIII)Z" } : Jvm.MethodName)) ∈ rx_all := rx_inT (i := 684) rfl rfl
set_option maxRecDepth 100000 in
theorem rxw_685 : (Jvm.Cond.code ({ cls := "AngleChainsModel", name := "isCircle", desc := "(IIII)Z" } : Jvm.MethodName) prog_7_method_6_code (11 : Nat) (Option.some Jvm.ClassFile.FieldType.boolean)) ∈ rx_all := rx_inT (i := 685) rfl rfl
theorem rxs_45 : Cond.selects "AngleChainsModel" (⟨"AngleChainsModel", "isTurn", "(IIIIIIII)Z"⟩ : MethodName) (⟨"AngleChainsModel", "isTurn", "(IIIIIIII)Z"⟩ : MethodName) ∈ rx_all := rx_inS (i := 45) (q := ((⟨"AngleChainsModel", "isTurn", "(IIIIIIII)Z"⟩ : MethodName), 34)) (by decide +kernel)
set_option maxRecDepth 100000 in
theorem rxw_688 : (Jvm.Cond.instanceMethod ({ cls := "AngleChainsModel", name := "isTurn", desc := "(IIIIIIII)Z" } : Jvm.MethodName)) ∈ rx_all := rx_inT (i := 688) rfl rfl
set_option maxRecDepth 100000 in
theorem rxw_689 : (Jvm.Cond.code ({ cls := "AngleChainsModel", name := "isTurn", desc := "(IIIIIIII)Z" } : Jvm.MethodName) prog_7_method_7_code (17 : Nat) (Option.some Jvm.ClassFile.FieldType.boolean)) ∈ rx_all := rx_inT (i := 689) rfl rfl
set_option maxRecDepth 100000 in
theorem rxw_692 : (Jvm.Cond.selects "AngleChainsModel" ({ cls := "AngleChainsModel", name := "fact", desc := "(I)I" } : Jvm.MethodName) ({ cls := "AngleChainsModel", name := "fact", desc := "(I)I" } : Jvm.MethodName)) ∈ rx_all := rx_inT (i := 692) rfl rfl
set_option maxRecDepth 100000 in
theorem rxw_691 : (Jvm.Cond.instanceMethod ({ cls := "AngleChainsModel", name := "fact", desc := "(I)I" } : Jvm.MethodName)) ∈ rx_all := rx_inT (i := 691) rfl rfl
set_option maxRecDepth 100000 in
theorem rxw_693 : (Jvm.Cond.code ({ cls := "AngleChainsModel", name := "fact", desc := "(I)I" } : Jvm.MethodName) prog_7_method_15_code (6 : Nat) (Option.some Jvm.ClassFile.FieldType.int)) ∈ rx_all := rx_inT (i := 693) rfl rfl
set_option maxRecDepth 100000 in
theorem rxw_696 : (Jvm.Cond.selects "AngleChainsModel" ({ cls := "AngleChainsModel", name := "turn", desc := "(IZ)Z" } : Jvm.MethodName) ({ cls := "AngleChainsModel", name := "turn", desc := "(IZ)Z" } : Jvm.MethodName)) ∈ rx_all := rx_inT (i := 696) rfl rfl
set_option maxRecDepth 100000 in
theorem rxw_695 : (Jvm.Cond.instanceMethod ({ cls := "AngleChainsModel", name := "turn", desc := "(IZ)Z" } : Jvm.MethodName)) ∈ rx_all := rx_inT (i := 695) rfl rfl
set_option maxRecDepth 100000 in
theorem rxw_697 : (Jvm.Cond.code ({ cls := "AngleChainsModel", name := "turn", desc := "(IZ)Z" } : Jvm.MethodName) prog_7_method_16_code (3 : Nat) (Option.some Jvm.ClassFile.FieldType.boolean)) ∈ rx_all := rx_inT (i := 697) rfl rfl
set_option maxRecDepth 100000 in
theorem rxw_700 : (Jvm.Cond.selects "AngleChainsModel" ({ cls := "AngleChainsModel", name := "follows", desc := "(I)I" } : Jvm.MethodName) ({ cls := "AngleChainsModel", name := "follows", desc := "(I)I" } : Jvm.MethodName)) ∈ rx_all := rx_inT (i := 700) rfl rfl
set_option maxRecDepth 100000 in
theorem rxw_699 : (Jvm.Cond.instanceMethod ({ cls := "AngleChainsModel", name := "follows", desc := "(I)I" } : Jvm.MethodName)) ∈ rx_all := rx_inT (i := 699) rfl rfl
set_option maxRecDepth 100000 in
theorem rxw_701 : (Jvm.Cond.code ({ cls := "AngleChainsModel", name := "follows", desc := "(I)I" } : Jvm.MethodName) prog_7_method_59_code (5 : Nat) (Option.some Jvm.ClassFile.FieldType.int)) ∈ rx_all := rx_inT (i := 701) rfl rfl
theorem rxs_46 : Cond.selects "AngleChainsModel" (⟨"AngleChainsModel", "refresh", "()V"⟩ : MethodName) (⟨"AngleChainsModel", "refresh", "()V"⟩ : MethodName) ∈ rx_all := rx_inS (i := 46) (q := ((⟨"AngleChainsModel", "refresh", "()V"⟩ : MethodName), 34)) (by decide +kernel)
set_option maxRecDepth 100000 in
theorem rxw_704 : (Jvm.Cond.instanceMethod ({ cls := "AngleChainsModel", name := "refresh", desc := "()V" } : Jvm.MethodName)) ∈ rx_all := rx_inT (i := 704) rfl rfl
set_option maxRecDepth 100000 in
theorem rxw_705 : (Jvm.Cond.code ({ cls := "AngleChainsModel", name := "refresh", desc := "()V" } : Jvm.MethodName) prog_7_method_56_code (2 : Nat) (Option.none : Option Jvm.ClassFile.FieldType)) ∈ rx_all := rx_inT (i := 705) rfl rfl
theorem rxs_47 : Cond.selects "AngleChainsModel" (⟨"AngleChainsModel", "work", "()V"⟩ : MethodName) (⟨"AngleChainsModel", "work", "()V"⟩ : MethodName) ∈ rx_all := rx_inS (i := 47) (q := ((⟨"AngleChainsModel", "work", "()V"⟩ : MethodName), 34)) (by decide +kernel)
set_option maxRecDepth 100000 in
theorem rxw_708 : (Jvm.Cond.instanceMethod ({ cls := "AngleChainsModel", name := "work", desc := "()V" } : Jvm.MethodName)) ∈ rx_all := rx_inT (i := 708) rfl rfl
set_option maxRecDepth 100000 in
theorem rxw_709 : (Jvm.Cond.code ({ cls := "AngleChainsModel", name := "work", desc := "()V" } : Jvm.MethodName) prog_7_method_55_code (1 : Nat) (Option.none : Option Jvm.ClassFile.FieldType)) ∈ rx_all := rx_inT (i := 709) rfl rfl
theorem rxs_48 : Cond.selects "AngleChainsModel" (⟨"AngleChainsModel", "begin", "()V"⟩ : MethodName) (⟨"AngleChainsModel", "begin", "()V"⟩ : MethodName) ∈ rx_all := rx_inS (i := 48) (q := ((⟨"AngleChainsModel", "begin", "()V"⟩ : MethodName), 34)) (by decide +kernel)
set_option maxRecDepth 100000 in
theorem rxw_712 : (Jvm.Cond.instanceMethod ({ cls := "AngleChainsModel", name := "begin", desc := "()V" } : Jvm.MethodName)) ∈ rx_all := rx_inT (i := 712) rfl rfl
set_option maxRecDepth 100000 in
theorem rxw_713 : (Jvm.Cond.code ({ cls := "AngleChainsModel", name := "begin", desc := "()V" } : Jvm.MethodName) prog_7_method_51_code (5 : Nat) (Option.none : Option Jvm.ClassFile.FieldType)) ∈ rx_all := rx_inT (i := 713) rfl rfl
theorem rxs_49 : Cond.selects "AngleChainsModel" (⟨"AngleChainsModel", "numberLines", "()V"⟩ : MethodName) (⟨"AngleChainsModel", "numberLines", "()V"⟩ : MethodName) ∈ rx_all := rx_inS (i := 49) (q := ((⟨"AngleChainsModel", "numberLines", "()V"⟩ : MethodName), 34)) (by decide +kernel)
set_option maxRecDepth 100000 in
theorem rxw_716 : (Jvm.Cond.instanceMethod ({ cls := "AngleChainsModel", name := "numberLines", desc := "()V" } : Jvm.MethodName)) ∈ rx_all := rx_inT (i := 716) rfl rfl
set_option maxRecDepth 100000 in
theorem rxw_717 : (Jvm.Cond.code ({ cls := "AngleChainsModel", name := "numberLines", desc := "()V" } : Jvm.MethodName) prog_7_method_34_code (7 : Nat) (Option.none : Option Jvm.ClassFile.FieldType)) ∈ rx_all := rx_inT (i := 717) rfl rfl
theorem rxs_50 : Cond.selects "AngleChainsModel" (⟨"AngleChainsModel", "lineOf", "(II)I"⟩ : MethodName) (⟨"AngleChainsModel", "lineOf", "(II)I"⟩ : MethodName) ∈ rx_all := rx_inS (i := 50) (q := ((⟨"AngleChainsModel", "lineOf", "(II)I"⟩ : MethodName), 34)) (by decide +kernel)
set_option maxRecDepth 100000 in
theorem rxw_720 : (Jvm.Cond.instanceMethod ({ cls := "AngleChainsModel", name := "lineOf", desc := "(II)I" } : Jvm.MethodName)) ∈ rx_all := rx_inT (i := 720) rfl rfl
set_option maxRecDepth 100000 in
theorem rxw_721 : (Jvm.Cond.code ({ cls := "AngleChainsModel", name := "lineOf", desc := "(II)I" } : Jvm.MethodName) prog_7_method_17_code (3 : Nat) (Option.some Jvm.ClassFile.FieldType.int)) ∈ rx_all := rx_inT (i := 721) rfl rfl
theorem rxs_51 : Cond.selects "AngleChainsModel" (⟨"AngleChainsModel", "startLattice", "()V"⟩ : MethodName) (⟨"AngleChainsModel", "startLattice", "()V"⟩ : MethodName) ∈ rx_all := rx_inS (i := 51) (q := ((⟨"AngleChainsModel", "startLattice", "()V"⟩ : MethodName), 34)) (by decide +kernel)
set_option maxRecDepth 100000 in
theorem rxw_724 : (Jvm.Cond.instanceMethod ({ cls := "AngleChainsModel", name := "startLattice", desc := "()V" } : Jvm.MethodName)) ∈ rx_all := rx_inT (i := 724) rfl rfl
set_option maxRecDepth 100000 in
theorem rxw_725 : (Jvm.Cond.code ({ cls := "AngleChainsModel", name := "startLattice", desc := "()V" } : Jvm.MethodName) prog_7_method_35_code (3 : Nat) (Option.none : Option Jvm.ClassFile.FieldType)) ∈ rx_all := rx_inT (i := 725) rfl rfl
theorem rxs_52 : Cond.selects "AngleChainsModel" (⟨"AngleChainsModel", "lineFacts", "()V"⟩ : MethodName) (⟨"AngleChainsModel", "lineFacts", "()V"⟩ : MethodName) ∈ rx_all := rx_inS (i := 52) (q := ((⟨"AngleChainsModel", "lineFacts", "()V"⟩ : MethodName), 34)) (by decide +kernel)
set_option maxRecDepth 100000 in
theorem rxw_729 : (Jvm.Cond.instanceMethod ({ cls := "AngleChainsModel", name := "lineFacts", desc := "()V" } : Jvm.MethodName)) ∈ rx_all := rx_inT (i := 729) rfl rfl
set_option maxRecDepth 100000 in
theorem rxw_730 : (Jvm.Cond.code ({ cls := "AngleChainsModel", name := "lineFacts", desc := "()V" } : Jvm.MethodName) prog_7_method_53_code (3 : Nat) (Option.none : Option Jvm.ClassFile.FieldType)) ∈ rx_all := rx_inT (i := 730) rfl rfl
theorem rxs_53 : Cond.selects "AngleChainsModel" (⟨"AngleChainsModel", "f", "(II)I"⟩ : MethodName) (⟨"AngleChainsModel", "f", "(II)I"⟩ : MethodName) ∈ rx_all := rx_inS (i := 53) (q := ((⟨"AngleChainsModel", "f", "(II)I"⟩ : MethodName), 34)) (by decide +kernel)
set_option maxRecDepth 100000 in
theorem rxw_733 : (Jvm.Cond.instanceMethod ({ cls := "AngleChainsModel", name := "f", desc := "(II)I" } : Jvm.MethodName)) ∈ rx_all := rx_inT (i := 733) rfl rfl
set_option maxRecDepth 100000 in
theorem rxw_734 : (Jvm.Cond.code ({ cls := "AngleChainsModel", name := "f", desc := "(II)I" } : Jvm.MethodName) prog_7_method_52_code (3 : Nat) (Option.some Jvm.ClassFile.FieldType.int)) ∈ rx_all := rx_inT (i := 734) rfl rfl
theorem rxs_54 : Cond.selects "AngleChainsModel" (⟨"AngleChainsModel", "join", "(I)V"⟩ : MethodName) (⟨"AngleChainsModel", "join", "(I)V"⟩ : MethodName) ∈ rx_all := rx_inS (i := 54) (q := ((⟨"AngleChainsModel", "join", "(I)V"⟩ : MethodName), 34)) (by decide +kernel)
set_option maxRecDepth 100000 in
theorem rxw_737 : (Jvm.Cond.instanceMethod ({ cls := "AngleChainsModel", name := "join", desc := "(I)V" } : Jvm.MethodName)) ∈ rx_all := rx_inT (i := 737) rfl rfl
set_option maxRecDepth 100000 in
theorem rxw_738 : (Jvm.Cond.code ({ cls := "AngleChainsModel", name := "join", desc := "(I)V" } : Jvm.MethodName) prog_7_method_19_code (6 : Nat) (Option.none : Option Jvm.ClassFile.FieldType)) ∈ rx_all := rx_inT (i := 738) rfl rfl
set_option maxRecDepth 100000 in
theorem rxw_740 : (Jvm.Cond.static ({ cls := "AngleChainsModel", name := "has", desc := "(II)Z" } : Jvm.MethodName)) ∈ rx_all := rx_inT (i := 740) rfl rfl
set_option maxRecDepth 100000 in
theorem rxw_741 : (Jvm.Cond.code ({ cls := "AngleChainsModel", name := "has", desc := "(II)Z" } : Jvm.MethodName) prog_7_method_18_code (2 : Nat) (Option.some Jvm.ClassFile.FieldType.boolean)) ∈ rx_all := rx_inT (i := 741) rfl rfl
theorem rxs_55 : Cond.selects "AngleChainsModel" (⟨"AngleChainsModel", "round", "(I)V"⟩ : MethodName) (⟨"AngleChainsModel", "round", "(I)V"⟩ : MethodName) ∈ rx_all := rx_inS (i := 55) (q := ((⟨"AngleChainsModel", "round", "(I)V"⟩ : MethodName), 34)) (by decide +kernel)
set_option maxRecDepth 100000 in
theorem rxw_744 : (Jvm.Cond.instanceMethod ({ cls := "AngleChainsModel", name := "round", desc := "(I)V" } : Jvm.MethodName)) ∈ rx_all := rx_inT (i := 744) rfl rfl
set_option maxRecDepth 100000 in
theorem rxw_745 : (Jvm.Cond.code ({ cls := "AngleChainsModel", name := "round", desc := "(I)V" } : Jvm.MethodName) prog_7_method_21_code (7 : Nat) (Option.none : Option Jvm.ClassFile.FieldType)) ∈ rx_all := rx_inT (i := 745) rfl rfl
theorem rxs_56 : Cond.selects "AngleChainsModel" (⟨"AngleChainsModel", "circleOf", "(III)I"⟩ : MethodName) (⟨"AngleChainsModel", "circleOf", "(III)I"⟩ : MethodName) ∈ rx_all := rx_inS (i := 56) (q := ((⟨"AngleChainsModel", "circleOf", "(III)I"⟩ : MethodName), 34)) (by decide +kernel)
set_option maxRecDepth 100000 in
theorem rxw_748 : (Jvm.Cond.instanceMethod ({ cls := "AngleChainsModel", name := "circleOf", desc := "(III)I" } : Jvm.MethodName)) ∈ rx_all := rx_inT (i := 748) rfl rfl
set_option maxRecDepth 100000 in
theorem rxw_749 : (Jvm.Cond.code ({ cls := "AngleChainsModel", name := "circleOf", desc := "(III)I" } : Jvm.MethodName) prog_7_method_20_code (4 : Nat) (Option.some Jvm.ClassFile.FieldType.int)) ∈ rx_all := rx_inT (i := 749) rfl rfl
theorem rxs_57 : Cond.selects "AngleChainsModel" (⟨"AngleChainsModel", "equal", "(IIII)V"⟩ : MethodName) (⟨"AngleChainsModel", "equal", "(IIII)V"⟩ : MethodName) ∈ rx_all := rx_inS (i := 57) (q := ((⟨"AngleChainsModel", "equal", "(IIII)V"⟩ : MethodName), 34)) (by decide +kernel)
set_option maxRecDepth 100000 in
theorem rxw_752 : (Jvm.Cond.instanceMethod ({ cls := "AngleChainsModel", name := "equal", desc := "(IIII)V" } : Jvm.MethodName)) ∈ rx_all := rx_inT (i := 752) rfl rfl
set_option maxRecDepth 100000 in
theorem rxw_753 : (Jvm.Cond.code ({ cls := "AngleChainsModel", name := "equal", desc := "(IIII)V" } : Jvm.MethodName) prog_7_method_24_code (9 : Nat) (Option.none : Option Jvm.ClassFile.FieldType)) ∈ rx_all := rx_inT (i := 753) rfl rfl
theorem rxs_58 : Cond.selects "AngleChainsModel" (⟨"AngleChainsModel", "lengthOf", "(II)I"⟩ : MethodName) (⟨"AngleChainsModel", "lengthOf", "(II)I"⟩ : MethodName) ∈ rx_all := rx_inS (i := 58) (q := ((⟨"AngleChainsModel", "lengthOf", "(II)I"⟩ : MethodName), 34)) (by decide +kernel)
set_option maxRecDepth 100000 in
theorem rxw_756 : (Jvm.Cond.instanceMethod ({ cls := "AngleChainsModel", name := "lengthOf", desc := "(II)I" } : Jvm.MethodName)) ∈ rx_all := rx_inT (i := 756) rfl rfl
set_option maxRecDepth 100000 in
theorem rxw_757 : (Jvm.Cond.code ({ cls := "AngleChainsModel", name := "lengthOf", desc := "(II)I" } : Jvm.MethodName) prog_7_method_22_code (3 : Nat) (Option.some Jvm.ClassFile.FieldType.int)) ∈ rx_all := rx_inT (i := 757) rfl rfl
theorem rxs_59 : Cond.selects "AngleChainsModel" (⟨"AngleChainsModel", "moveColumns", "()V"⟩ : MethodName) (⟨"AngleChainsModel", "moveColumns", "()V"⟩ : MethodName) ∈ rx_all := rx_inS (i := 59) (q := ((⟨"AngleChainsModel", "moveColumns", "()V"⟩ : MethodName), 34)) (by decide +kernel)
set_option maxRecDepth 100000 in
theorem rxw_760 : (Jvm.Cond.instanceMethod ({ cls := "AngleChainsModel", name := "moveColumns", desc := "()V" } : Jvm.MethodName)) ∈ rx_all := rx_inT (i := 760) rfl rfl
set_option maxRecDepth 100000 in
theorem rxw_761 : (Jvm.Cond.code ({ cls := "AngleChainsModel", name := "moveColumns", desc := "()V" } : Jvm.MethodName) prog_7_method_36_code (3 : Nat) (Option.none : Option Jvm.ClassFile.FieldType)) ∈ rx_all := rx_inT (i := 761) rfl rfl
theorem rxs_60 : Cond.selects "AngleChainsModel" (⟨"AngleChainsModel", "columnOf", "(II)I"⟩ : MethodName) (⟨"AngleChainsModel", "columnOf", "(II)I"⟩ : MethodName) ∈ rx_all := rx_inS (i := 60) (q := ((⟨"AngleChainsModel", "columnOf", "(II)I"⟩ : MethodName), 34)) (by decide +kernel)
set_option maxRecDepth 100000 in
theorem rxw_764 : (Jvm.Cond.instanceMethod ({ cls := "AngleChainsModel", name := "columnOf", desc := "(II)I" } : Jvm.MethodName)) ∈ rx_all := rx_inT (i := 764) rfl rfl
set_option maxRecDepth 100000 in
theorem rxw_765 : (Jvm.Cond.code ({ cls := "AngleChainsModel", name := "columnOf", desc := "(II)I" } : Jvm.MethodName) prog_7_method_31_code (3 : Nat) (Option.some Jvm.ClassFile.FieldType.int)) ∈ rx_all := rx_inT (i := 765) rfl rfl
theorem rxs_61 : Cond.selects "AngleChainsModel" (⟨"AngleChainsModel", "clearRow", "()V"⟩ : MethodName) (⟨"AngleChainsModel", "clearRow", "()V"⟩ : MethodName) ∈ rx_all := rx_inS (i := 61) (q := ((⟨"AngleChainsModel", "clearRow", "()V"⟩ : MethodName), 34)) (by decide +kernel)
set_option maxRecDepth 100000 in
theorem rxw_768 : (Jvm.Cond.instanceMethod ({ cls := "AngleChainsModel", name := "clearRow", desc := "()V" } : Jvm.MethodName)) ∈ rx_all := rx_inT (i := 768) rfl rfl
set_option maxRecDepth 100000 in
theorem rxw_769 : (Jvm.Cond.code ({ cls := "AngleChainsModel", name := "clearRow", desc := "()V" } : Jvm.MethodName) prog_7_method_25_code (2 : Nat) (Option.none : Option Jvm.ClassFile.FieldType)) ∈ rx_all := rx_inT (i := 769) rfl rfl
theorem rxs_62 : Cond.selects "AngleChainsModel" (⟨"AngleChainsModel", "comes", "()Z"⟩ : MethodName) (⟨"AngleChainsModel", "comes", "()Z"⟩ : MethodName) ∈ rx_all := rx_inS (i := 62) (q := ((⟨"AngleChainsModel", "comes", "()Z"⟩ : MethodName), 34)) (by decide +kernel)
set_option maxRecDepth 100000 in
theorem rxw_772 : (Jvm.Cond.instanceMethod ({ cls := "AngleChainsModel", name := "comes", desc := "()Z" } : Jvm.MethodName)) ∈ rx_all := rx_inT (i := 772) rfl rfl
set_option maxRecDepth 100000 in
theorem rxw_773 : (Jvm.Cond.code ({ cls := "AngleChainsModel", name := "comes", desc := "()Z" } : Jvm.MethodName) prog_7_method_28_code (3 : Nat) (Option.some Jvm.ClassFile.FieldType.boolean)) ∈ rx_all := rx_inT (i := 773) rfl rfl
theorem rxs_63 : Cond.selects "AngleChainsModel" (⟨"AngleChainsModel", "reduce", "(I)V"⟩ : MethodName) (⟨"AngleChainsModel", "reduce", "(I)V"⟩ : MethodName) ∈ rx_all := rx_inS (i := 63) (q := ((⟨"AngleChainsModel", "reduce", "(I)V"⟩ : MethodName), 34)) (by decide +kernel)
set_option maxRecDepth 100000 in
theorem rxw_776 : (Jvm.Cond.instanceMethod ({ cls := "AngleChainsModel", name := "reduce", desc := "(I)V" } : Jvm.MethodName)) ∈ rx_all := rx_inT (i := 776) rfl rfl
set_option maxRecDepth 100000 in
theorem rxw_777 : (Jvm.Cond.code ({ cls := "AngleChainsModel", name := "reduce", desc := "(I)V" } : Jvm.MethodName) prog_7_method_27_code (6 : Nat) (Option.none : Option Jvm.ClassFile.FieldType)) ∈ rx_all := rx_inT (i := 777) rfl rfl
set_option maxRecDepth 100000 in
theorem rxw_779 : (Jvm.Cond.static ({ cls := "AngleChainsModel", name := "down", desc := "(JJ)J" } : Jvm.MethodName)) ∈ rx_all := rx_inT (i := 779) rfl rfl
set_option maxRecDepth 100000 in
theorem rxw_780 : (Jvm.Cond.code ({ cls := "AngleChainsModel", name := "down", desc := "(JJ)J" } : Jvm.MethodName) prog_7_method_26_code (6 : Nat) (Option.some Jvm.ClassFile.FieldType.long)) ∈ rx_all := rx_inT (i := 780) rfl rfl
theorem rxs_64 : Cond.selects "AngleChainsModel" (⟨"AngleChainsModel", "layStep", "(I)V"⟩ : MethodName) (⟨"AngleChainsModel", "layStep", "(I)V"⟩ : MethodName) ∈ rx_all := rx_inS (i := 64) (q := ((⟨"AngleChainsModel", "layStep", "(I)V"⟩ : MethodName), 34)) (by decide +kernel)
set_option maxRecDepth 100000 in
theorem rxw_783 : (Jvm.Cond.instanceMethod ({ cls := "AngleChainsModel", name := "layStep", desc := "(I)V" } : Jvm.MethodName)) ∈ rx_all := rx_inT (i := 783) rfl rfl
set_option maxRecDepth 100000 in
theorem rxw_784 : (Jvm.Cond.code ({ cls := "AngleChainsModel", name := "layStep", desc := "(I)V" } : Jvm.MethodName) prog_7_method_29_code (5 : Nat) (Option.none : Option Jvm.ClassFile.FieldType)) ∈ rx_all := rx_inT (i := 784) rfl rfl
theorem rxs_65 : Cond.selects "AngleChainsModel" (⟨"AngleChainsModel", "meet", "(I)V"⟩ : MethodName) (⟨"AngleChainsModel", "meet", "(I)V"⟩ : MethodName) ∈ rx_all := rx_inS (i := 65) (q := ((⟨"AngleChainsModel", "meet", "(I)V"⟩ : MethodName), 34)) (by decide +kernel)
set_option maxRecDepth 100000 in
theorem rxw_788 : (Jvm.Cond.instanceMethod ({ cls := "AngleChainsModel", name := "meet", desc := "(I)V" } : Jvm.MethodName)) ∈ rx_all := rx_inT (i := 788) rfl rfl
set_option maxRecDepth 100000 in
theorem rxw_789 : (Jvm.Cond.code ({ cls := "AngleChainsModel", name := "meet", desc := "(I)V" } : Jvm.MethodName) prog_7_method_30_code (7 : Nat) (Option.none : Option Jvm.ClassFile.FieldType)) ∈ rx_all := rx_inT (i := 789) rfl rfl
theorem rxs_66 : Cond.selects "AngleChainsModel" (⟨"AngleChainsModel", "rowFacts", "()V"⟩ : MethodName) (⟨"AngleChainsModel", "rowFacts", "()V"⟩ : MethodName) ∈ rx_all := rx_inS (i := 66) (q := ((⟨"AngleChainsModel", "rowFacts", "()V"⟩ : MethodName), 34)) (by decide +kernel)
set_option maxRecDepth 100000 in
theorem rxw_792 : (Jvm.Cond.instanceMethod ({ cls := "AngleChainsModel", name := "rowFacts", desc := "()V" } : Jvm.MethodName)) ∈ rx_all := rx_inT (i := 792) rfl rfl
set_option maxRecDepth 100000 in
theorem rxw_793 : (Jvm.Cond.code ({ cls := "AngleChainsModel", name := "rowFacts", desc := "()V" } : Jvm.MethodName) prog_7_method_54_code (3 : Nat) (Option.none : Option Jvm.ClassFile.FieldType)) ∈ rx_all := rx_inT (i := 793) rfl rfl
theorem rxs_67 : Cond.selects "AngleChainsModel" (⟨"AngleChainsModel", "rowOf", "(IIIIJ)V"⟩ : MethodName) (⟨"AngleChainsModel", "rowOf", "(IIIIJ)V"⟩ : MethodName) ∈ rx_all := rx_inS (i := 67) (q := ((⟨"AngleChainsModel", "rowOf", "(IIIIJ)V"⟩ : MethodName), 34)) (by decide +kernel)
set_option maxRecDepth 100000 in
theorem rxw_796 : (Jvm.Cond.instanceMethod ({ cls := "AngleChainsModel", name := "rowOf", desc := "(IIIIJ)V" } : Jvm.MethodName)) ∈ rx_all := rx_inT (i := 796) rfl rfl
set_option maxRecDepth 100000 in
theorem rxw_797 : (Jvm.Cond.code ({ cls := "AngleChainsModel", name := "rowOf", desc := "(IIIIJ)V" } : Jvm.MethodName) prog_7_method_41_code (7 : Nat) (Option.none : Option Jvm.ClassFile.FieldType)) ∈ rx_all := rx_inT (i := 797) rfl rfl
theorem rxs_68 : Cond.selects "AngleChainsModel" (⟨"AngleChainsModel", "put", "(IIJ)V"⟩ : MethodName) (⟨"AngleChainsModel", "put", "(IIJ)V"⟩ : MethodName) ∈ rx_all := rx_inS (i := 68) (q := ((⟨"AngleChainsModel", "put", "(IIJ)V"⟩ : MethodName), 34)) (by decide +kernel)
set_option maxRecDepth 100000 in
theorem rxw_800 : (Jvm.Cond.instanceMethod ({ cls := "AngleChainsModel", name := "put", desc := "(IIJ)V" } : Jvm.MethodName)) ∈ rx_all := rx_inT (i := 800) rfl rfl
set_option maxRecDepth 100000 in
theorem rxw_801 : (Jvm.Cond.code ({ cls := "AngleChainsModel", name := "put", desc := "(IIJ)V" } : Jvm.MethodName) prog_7_method_32_code (5 : Nat) (Option.none : Option Jvm.ClassFile.FieldType)) ∈ rx_all := rx_inT (i := 801) rfl rfl
theorem rxs_69 : Cond.selects "AngleChainsModel" (⟨"AngleChainsModel", "rowComes", "()V"⟩ : MethodName) (⟨"AngleChainsModel", "rowComes", "()V"⟩ : MethodName) ∈ rx_all := rx_inS (i := 69) (q := ((⟨"AngleChainsModel", "rowComes", "()V"⟩ : MethodName), 34)) (by decide +kernel)
set_option maxRecDepth 100000 in
theorem rxw_804 : (Jvm.Cond.instanceMethod ({ cls := "AngleChainsModel", name := "rowComes", desc := "()V" } : Jvm.MethodName)) ∈ rx_all := rx_inT (i := 804) rfl rfl
set_option maxRecDepth 100000 in
theorem rxw_805 : (Jvm.Cond.code ({ cls := "AngleChainsModel", name := "rowComes", desc := "()V" } : Jvm.MethodName) prog_7_method_33_code (1 : Nat) (Option.none : Option Jvm.ClassFile.FieldType)) ∈ rx_all := rx_inT (i := 805) rfl rfl
theorem rxs_70 : Cond.selects "AngleChainsModel" (⟨"AngleChainsModel", "numberAll", "()V"⟩ : MethodName) (⟨"AngleChainsModel", "numberAll", "()V"⟩ : MethodName) ∈ rx_all := rx_inS (i := 70) (q := ((⟨"AngleChainsModel", "numberAll", "()V"⟩ : MethodName), 34)) (by decide +kernel)
set_option maxRecDepth 100000 in
theorem rxw_808 : (Jvm.Cond.instanceMethod ({ cls := "AngleChainsModel", name := "numberAll", desc := "()V" } : Jvm.MethodName)) ∈ rx_all := rx_inT (i := 808) rfl rfl
set_option maxRecDepth 100000 in
theorem rxw_809 : (Jvm.Cond.code ({ cls := "AngleChainsModel", name := "numberAll", desc := "()V" } : Jvm.MethodName) prog_7_method_39_code (4 : Nat) (Option.none : Option Jvm.ClassFile.FieldType)) ∈ rx_all := rx_inT (i := 809) rfl rfl
theorem rxs_71 : Cond.selects "AngleChainsModel" (⟨"AngleChainsModel", "number", "()I"⟩ : MethodName) (⟨"AngleChainsModel", "number", "()I"⟩ : MethodName) ∈ rx_all := rx_inS (i := 71) (q := ((⟨"AngleChainsModel", "number", "()I"⟩ : MethodName), 34)) (by decide +kernel)
set_option maxRecDepth 100000 in
theorem rxw_812 : (Jvm.Cond.instanceMethod ({ cls := "AngleChainsModel", name := "number", desc := "()I" } : Jvm.MethodName)) ∈ rx_all := rx_inT (i := 812) rfl rfl
set_option maxRecDepth 100000 in
theorem rxw_813 : (Jvm.Cond.code ({ cls := "AngleChainsModel", name := "number", desc := "()I" } : Jvm.MethodName) prog_7_method_38_code (5 : Nat) (Option.some Jvm.ClassFile.FieldType.int)) ∈ rx_all := rx_inT (i := 813) rfl rfl
theorem rxs_72 : Cond.selects "AngleChainsModel" (⟨"AngleChainsModel", "isFound", "(I)Z"⟩ : MethodName) (⟨"AngleChainsModel", "isFound", "(I)Z"⟩ : MethodName) ∈ rx_all := rx_inS (i := 72) (q := ((⟨"AngleChainsModel", "isFound", "(I)Z"⟩ : MethodName), 34)) (by decide +kernel)
set_option maxRecDepth 100000 in
theorem rxw_819 : (Jvm.Cond.instanceMethod ({ cls := "AngleChainsModel", name := "isFound", desc := "(I)Z" } : Jvm.MethodName)) ∈ rx_all := rx_inT (i := 819) rfl rfl
set_option maxRecDepth 100000 in
theorem rxw_820 : (Jvm.Cond.code ({ cls := "AngleChainsModel", name := "isFound", desc := "(I)Z" } : Jvm.MethodName) prog_7_method_37_code (4 : Nat) (Option.some Jvm.ClassFile.FieldType.boolean)) ∈ rx_all := rx_inT (i := 820) rfl rfl
theorem rxs_73 : Cond.selects "AngleChainsModel" (⟨"AngleChainsModel", "ruleOne", "()V"⟩ : MethodName) (⟨"AngleChainsModel", "ruleOne", "()V"⟩ : MethodName) ∈ rx_all := rx_inS (i := 73) (q := ((⟨"AngleChainsModel", "ruleOne", "()V"⟩ : MethodName), 34)) (by decide +kernel)
set_option maxRecDepth 100000 in
theorem rxw_823 : (Jvm.Cond.instanceMethod ({ cls := "AngleChainsModel", name := "ruleOne", desc := "()V" } : Jvm.MethodName)) ∈ rx_all := rx_inT (i := 823) rfl rfl
set_option maxRecDepth 100000 in
theorem rxw_824 : (Jvm.Cond.code ({ cls := "AngleChainsModel", name := "ruleOne", desc := "()V" } : Jvm.MethodName) prog_7_method_42_code (4 : Nat) (Option.none : Option Jvm.ClassFile.FieldType)) ∈ rx_all := rx_inT (i := 824) rfl rfl
theorem rxs_74 : Cond.selects "AngleChainsModel" (⟨"AngleChainsModel", "turnOf", "(IIII)I"⟩ : MethodName) (⟨"AngleChainsModel", "turnOf", "(IIII)I"⟩ : MethodName) ∈ rx_all := rx_inS (i := 74) (q := ((⟨"AngleChainsModel", "turnOf", "(IIII)I"⟩ : MethodName), 34)) (by decide +kernel)
set_option maxRecDepth 100000 in
theorem rxw_827 : (Jvm.Cond.instanceMethod ({ cls := "AngleChainsModel", name := "turnOf", desc := "(IIII)I" } : Jvm.MethodName)) ∈ rx_all := rx_inT (i := 827) rfl rfl
set_option maxRecDepth 100000 in
theorem rxw_828 : (Jvm.Cond.code ({ cls := "AngleChainsModel", name := "turnOf", desc := "(IIII)I" } : Jvm.MethodName) prog_7_method_40_code (5 : Nat) (Option.some Jvm.ClassFile.FieldType.int)) ∈ rx_all := rx_inT (i := 828) rfl rfl
theorem rxs_75 : Cond.selects "AngleChainsModel" (⟨"AngleChainsModel", "threes", "()V"⟩ : MethodName) (⟨"AngleChainsModel", "threes", "()V"⟩ : MethodName) ∈ rx_all := rx_inS (i := 75) (q := ((⟨"AngleChainsModel", "threes", "()V"⟩ : MethodName), 34)) (by decide +kernel)
set_option maxRecDepth 100000 in
theorem rxw_831 : (Jvm.Cond.instanceMethod ({ cls := "AngleChainsModel", name := "threes", desc := "()V" } : Jvm.MethodName)) ∈ rx_all := rx_inT (i := 831) rfl rfl
set_option maxRecDepth 100000 in
theorem rxw_832 : (Jvm.Cond.code ({ cls := "AngleChainsModel", name := "threes", desc := "()V" } : Jvm.MethodName) prog_7_method_50_code (5 : Nat) (Option.none : Option Jvm.ClassFile.FieldType)) ∈ rx_all := rx_inT (i := 832) rfl rfl
theorem rxs_76 : Cond.selects "AngleChainsModel" (⟨"AngleChainsModel", "isEqual", "(IIII)Z"⟩ : MethodName) (⟨"AngleChainsModel", "isEqual", "(IIII)Z"⟩ : MethodName) ∈ rx_all := rx_inS (i := 76) (q := ((⟨"AngleChainsModel", "isEqual", "(IIII)Z"⟩ : MethodName), 34)) (by decide +kernel)
set_option maxRecDepth 100000 in
theorem rxw_835 : (Jvm.Cond.instanceMethod ({ cls := "AngleChainsModel", name := "isEqual", desc := "(IIII)Z" } : Jvm.MethodName)) ∈ rx_all := rx_inT (i := 835) rfl rfl
set_option maxRecDepth 100000 in
theorem rxw_836 : (Jvm.Cond.code ({ cls := "AngleChainsModel", name := "isEqual", desc := "(IIII)Z" } : Jvm.MethodName) prog_7_method_23_code (5 : Nat) (Option.some Jvm.ClassFile.FieldType.boolean)) ∈ rx_all := rx_inT (i := 836) rfl rfl
theorem rxs_77 : Cond.selects "AngleChainsModel" (⟨"AngleChainsModel", "fours", "()V"⟩ : MethodName) (⟨"AngleChainsModel", "fours", "()V"⟩ : MethodName) ∈ rx_all := rx_inS (i := 77) (q := ((⟨"AngleChainsModel", "fours", "()V"⟩ : MethodName), 34)) (by decide +kernel)
set_option maxRecDepth 100000 in
theorem rxw_840 : (Jvm.Cond.instanceMethod ({ cls := "AngleChainsModel", name := "fours", desc := "()V" } : Jvm.MethodName)) ∈ rx_all := rx_inT (i := 840) rfl rfl
set_option maxRecDepth 100000 in
theorem rxw_841 : (Jvm.Cond.code ({ cls := "AngleChainsModel", name := "fours", desc := "()V" } : Jvm.MethodName) prog_7_method_49_code (5 : Nat) (Option.none : Option Jvm.ClassFile.FieldType)) ∈ rx_all := rx_inT (i := 841) rfl rfl
theorem rxs_78 : Cond.selects "AngleChainsModel" (⟨"AngleChainsModel", "angles", "(IIII)V"⟩ : MethodName) (⟨"AngleChainsModel", "angles", "(IIII)V"⟩ : MethodName) ∈ rx_all := rx_inS (i := 78) (q := ((⟨"AngleChainsModel", "angles", "(IIII)V"⟩ : MethodName), 34)) (by decide +kernel)
set_option maxRecDepth 100000 in
theorem rxw_844 : (Jvm.Cond.instanceMethod ({ cls := "AngleChainsModel", name := "angles", desc := "(IIII)V" } : Jvm.MethodName)) ∈ rx_all := rx_inT (i := 844) rfl rfl
set_option maxRecDepth 100000 in
theorem rxw_845 : (Jvm.Cond.code ({ cls := "AngleChainsModel", name := "angles", desc := "(IIII)V" } : Jvm.MethodName) prog_7_method_43_code (5 : Nat) (Option.none : Option Jvm.ClassFile.FieldType)) ∈ rx_all := rx_inT (i := 845) rfl rfl
theorem rxs_79 : Cond.selects "AngleChainsModel" (⟨"AngleChainsModel", "parallels", "(IIII)V"⟩ : MethodName) (⟨"AngleChainsModel", "parallels", "(IIII)V"⟩ : MethodName) ∈ rx_all := rx_inS (i := 79) (q := ((⟨"AngleChainsModel", "parallels", "(IIII)V"⟩ : MethodName), 34)) (by decide +kernel)
set_option maxRecDepth 100000 in
theorem rxw_848 : (Jvm.Cond.instanceMethod ({ cls := "AngleChainsModel", name := "parallels", desc := "(IIII)V" } : Jvm.MethodName)) ∈ rx_all := rx_inT (i := 848) rfl rfl
set_option maxRecDepth 100000 in
theorem rxw_849 : (Jvm.Cond.code ({ cls := "AngleChainsModel", name := "parallels", desc := "(IIII)V" } : Jvm.MethodName) prog_7_method_44_code (5 : Nat) (Option.none : Option Jvm.ClassFile.FieldType)) ∈ rx_all := rx_inT (i := 849) rfl rfl
theorem rxs_80 : Cond.selects "AngleChainsModel" (⟨"AngleChainsModel", "perpendiculars", "(IIII)V"⟩ : MethodName) (⟨"AngleChainsModel", "perpendiculars", "(IIII)V"⟩ : MethodName) ∈ rx_all := rx_inS (i := 80) (q := ((⟨"AngleChainsModel", "perpendiculars", "(IIII)V"⟩ : MethodName), 34)) (by decide +kernel)
set_option maxRecDepth 100000 in
theorem rxw_852 : (Jvm.Cond.instanceMethod ({ cls := "AngleChainsModel", name := "perpendiculars", desc := "(IIII)V" } : Jvm.MethodName)) ∈ rx_all := rx_inT (i := 852) rfl rfl
set_option maxRecDepth 100000 in
theorem rxw_853 : (Jvm.Cond.code ({ cls := "AngleChainsModel", name := "perpendiculars", desc := "(IIII)V" } : Jvm.MethodName) prog_7_method_45_code (5 : Nat) (Option.none : Option Jvm.ClassFile.FieldType)) ∈ rx_all := rx_inT (i := 853) rfl rfl
theorem rxs_81 : Cond.selects "AngleChainsModel" (⟨"AngleChainsModel", "halves", "(IIII)V"⟩ : MethodName) (⟨"AngleChainsModel", "halves", "(IIII)V"⟩ : MethodName) ∈ rx_all := rx_inS (i := 81) (q := ((⟨"AngleChainsModel", "halves", "(IIII)V"⟩ : MethodName), 34)) (by decide +kernel)
set_option maxRecDepth 100000 in
theorem rxw_856 : (Jvm.Cond.instanceMethod ({ cls := "AngleChainsModel", name := "halves", desc := "(IIII)V" } : Jvm.MethodName)) ∈ rx_all := rx_inT (i := 856) rfl rfl
set_option maxRecDepth 100000 in
theorem rxw_857 : (Jvm.Cond.code ({ cls := "AngleChainsModel", name := "halves", desc := "(IIII)V" } : Jvm.MethodName) prog_7_method_46_code (5 : Nat) (Option.none : Option Jvm.ClassFile.FieldType)) ∈ rx_all := rx_inT (i := 857) rfl rfl
theorem rxs_82 : Cond.selects "AngleChainsModel" (⟨"AngleChainsModel", "middles", "(IIII)V"⟩ : MethodName) (⟨"AngleChainsModel", "middles", "(IIII)V"⟩ : MethodName) ∈ rx_all := rx_inS (i := 82) (q := ((⟨"AngleChainsModel", "middles", "(IIII)V"⟩ : MethodName), 34)) (by decide +kernel)
set_option maxRecDepth 100000 in
theorem rxw_860 : (Jvm.Cond.instanceMethod ({ cls := "AngleChainsModel", name := "middles", desc := "(IIII)V" } : Jvm.MethodName)) ∈ rx_all := rx_inT (i := 860) rfl rfl
set_option maxRecDepth 100000 in
theorem rxw_861 : (Jvm.Cond.code ({ cls := "AngleChainsModel", name := "middles", desc := "(IIII)V" } : Jvm.MethodName) prog_7_method_47_code (6 : Nat) (Option.none : Option Jvm.ClassFile.FieldType)) ∈ rx_all := rx_inT (i := 861) rfl rfl
theorem rxs_83 : Cond.selects "AngleChainsModel" (⟨"AngleChainsModel", "wheels", "(IIII)V"⟩ : MethodName) (⟨"AngleChainsModel", "wheels", "(IIII)V"⟩ : MethodName) ∈ rx_all := rx_inS (i := 83) (q := ((⟨"AngleChainsModel", "wheels", "(IIII)V"⟩ : MethodName), 34)) (by decide +kernel)
set_option maxRecDepth 100000 in
theorem rxw_864 : (Jvm.Cond.instanceMethod ({ cls := "AngleChainsModel", name := "wheels", desc := "(IIII)V" } : Jvm.MethodName)) ∈ rx_all := rx_inT (i := 864) rfl rfl
set_option maxRecDepth 100000 in
theorem rxw_865 : (Jvm.Cond.code ({ cls := "AngleChainsModel", name := "wheels", desc := "(IIII)V" } : Jvm.MethodName) prog_7_method_48_code (6 : Nat) (Option.none : Option Jvm.ClassFile.FieldType)) ∈ rx_all := rx_inT (i := 865) rfl rfl
theorem rxs_84 : Cond.selects "AngleChainsModel" (⟨"AngleChainsModel", "follow", "(I)Z"⟩ : MethodName) (⟨"AngleChainsModel", "follow", "(I)Z"⟩ : MethodName) ∈ rx_all := rx_inS (i := 84) (q := ((⟨"AngleChainsModel", "follow", "(I)Z"⟩ : MethodName), 34)) (by decide +kernel)
set_option maxRecDepth 100000 in
theorem rxw_868 : (Jvm.Cond.instanceMethod ({ cls := "AngleChainsModel", name := "follow", desc := "(I)Z" } : Jvm.MethodName)) ∈ rx_all := rx_inT (i := 868) rfl rfl
set_option maxRecDepth 100000 in
theorem rxw_869 : (Jvm.Cond.code ({ cls := "AngleChainsModel", name := "follow", desc := "(I)Z" } : Jvm.MethodName) prog_7_method_58_code (2 : Nat) (Option.some Jvm.ClassFile.FieldType.boolean)) ∈ rx_all := rx_inT (i := 869) rfl rfl
theorem rxs_85 : Cond.selects "AngleChainsModel" (⟨"AngleChainsModel", "rowFollows", "()Z"⟩ : MethodName) (⟨"AngleChainsModel", "rowFollows", "()Z"⟩ : MethodName) ∈ rx_all := rx_inS (i := 85) (q := ((⟨"AngleChainsModel", "rowFollows", "()Z"⟩ : MethodName), 34)) (by decide +kernel)
set_option maxRecDepth 100000 in
theorem rxw_872 : (Jvm.Cond.instanceMethod ({ cls := "AngleChainsModel", name := "rowFollows", desc := "()Z" } : Jvm.MethodName)) ∈ rx_all := rx_inT (i := 872) rfl rfl
set_option maxRecDepth 100000 in
theorem rxw_873 : (Jvm.Cond.code ({ cls := "AngleChainsModel", name := "rowFollows", desc := "()Z" } : Jvm.MethodName) prog_7_method_57_code (3 : Nat) (Option.some Jvm.ClassFile.FieldType.boolean)) ∈ rx_all := rx_inT (i := 873) rfl rfl
set_option maxRecDepth 100000 in
theorem rxw_876 : (Jvm.Cond.selects "AngleChainsModel" ({ cls := "AngleChainsModel", name := "needs", desc := "(I)I" } : Jvm.MethodName) ({ cls := "AngleChainsModel", name := "needs", desc := "(I)I" } : Jvm.MethodName)) ∈ rx_all := rx_inT (i := 876) rfl rfl
set_option maxRecDepth 100000 in
theorem rxw_875 : (Jvm.Cond.instanceMethod ({ cls := "AngleChainsModel", name := "needs", desc := "(I)I" } : Jvm.MethodName)) ∈ rx_all := rx_inT (i := 875) rfl rfl
set_option maxRecDepth 100000 in
theorem rxw_877 : (Jvm.Cond.code ({ cls := "AngleChainsModel", name := "needs", desc := "(I)I" } : Jvm.MethodName) prog_7_method_60_code (6 : Nat) (Option.some Jvm.ClassFile.FieldType.int)) ∈ rx_all := rx_inT (i := 877) rfl rfl
set_option maxRecDepth 100000 in
theorem rxw_880 : (Jvm.Cond.selects "AngleChainsModel" ({ cls := "AngleChainsModel", name := "need", desc := "(I)I" } : Jvm.MethodName) ({ cls := "AngleChainsModel", name := "need", desc := "(I)I" } : Jvm.MethodName)) ∈ rx_all := rx_inT (i := 880) rfl rfl
set_option maxRecDepth 100000 in
theorem rxw_879 : (Jvm.Cond.instanceMethod ({ cls := "AngleChainsModel", name := "need", desc := "(I)I" } : Jvm.MethodName)) ∈ rx_all := rx_inT (i := 879) rfl rfl
set_option maxRecDepth 100000 in
theorem rxw_881 : (Jvm.Cond.code ({ cls := "AngleChainsModel", name := "need", desc := "(I)I" } : Jvm.MethodName) prog_7_method_61_code (2 : Nat) (Option.some Jvm.ClassFile.FieldType.int)) ∈ rx_all := rx_inT (i := 881) rfl rfl
set_option maxRecDepth 100000 in
theorem rxw_884 : (Jvm.Cond.selects "AngleChainsModel" ({ cls := "AngleChainsModel", name := "line", desc := "(II)I" } : Jvm.MethodName) ({ cls := "AngleChainsModel", name := "line", desc := "(II)I" } : Jvm.MethodName)) ∈ rx_all := rx_inT (i := 884) rfl rfl
set_option maxRecDepth 100000 in
theorem rxw_883 : (Jvm.Cond.instanceMethod ({ cls := "AngleChainsModel", name := "line", desc := "(II)I" } : Jvm.MethodName)) ∈ rx_all := rx_inT (i := 883) rfl rfl
set_option maxRecDepth 100000 in
theorem rxw_885 : (Jvm.Cond.code ({ cls := "AngleChainsModel", name := "line", desc := "(II)I" } : Jvm.MethodName) prog_7_method_63_code (3 : Nat) (Option.some Jvm.ClassFile.FieldType.int)) ∈ rx_all := rx_inT (i := 885) rfl rfl
theorem rxs_86 : Cond.selects "AngleChainsModel" (⟨"AngleChainsModel", "noPoint", "(I)Z"⟩ : MethodName) (⟨"AngleChainsModel", "noPoint", "(I)Z"⟩ : MethodName) ∈ rx_all := rx_inS (i := 86) (q := ((⟨"AngleChainsModel", "noPoint", "(I)Z"⟩ : MethodName), 34)) (by decide +kernel)
set_option maxRecDepth 100000 in
theorem rxw_888 : (Jvm.Cond.instanceMethod ({ cls := "AngleChainsModel", name := "noPoint", desc := "(I)Z" } : Jvm.MethodName)) ∈ rx_all := rx_inT (i := 888) rfl rfl
set_option maxRecDepth 100000 in
theorem rxw_889 : (Jvm.Cond.code ({ cls := "AngleChainsModel", name := "noPoint", desc := "(I)Z" } : Jvm.MethodName) prog_7_method_62_code (2 : Nat) (Option.some Jvm.ClassFile.FieldType.boolean)) ∈ rx_all := rx_inT (i := 889) rfl rfl
set_option maxRecDepth 100000 in
theorem rxw_892 : (Jvm.Cond.selects "AngleChainsModel" ({ cls := "AngleChainsModel", name := "circle", desc := "(III)I" } : Jvm.MethodName) ({ cls := "AngleChainsModel", name := "circle", desc := "(III)I" } : Jvm.MethodName)) ∈ rx_all := rx_inT (i := 892) rfl rfl
set_option maxRecDepth 100000 in
theorem rxw_891 : (Jvm.Cond.instanceMethod ({ cls := "AngleChainsModel", name := "circle", desc := "(III)I" } : Jvm.MethodName)) ∈ rx_all := rx_inT (i := 891) rfl rfl
set_option maxRecDepth 100000 in
theorem rxw_893 : (Jvm.Cond.code ({ cls := "AngleChainsModel", name := "circle", desc := "(III)I" } : Jvm.MethodName) prog_7_method_64_code (4 : Nat) (Option.some Jvm.ClassFile.FieldType.int)) ∈ rx_all := rx_inT (i := 893) rfl rfl
set_option maxRecDepth 100000 in
theorem rxw_896 : (Jvm.Cond.selects "AngleChainsModel" ({ cls := "AngleChainsModel", name := "length", desc := "(II)I" } : Jvm.MethodName) ({ cls := "AngleChainsModel", name := "length", desc := "(II)I" } : Jvm.MethodName)) ∈ rx_all := rx_inT (i := 896) rfl rfl
set_option maxRecDepth 100000 in
theorem rxw_895 : (Jvm.Cond.instanceMethod ({ cls := "AngleChainsModel", name := "length", desc := "(II)I" } : Jvm.MethodName)) ∈ rx_all := rx_inT (i := 895) rfl rfl
set_option maxRecDepth 100000 in
theorem rxw_897 : (Jvm.Cond.code ({ cls := "AngleChainsModel", name := "length", desc := "(II)I" } : Jvm.MethodName) prog_7_method_65_code (3 : Nat) (Option.some Jvm.ClassFile.FieldType.int)) ∈ rx_all := rx_inT (i := 897) rfl rfl
set_option maxRecDepth 100000 in
theorem rxw_900 : (Jvm.Cond.selects "AngleChainsModel" ({ cls := "AngleChainsModel", name := "told", desc := "(I)I" } : Jvm.MethodName) ({ cls := "AngleChainsModel", name := "told", desc := "(I)I" } : Jvm.MethodName)) ∈ rx_all := rx_inT (i := 900) rfl rfl
set_option maxRecDepth 100000 in
theorem rxw_899 : (Jvm.Cond.instanceMethod ({ cls := "AngleChainsModel", name := "told", desc := "(I)I" } : Jvm.MethodName)) ∈ rx_all := rx_inT (i := 899) rfl rfl
set_option maxRecDepth 100000 in
theorem rxw_901 : (Jvm.Cond.code ({ cls := "AngleChainsModel", name := "told", desc := "(I)I" } : Jvm.MethodName) prog_7_method_69_code (5 : Nat) (Option.some Jvm.ClassFile.FieldType.int)) ∈ rx_all := rx_inT (i := 901) rfl rfl
theorem rxs_87 : Cond.selects "AngleChainsModel" (⟨"AngleChainsModel", "circles", "()I"⟩ : MethodName) (⟨"AngleChainsModel", "circles", "()I"⟩ : MethodName) ∈ rx_all := rx_inS (i := 87) (q := ((⟨"AngleChainsModel", "circles", "()I"⟩ : MethodName), 34)) (by decide +kernel)
set_option maxRecDepth 100000 in
theorem rxw_904 : (Jvm.Cond.instanceMethod ({ cls := "AngleChainsModel", name := "circles", desc := "()I" } : Jvm.MethodName)) ∈ rx_all := rx_inT (i := 904) rfl rfl
set_option maxRecDepth 100000 in
theorem rxw_905 : (Jvm.Cond.code ({ cls := "AngleChainsModel", name := "circles", desc := "()I" } : Jvm.MethodName) prog_7_method_67_code (8 : Nat) (Option.some Jvm.ClassFile.FieldType.int)) ∈ rx_all := rx_inT (i := 905) rfl rfl
set_option maxRecDepth 100000 in
theorem rxw_907 : (Jvm.Cond.static ({ cls := "AngleChainsModel", name := "many", desc := "(I)I" } : Jvm.MethodName)) ∈ rx_all := rx_inT (i := 907) rfl rfl
set_option maxRecDepth 100000 in
theorem rxw_908 : (Jvm.Cond.code ({ cls := "AngleChainsModel", name := "many", desc := "(I)I" } : Jvm.MethodName) prog_7_method_66_code (3 : Nat) (Option.some Jvm.ClassFile.FieldType.int)) ∈ rx_all := rx_inT (i := 908) rfl rfl
theorem rxs_88 : Cond.selects "AngleChainsModel" (⟨"AngleChainsModel", "lengths", "()I"⟩ : MethodName) (⟨"AngleChainsModel", "lengths", "()I"⟩ : MethodName) ∈ rx_all := rx_inS (i := 88) (q := ((⟨"AngleChainsModel", "lengths", "()I"⟩ : MethodName), 34)) (by decide +kernel)
set_option maxRecDepth 100000 in
theorem rxw_911 : (Jvm.Cond.instanceMethod ({ cls := "AngleChainsModel", name := "lengths", desc := "()I" } : Jvm.MethodName)) ∈ rx_all := rx_inT (i := 911) rfl rfl
set_option maxRecDepth 100000 in
theorem rxw_912 : (Jvm.Cond.code ({ cls := "AngleChainsModel", name := "lengths", desc := "()I" } : Jvm.MethodName) prog_7_method_68_code (4 : Nat) (Option.some Jvm.ClassFile.FieldType.int)) ∈ rx_all := rx_inT (i := 912) rfl rfl
set_option maxRecDepth 100000 in
theorem rxw_11 : (Jvm.Cond.classLink "AngleChainsLaw" (7 : Nat) "AngleChains") ∈ rx_all := rx_inT (i := 11) rfl rfl
set_option maxRecDepth 100000 in
theorem rxw_13 : (Jvm.Cond.methodLink "AngleChainsLaw" (9 : Nat) ({ cls := "AngleChains", name := "<init>", desc := "()V" } : Jvm.MethodName)) ∈ rx_all := rx_inT (i := 13) rfl rfl
set_option maxRecDepth 100000 in
theorem rxw_19 : (Jvm.Cond.classLink "AngleChains" (7 : Nat) "AngleChains$Figure") ∈ rx_all := rx_inT (i := 19) rfl rfl
set_option maxRecDepth 100000 in
theorem rxn_21 : (Jvm.Cond.methodLinkNest "AngleChains" (9 : Nat) ({ cls := "AngleChains$Figure", name := "<init>", desc := "()V" } : Jvm.MethodName) "AngleChains") ∈ rx_nst := rx_inN (i := 21) rfl rfl
set_option maxRecDepth 100000 in
theorem rxw_25 : (Jvm.Cond.fieldLink "AngleChains$Figure" (9 : Nat) "AngleChains$Figure" "xs" "[I") ∈ rx_all := rx_inT (i := 25) rfl rfl
set_option maxRecDepth 100000 in
theorem rxw_26 : (Jvm.Cond.fieldLink "AngleChains$Figure" (15 : Nat) "AngleChains$Figure" "ys" "[I") ∈ rx_all := rx_inT (i := 26) rfl rfl
set_option maxRecDepth 100000 in
theorem rxw_27 : (Jvm.Cond.fieldLink "AngleChains$Figure" (18 : Nat) "AngleChains$Figure" "size" "I") ∈ rx_all := rx_inT (i := 27) rfl rfl
set_option maxRecDepth 100000 in
theorem rxn_28 : (Jvm.Cond.fieldLinkNest "AngleChains$Deduction" (54 : Nat) "AngleChains$Figure" "size" "I" "AngleChains") ∈ rx_nst := rx_inN (i := 28) rfl rfl
set_option maxRecDepth 100000 in
theorem rxn_29 : (Jvm.Cond.fieldLinkNest "AngleChains$Cases" (23 : Nat) "AngleChains$Figure" "size" "I" "AngleChains") ∈ rx_nst := rx_inN (i := 29) rfl rfl
set_option maxRecDepth 100000 in
theorem rxn_30 : (Jvm.Cond.fieldLinkNest "AngleChains" (90 : Nat) "AngleChains$Figure" "size" "I" "AngleChains") ∈ rx_nst := rx_inN (i := 30) rfl rfl
set_option maxRecDepth 100000 in
theorem rxw_39 : (Jvm.Cond.classLink "AngleChains" (20 : Nat) "AngleChains$Deduction") ∈ rx_all := rx_inT (i := 39) rfl rfl
set_option maxRecDepth 100000 in
theorem rxw_41 : (Jvm.Cond.methodLink "AngleChains" (22 : Nat) ({ cls := "AngleChains$Deduction", name := "<init>", desc := "(LAngleChains$Figure;[I)V" } : Jvm.MethodName)) ∈ rx_all := rx_inT (i := 41) rfl rfl
set_option maxRecDepth 100000 in
theorem rxw_45 : (Jvm.Cond.classLink "AngleChains$Deduction" (9 : Nat) "AngleChains$Rows") ∈ rx_all := rx_inT (i := 45) rfl rfl
set_option maxRecDepth 100000 in
theorem rxn_47 : (Jvm.Cond.methodLinkNest "AngleChains$Deduction" (11 : Nat) ({ cls := "AngleChains$Rows", name := "<init>", desc := "()V" } : Jvm.MethodName) "AngleChains") ∈ rx_nst := rx_inN (i := 47) rfl rfl
set_option maxRecDepth 100000 in
theorem rxw_53 : (Jvm.Cond.fieldLink "AngleChains$Rows" (11 : Nat) "AngleChains$Rows" "basis" "[[J") ∈ rx_all := rx_inT (i := 53) rfl rfl
set_option maxRecDepth 100000 in
theorem rxw_54 : (Jvm.Cond.fieldLink "AngleChains$Rows" (16 : Nat) "AngleChains$Rows" "row" "[J") ∈ rx_all := rx_inT (i := 54) rfl rfl
set_option maxRecDepth 100000 in
theorem rxw_55 : (Jvm.Cond.fieldLink "AngleChains$Rows" (20 : Nat) "AngleChains$Rows" "rank" "I") ∈ rx_all := rx_inT (i := 55) rfl rfl
set_option maxRecDepth 100000 in
theorem rxn_56 : (Jvm.Cond.fieldLinkNest "AngleChains$Deduction" (237 : Nat) "AngleChains$Rows" "rank" "I" "AngleChains") ∈ rx_nst := rx_inN (i := 56) rfl rfl
set_option maxRecDepth 100000 in
theorem rxn_57 : (Jvm.Cond.fieldLinkNest "AngleChains$Deduction" (76 : Nat) "AngleChains$Rows" "hasGrown" "Z" "AngleChains") ∈ rx_nst := rx_inN (i := 57) rfl rfl
set_option maxRecDepth 100000 in
theorem rxw_58 : (Jvm.Cond.fieldLink "AngleChains$Rows" (42 : Nat) "AngleChains$Rows" "hasGrown" "Z") ∈ rx_all := rx_inT (i := 58) rfl rfl
set_option maxRecDepth 100000 in
theorem rxw_69 : (Jvm.Cond.classLink "AngleChains$Deduction" (31 : Nat) "AngleChains$Cases") ∈ rx_all := rx_inT (i := 69) rfl rfl
set_option maxRecDepth 100000 in
theorem rxw_71 : (Jvm.Cond.methodLink "AngleChains$Deduction" (47 : Nat) ({ cls := "AngleChains$Cases", name := "<init>", desc := "(LAngleChains$Figure;)V" } : Jvm.MethodName)) ∈ rx_all := rx_inT (i := 71) rfl rfl
set_option maxRecDepth 100000 in
theorem rxw_75 : (Jvm.Cond.fieldLink "AngleChains$Cases" (15 : Nat) "AngleChains$Cases" "figure" "LAngleChains$Figure;") ∈ rx_all := rx_inT (i := 75) rfl rfl
set_option maxRecDepth 100000 in
theorem rxw_76 : (Jvm.Cond.fieldLink "AngleChains$Cases" (11 : Nat) "AngleChains$Cases" "packed" "[I") ∈ rx_all := rx_inT (i := 76) rfl rfl
set_option maxRecDepth 100000 in
theorem rxn_77 : (Jvm.Cond.fieldLinkNest "AngleChains$Deduction" (101 : Nat) "AngleChains$Cases" "packed" "[I" "AngleChains") ∈ rx_nst := rx_inN (i := 77) rfl rfl
set_option maxRecDepth 100000 in
theorem rxw_78 : (Jvm.Cond.fieldLink "AngleChains$Cases" (19 : Nat) "AngleChains$Cases" "count" "I") ∈ rx_all := rx_inT (i := 78) rfl rfl
set_option maxRecDepth 100000 in
theorem rxn_79 : (Jvm.Cond.fieldLinkNest "AngleChains$Deduction" (98 : Nat) "AngleChains$Cases" "count" "I" "AngleChains") ∈ rx_nst := rx_inN (i := 79) rfl rfl
set_option maxRecDepth 100000 in
theorem rxw_87 : (Jvm.Cond.fieldLink "AngleChains$Deduction" (40 : Nat) "AngleChains$Deduction" "figure" "LAngleChains$Figure;") ∈ rx_all := rx_inT (i := 87) rfl rfl
set_option maxRecDepth 100000 in
theorem rxw_88 : (Jvm.Cond.fieldLink "AngleChains$Deduction" (44 : Nat) "AngleChains$Deduction" "hypotheses" "[I") ∈ rx_all := rx_inT (i := 88) rfl rfl
set_option maxRecDepth 100000 in
theorem rxw_89 : (Jvm.Cond.fieldLink "AngleChains$Deduction" (50 : Nat) "AngleChains$Deduction" "cases" "LAngleChains$Cases;") ∈ rx_all := rx_inT (i := 89) rfl rfl
set_option maxRecDepth 100000 in
theorem rxw_90 : (Jvm.Cond.fieldLink "AngleChains$Deduction" (12 : Nat) "AngleChains$Deduction" "rows" "LAngleChains$Rows;") ∈ rx_all := rx_inT (i := 90) rfl rfl
set_option maxRecDepth 100000 in
theorem rxw_91 : (Jvm.Cond.fieldLink "AngleChains$Deduction" (18 : Nat) "AngleChains$Deduction" "lineOf" "[I") ∈ rx_all := rx_inT (i := 91) rfl rfl
set_option maxRecDepth 100000 in
theorem rxw_92 : (Jvm.Cond.fieldLink "AngleChains$Deduction" (22 : Nat) "AngleChains$Deduction" "columnOf" "[I") ∈ rx_all := rx_inT (i := 92) rfl rfl
set_option maxRecDepth 100000 in
theorem rxw_93 : (Jvm.Cond.fieldLink "AngleChains$Deduction" (25 : Nat) "AngleChains$Deduction" "lengthOf" "[I") ∈ rx_all := rx_inT (i := 93) rfl rfl
set_option maxRecDepth 100000 in
theorem rxw_94 : (Jvm.Cond.fieldLink "AngleChains$Deduction" (28 : Nat) "AngleChains$Deduction" "circleOf" "[I") ∈ rx_all := rx_inT (i := 94) rfl rfl
set_option maxRecDepth 100000 in
theorem rxw_95 : (Jvm.Cond.fieldLink "AngleChains$Deduction" (33 : Nat) "AngleChains$Deduction" "open" "[I") ∈ rx_all := rx_inT (i := 95) rfl rfl
set_option maxRecDepth 100000 in
theorem rxw_96 : (Jvm.Cond.fieldLink "AngleChains$Deduction" (79 : Nat) "AngleChains$Deduction" "openCount" "I") ∈ rx_all := rx_inT (i := 96) rfl rfl
set_option maxRecDepth 100000 in
theorem rxw_97 : (Jvm.Cond.fieldLink "AngleChains$Deduction" (72 : Nat) "AngleChains$Deduction" "hasJoined" "Z") ∈ rx_all := rx_inT (i := 97) rfl rfl
set_option maxRecDepth 100000 in
theorem rxw_98 : (Jvm.Cond.fieldLink "AngleChains$Deduction" (36 : Nat) "AngleChains$Deduction" "closedSize" "I") ∈ rx_all := rx_inT (i := 98) rfl rfl
set_option maxRecDepth 100000 in
theorem rxw_99 : (Jvm.Cond.fieldLink "AngleChains$Deduction" (65 : Nat) "AngleChains$Deduction" "closedBits" "I") ∈ rx_all := rx_inT (i := 99) rfl rfl
set_option maxRecDepth 100000 in
theorem rxw_127 : (Jvm.Cond.fieldLink "AngleChains" (10 : Nat) "AngleChains" "figure" "LAngleChains$Figure;") ∈ rx_all := rx_inT (i := 127) rfl rfl
set_option maxRecDepth 100000 in
theorem rxw_128 : (Jvm.Cond.fieldLink "AngleChains" (16 : Nat) "AngleChains" "hypotheses" "[I") ∈ rx_all := rx_inT (i := 128) rfl rfl
set_option maxRecDepth 100000 in
theorem rxw_129 : (Jvm.Cond.fieldLink "AngleChains" (25 : Nat) "AngleChains" "deduction" "LAngleChains$Deduction;") ∈ rx_all := rx_inT (i := 129) rfl rfl
set_option maxRecDepth 100000 in
theorem rxw_130 : (Jvm.Cond.fieldLink "AngleChains" (29 : Nat) "AngleChains" "hypothesisCount" "I") ∈ rx_all := rx_inT (i := 130) rfl rfl
set_option maxRecDepth 100000 in
theorem rxw_131 : (Jvm.Cond.fieldLink "AngleChains" (58 : Nat) "AngleChains" "onBits" "I") ∈ rx_all := rx_inT (i := 131) rfl rfl
set_option maxRecDepth 100000 in
theorem rxw_132 : (Jvm.Cond.fieldLink "AngleChains" (68 : Nat) "AngleChains" "leftBits" "I") ∈ rx_all := rx_inT (i := 132) rfl rfl
set_option maxRecDepth 100000 in
theorem rxw_133 : (Jvm.Cond.fieldLink "AngleChains" (48 : Nat) "AngleChains" "draft" "I") ∈ rx_all := rx_inT (i := 133) rfl rfl
set_option maxRecDepth 100000 in
theorem rxw_134 : (Jvm.Cond.fieldLink "AngleChains" (45 : Nat) "AngleChains" "draftCount" "I") ∈ rx_all := rx_inT (i := 134) rfl rfl
set_option maxRecDepth 100000 in
theorem rxw_152 : (Jvm.Cond.methodLink "AngleChainsLaw" (13 : Nat) ({ cls := "AngleChains", name := "point", desc := "(II)I" } : Jvm.MethodName)) ∈ rx_all := rx_inT (i := 152) rfl rfl
set_option maxRecDepth 100000 in
theorem rxw_156 : (Jvm.Cond.methodLink "AngleChains" (33 : Nat) ({ cls := "AngleChains$Figure", name := "hasRoomAt", desc := "(II)Z" } : Jvm.MethodName)) ∈ rx_all := rx_inT (i := 156) rfl rfl
set_option maxRecDepth 100000 in
theorem rxw_160 : (Jvm.Cond.methodLink "AngleChains$Figure" (22 : Nat) ({ cls := "AngleChains$Figure", name := "isCoordinate", desc := "(I)Z" } : Jvm.MethodName)) ∈ rx_all := rx_inT (i := 160) rfl rfl
set_option maxRecDepth 100000 in
theorem rxw_163 : (Jvm.Cond.methodLink "AngleChains" (37 : Nat) ({ cls := "AngleChains$Figure", name := "place", desc := "(II)I" } : Jvm.MethodName)) ∈ rx_all := rx_inT (i := 163) rfl rfl
set_option maxRecDepth 100000 in
theorem rxw_167 : (Jvm.Cond.methodLink "AngleChainsLaw" (18 : Nat) ({ cls := "AngleChains", name := "of", desc := "(I)I" } : Jvm.MethodName)) ∈ rx_all := rx_inT (i := 167) rfl rfl
set_option maxRecDepth 100000 in
theorem rxw_171 : (Jvm.Cond.methodLink "AngleChains" (41 : Nat) ({ cls := "AngleChains$Figure", name := "has", desc := "(I)Z" } : Jvm.MethodName)) ∈ rx_all := rx_inT (i := 171) rfl rfl
set_option maxRecDepth 100000 in
theorem rxw_175 : (Jvm.Cond.methodLink "AngleChainsLaw" (23 : Nat) ({ cls := "AngleChains", name := "isTrue", desc := "(I)I" } : Jvm.MethodName)) ∈ rx_all := rx_inT (i := 175) rfl rfl
set_option maxRecDepth 100000 in
theorem rxw_179 : (Jvm.Cond.methodLink "AngleChains" (51 : Nat) ({ cls := "AngleChains", name := "takeDraft", desc := "(I)I" } : Jvm.MethodName)) ∈ rx_all := rx_inT (i := 179) rfl rfl
set_option maxRecDepth 100000 in
theorem rxw_183 : (Jvm.Cond.fieldLink "AngleChains" (106 : Nat) "AngleChains" "POINTS_OF_KIND" "[I") ∈ rx_all := rx_inT (i := 183) rfl rfl
set_option maxRecDepth 100000 in
theorem rxw_185 : (Jvm.Cond.methodLink "AngleChains" (109 : Nat) ({ cls := "AngleChains", name := "bitsOf", desc := "(II)I" } : Jvm.MethodName)) ∈ rx_all := rx_inT (i := 185) rfl rfl
set_option maxRecDepth 100000 in
theorem rxw_188 : (Jvm.Cond.methodLink "AngleChains" (115 : Nat) ({ cls := "AngleChains", name := "at", desc := "(II)I" } : Jvm.MethodName)) ∈ rx_all := rx_inT (i := 188) rfl rfl
set_option maxRecDepth 100000 in
theorem rxw_191 : (Jvm.Cond.methodLink "AngleChains" (71 : Nat) ({ cls := "java/lang/Integer", name := "bitCount", desc := "(I)I" } : Jvm.MethodName)) ∈ rx_all := rx_inT (i := 191) rfl rfl
set_option maxRecDepth 100000 in
theorem rxw_194 : (Jvm.Cond.constant "java/lang/Integer" (265 : Nat) (1431655765 : Int32)) ∈ rx_all := rx_inT (i := 194) rfl rfl
set_option maxRecDepth 100000 in
theorem rxw_195 : (Jvm.Cond.constant "java/lang/Integer" (266 : Nat) (858993459 : Int32)) ∈ rx_all := rx_inT (i := 195) rfl rfl
set_option maxRecDepth 100000 in
theorem rxw_196 : (Jvm.Cond.constant "java/lang/Integer" (267 : Nat) (252645135 : Int32)) ∈ rx_all := rx_inT (i := 196) rfl rfl
set_option maxRecDepth 100000 in
theorem rxw_197 : (Jvm.Cond.methodLink "AngleChains" (112 : Nat) ({ cls := "AngleChains", name := "hasPairsOfTwo", desc := "(II)Z" } : Jvm.MethodName)) ∈ rx_all := rx_inT (i := 197) rfl rfl
set_option maxRecDepth 100000 in
theorem rxw_200 : (Jvm.Cond.methodLink "AngleChains" (55 : Nat) ({ cls := "AngleChains$Figure", name := "holds", desc := "(I)Z" } : Jvm.MethodName)) ∈ rx_all := rx_inT (i := 200) rfl rfl
set_option maxRecDepth 100000 in
theorem rxn_204 : (Jvm.Cond.methodLinkNest "AngleChains$Figure" (40 : Nat) ({ cls := "AngleChains", name := "at", desc := "(II)I" } : Jvm.MethodName) "AngleChains") ∈ rx_nst := rx_inN (i := 204) rfl rfl
set_option maxRecDepth 100000 in
theorem rxn_205 : (Jvm.Cond.methodLinkNest "AngleChains$Figure" (44 : Nat) ({ cls := "AngleChains", name := "kindOf", desc := "(I)I" } : Jvm.MethodName) "AngleChains") ∈ rx_nst := rx_inN (i := 205) rfl rfl
set_option maxRecDepth 100000 in
theorem rxw_208 : (Jvm.Cond.methodLink "AngleChains$Figure" (37 : Nat) ({ cls := "AngleChains$Figure", name := "areCollinear", desc := "(III)Z" } : Jvm.MethodName)) ∈ rx_all := rx_inT (i := 208) rfl rfl
set_option maxRecDepth 100000 in
theorem rxw_212 : (Jvm.Cond.methodLink "AngleChains$Figure" (26 : Nat) ({ cls := "AngleChains$Figure", name := "cross", desc := "(IIII)J" } : Jvm.MethodName)) ∈ rx_all := rx_inT (i := 212) rfl rfl
set_option maxRecDepth 100000 in
theorem rxw_216 : (Jvm.Cond.methodLink "AngleChains$Figure" (30 : Nat) ({ cls := "AngleChains$Figure", name := "dot", desc := "(IIII)J" } : Jvm.MethodName)) ∈ rx_all := rx_inT (i := 216) rfl rfl
set_option maxRecDepth 100000 in
theorem rxw_220 : (Jvm.Cond.methodLink "AngleChains$Figure" (48 : Nat) ({ cls := "AngleChains$Figure", name := "areOnCircle", desc := "(IIII)Z" } : Jvm.MethodName)) ∈ rx_all := rx_inT (i := 220) rfl rfl
set_option maxRecDepth 100000 in
theorem rxw_224 : (Jvm.Cond.methodLink "AngleChains$Figure" (52 : Nat) ({ cls := "AngleChains$Figure", name := "areEqual", desc := "(IIII)Z" } : Jvm.MethodName)) ∈ rx_all := rx_inT (i := 224) rfl rfl
set_option maxRecDepth 100000 in
theorem rxw_228 : (Jvm.Cond.methodLink "AngleChains$Figure" (33 : Nat) ({ cls := "AngleChains$Figure", name := "isMiddle", desc := "(III)Z" } : Jvm.MethodName)) ∈ rx_all := rx_inT (i := 228) rfl rfl
set_option maxRecDepth 100000 in
theorem rxw_232 : (Jvm.Cond.methodLink "AngleChains$Figure" (55 : Nat) ({ cls := "AngleChains$Figure", name := "hasLikeTurns", desc := "(I)Z" } : Jvm.MethodName)) ∈ rx_all := rx_inT (i := 232) rfl rfl
set_option maxRecDepth 100000 in
theorem rxw_236 : (Jvm.Cond.methodLink "AngleChainsLaw" (27 : Nat) ({ cls := "AngleChains", name := "fact", desc := "(I)I" } : Jvm.MethodName)) ∈ rx_all := rx_inT (i := 236) rfl rfl
set_option maxRecDepth 100000 in
theorem rxw_240 : (Jvm.Cond.methodLink "AngleChainsLaw" (31 : Nat) ({ cls := "AngleChains", name := "turn", desc := "(IZ)Z" } : Jvm.MethodName)) ∈ rx_all := rx_inT (i := 240) rfl rfl
set_option maxRecDepth 100000 in
theorem rxw_244 : (Jvm.Cond.methodLink "AngleChainsLaw" (36 : Nat) ({ cls := "AngleChains", name := "follows", desc := "(I)I" } : Jvm.MethodName)) ∈ rx_all := rx_inT (i := 244) rfl rfl
set_option maxRecDepth 100000 in
theorem rxw_248 : (Jvm.Cond.methodLink "AngleChains" (61 : Nat) ({ cls := "AngleChains$Deduction", name := "close", desc := "(I)V" } : Jvm.MethodName)) ∈ rx_all := rx_inT (i := 248) rfl rfl
set_option maxRecDepth 100000 in
theorem rxw_252 : (Jvm.Cond.methodLink "AngleChains$Deduction" (59 : Nat) ({ cls := "AngleChains$Cases", name := "find", desc := "()V" } : Jvm.MethodName)) ∈ rx_all := rx_inT (i := 252) rfl rfl
set_option maxRecDepth 100000 in
theorem rxw_256 : (Jvm.Cond.methodLink "AngleChains$Cases" (28 : Nat) ({ cls := "AngleChains$Cases", name := "findBisectors", desc := "(II)V" } : Jvm.MethodName)) ∈ rx_all := rx_inT (i := 256) rfl rfl
set_option maxRecDepth 100000 in
theorem rxw_260 : (Jvm.Cond.methodLink "AngleChains$Cases" (51 : Nat) ({ cls := "AngleChains$Figure", name := "areEqual", desc := "(IIII)Z" } : Jvm.MethodName)) ∈ rx_all := rx_inT (i := 260) rfl rfl
set_option maxRecDepth 100000 in
theorem rxw_261 : (Jvm.Cond.methodLink "AngleChains$Cases" (44 : Nat) ({ cls := "AngleChains$Cases", name := "add", desc := "(IIIIII)V" } : Jvm.MethodName)) ∈ rx_all := rx_inT (i := 261) rfl rfl
set_option maxRecDepth 100000 in
theorem rxw_265 : (Jvm.Cond.methodLink "AngleChains$Cases" (32 : Nat) ({ cls := "AngleChains$Cases", name := "findOfThree", desc := "(III)V" } : Jvm.MethodName)) ∈ rx_all := rx_inT (i := 265) rfl rfl
set_option maxRecDepth 100000 in
theorem rxw_269 : (Jvm.Cond.methodLink "AngleChains$Cases" (40 : Nat) ({ cls := "AngleChains$Figure", name := "areCollinear", desc := "(III)Z" } : Jvm.MethodName)) ∈ rx_all := rx_inT (i := 269) rfl rfl
set_option maxRecDepth 100000 in
theorem rxw_270 : (Jvm.Cond.methodLink "AngleChains$Cases" (48 : Nat) ({ cls := "AngleChains$Cases", name := "findAtCorner", desc := "(III)V" } : Jvm.MethodName)) ∈ rx_all := rx_inT (i := 270) rfl rfl
set_option maxRecDepth 100000 in
theorem rxw_274 : (Jvm.Cond.methodLink "AngleChains$Cases" (55 : Nat) ({ cls := "AngleChains$Figure", name := "middleOf", desc := "(II)I" } : Jvm.MethodName)) ∈ rx_all := rx_inT (i := 274) rfl rfl
set_option maxRecDepth 100000 in
theorem rxw_278 : (Jvm.Cond.methodLink "AngleChains$Cases" (36 : Nat) ({ cls := "AngleChains$Cases", name := "findOfFour", desc := "(IIII)V" } : Jvm.MethodName)) ∈ rx_all := rx_inT (i := 278) rfl rfl
set_option maxRecDepth 100000 in
theorem rxw_282 : (Jvm.Cond.methodLink "AngleChains$Cases" (59 : Nat) ({ cls := "AngleChains$Figure", name := "areOnCircle", desc := "(IIII)Z" } : Jvm.MethodName)) ∈ rx_all := rx_inT (i := 282) rfl rfl
set_option maxRecDepth 100000 in
theorem rxw_283 : (Jvm.Cond.methodLink "AngleChains$Cases" (62 : Nat) ({ cls := "AngleChains$Cases", name := "findCentre", desc := "(IIII)V" } : Jvm.MethodName)) ∈ rx_all := rx_inT (i := 283) rfl rfl
set_option maxRecDepth 100000 in
theorem rxw_287 : (Jvm.Cond.methodLink "AngleChains$Cases" (65 : Nat) ({ cls := "AngleChains$Cases", name := "findParallelogram", desc := "(IIII)V" } : Jvm.MethodName)) ∈ rx_all := rx_inT (i := 287) rfl rfl
set_option maxRecDepth 100000 in
theorem rxw_291 : (Jvm.Cond.methodLink "AngleChains$Cases" (68 : Nat) ({ cls := "AngleChains$Figure", name := "isParallelogram", desc := "(IIII)Z" } : Jvm.MethodName)) ∈ rx_all := rx_inT (i := 291) rfl rfl
set_option maxRecDepth 100000 in
theorem rxw_295 : (Jvm.Cond.methodLink "AngleChains$Deduction" (62 : Nat) ({ cls := "AngleChains$Deduction", name := "start", desc := "()V" } : Jvm.MethodName)) ∈ rx_all := rx_inT (i := 295) rfl rfl
set_option maxRecDepth 100000 in
theorem rxw_299 : (Jvm.Cond.methodLink "AngleChains$Deduction" (86 : Nat) ({ cls := "AngleChains$Rows", name := "clear", desc := "()V" } : Jvm.MethodName)) ∈ rx_all := rx_inT (i := 299) rfl rfl
set_option maxRecDepth 100000 in
theorem rxw_303 : (Jvm.Cond.methodLink "AngleChains$Rows" (24 : Nat) ({ cls := "java/util/Arrays", name := "fill", desc := "([JJ)V" } : Jvm.MethodName)) ∈ rx_all := rx_inT (i := 303) rfl rfl
set_option maxRecDepth 100000 in
theorem rxn_306 : (Jvm.Cond.fieldLinkNest "AngleChains$Deduction" (89 : Nat) "AngleChains" "PAIR_BITS" "[I" "AngleChains") ∈ rx_nst := rx_inN (i := 306) rfl rfl
set_option maxRecDepth 100000 in
theorem rxn_308 : (Jvm.Cond.fieldLinkNest "AngleChains$Deduction" (92 : Nat) "AngleChains" "TRIPLES" "[I" "AngleChains") ∈ rx_nst := rx_inN (i := 308) rfl rfl
set_option maxRecDepth 100000 in
theorem rxw_310 : (Jvm.Cond.methodLink "AngleChains$Deduction" (95 : Nat) ({ cls := "AngleChains$Deduction", name := "isProper", desc := "(I)Z" } : Jvm.MethodName)) ∈ rx_all := rx_inT (i := 310) rfl rfl
set_option maxRecDepth 100000 in
theorem rxw_314 : (Jvm.Cond.methodLink "AngleChains$Deduction" (110 : Nat) ({ cls := "java/lang/Integer", name := "numberOfTrailingZeros", desc := "(I)I" } : Jvm.MethodName)) ∈ rx_all := rx_inT (i := 314) rfl rfl
set_option maxRecDepth 100000 in
theorem rxw_317 : (Jvm.Cond.constant "java/lang/Integer" (264 : Nat) (65536 : Int32)) ∈ rx_all := rx_inT (i := 317) rfl rfl
set_option maxRecDepth 100000 in
theorem rxw_318 : (Jvm.Cond.methodLink "AngleChains$Deduction" (116 : Nat) ({ cls := "java/lang/Integer", name := "numberOfLeadingZeros", desc := "(I)I" } : Jvm.MethodName)) ∈ rx_all := rx_inT (i := 318) rfl rfl
set_option maxRecDepth 100000 in
theorem rxw_321 : (Jvm.Cond.methodLink "AngleChains$Deduction" (119 : Nat) ({ cls := "AngleChains$Figure", name := "has", desc := "(I)Z" } : Jvm.MethodName)) ∈ rx_all := rx_inT (i := 321) rfl rfl
set_option maxRecDepth 100000 in
theorem rxw_322 : (Jvm.Cond.methodLink "AngleChains$Deduction" (122 : Nat) ({ cls := "AngleChains$Figure", name := "areCollinear", desc := "(III)Z" } : Jvm.MethodName)) ∈ rx_all := rx_inT (i := 322) rfl rfl
set_option maxRecDepth 100000 in
theorem rxw_326 : (Jvm.Cond.methodLink "AngleChains$Deduction" (68 : Nat) ({ cls := "AngleChains$Deduction", name := "assume", desc := "(I)V" } : Jvm.MethodName)) ∈ rx_all := rx_inT (i := 326) rfl rfl
set_option maxRecDepth 100000 in
theorem rxn_330 : (Jvm.Cond.methodLinkNest "AngleChains$Deduction" (126 : Nat) ({ cls := "AngleChains", name := "kindOf", desc := "(I)I" } : Jvm.MethodName) "AngleChains") ∈ rx_nst := rx_inN (i := 330) rfl rfl
set_option maxRecDepth 100000 in
theorem rxn_331 : (Jvm.Cond.methodLinkNest "AngleChains$Deduction" (129 : Nat) ({ cls := "AngleChains", name := "bitsOf", desc := "(II)I" } : Jvm.MethodName) "AngleChains") ∈ rx_nst := rx_inN (i := 331) rfl rfl
set_option maxRecDepth 100000 in
theorem rxw_332 : (Jvm.Cond.methodLink "AngleChains$Deduction" (133 : Nat) ({ cls := "AngleChains$Deduction", name := "joinLine", desc := "(I)V" } : Jvm.MethodName)) ∈ rx_all := rx_inT (i := 332) rfl rfl
set_option maxRecDepth 100000 in
theorem rxw_336 : (Jvm.Cond.methodLink "AngleChains$Deduction" (186 : Nat) ({ cls := "java/lang/Integer", name := "bitCount", desc := "(I)I" } : Jvm.MethodName)) ∈ rx_all := rx_inT (i := 336) rfl rfl
set_option maxRecDepth 100000 in
theorem rxw_337 : (Jvm.Cond.methodLink "AngleChains$Deduction" (181 : Nat) ({ cls := "AngleChains$Rows", name := "writeDifference", desc := "(III)V" } : Jvm.MethodName)) ∈ rx_all := rx_inT (i := 337) rfl rfl
set_option maxRecDepth 100000 in
theorem rxw_341 : (Jvm.Cond.methodLink "AngleChains$Deduction" (150 : Nat) ({ cls := "AngleChains$Rows", name := "takeWritten", desc := "()V" } : Jvm.MethodName)) ∈ rx_all := rx_inT (i := 341) rfl rfl
set_option maxRecDepth 100000 in
theorem rxw_345 : (Jvm.Cond.methodLink "AngleChains$Rows" (30 : Nat) ({ cls := "AngleChains$Rows", name := "subtract", desc := "([JJI)V" } : Jvm.MethodName)) ∈ rx_all := rx_inT (i := 345) rfl rfl
set_option maxRecDepth 100000 in
theorem rxw_349 : (Jvm.Cond.methodLink "AngleChains$Rows" (34 : Nat) ({ cls := "AngleChains$Rows", name := "settle", desc := "([JI)V" } : Jvm.MethodName)) ∈ rx_all := rx_inT (i := 349) rfl rfl
set_option maxRecDepth 100000 in
theorem rxw_353 : (Jvm.Cond.methodLink "AngleChains$Rows" (48 : Nat) ({ cls := "java/lang/Math", name := "floorDiv", desc := "(JJ)J" } : Jvm.MethodName)) ∈ rx_all := rx_inT (i := 353) rfl rfl
set_option maxRecDepth 100000 in
theorem rxw_356 : (Jvm.Cond.methodLink "AngleChains$Rows" (38 : Nat) ({ cls := "AngleChains$Rows", name := "swapWithBasis", desc := "(I)V" } : Jvm.MethodName)) ∈ rx_all := rx_inT (i := 356) rfl rfl
set_option maxRecDepth 100000 in
theorem rxw_360 : (Jvm.Cond.constantLong "AngleChains$Rows" (46 : Nat) (-1 : Int64)) ∈ rx_all := rx_inT (i := 360) rfl rfl
set_option maxRecDepth 100000 in
theorem rxw_361 : (Jvm.Cond.methodLink "AngleChains$Deduction" (136 : Nat) ({ cls := "AngleChains$Deduction", name := "joinCircle", desc := "(I)V" } : Jvm.MethodName)) ∈ rx_all := rx_inT (i := 361) rfl rfl
set_option maxRecDepth 100000 in
theorem rxn_365 : (Jvm.Cond.methodLinkNest "AngleChains$Deduction" (139 : Nat) ({ cls := "AngleChains", name := "pairAt", desc := "(III)I" } : Jvm.MethodName) "AngleChains") ∈ rx_nst := rx_inN (i := 365) rfl rfl
set_option maxRecDepth 100000 in
theorem rxw_368 : (Jvm.Cond.methodLink "AngleChains" (121 : Nat) ({ cls := "AngleChains", name := "pairOf", desc := "(II)I" } : Jvm.MethodName)) ∈ rx_all := rx_inT (i := 368) rfl rfl
set_option maxRecDepth 100000 in
theorem rxw_371 : (Jvm.Cond.fieldLink "AngleChains" (118 : Nat) "AngleChains" "PAIR_NUMBERS" "[I") ∈ rx_all := rx_inT (i := 371) rfl rfl
set_option maxRecDepth 100000 in
theorem rxw_373 : (Jvm.Cond.methodLink "AngleChains$Deduction" (143 : Nat) ({ cls := "AngleChains$Deduction", name := "joinLengths", desc := "(II)V" } : Jvm.MethodName)) ∈ rx_all := rx_inT (i := 373) rfl rfl
set_option maxRecDepth 100000 in
theorem rxw_383 : (Jvm.Cond.methodLink "AngleChains$Deduction" (147 : Nat) ({ cls := "AngleChains$Deduction", name := "writeRowOf", desc := "(I)V" } : Jvm.MethodName)) ∈ rx_all := rx_inT (i := 383) rfl rfl
set_option maxRecDepth 100000 in
theorem rxw_387 : (Jvm.Cond.methodLink "AngleChains$Deduction" (173 : Nat) ({ cls := "AngleChains$Deduction", name := "writeDifference", desc := "(III)V" } : Jvm.MethodName)) ∈ rx_all := rx_inT (i := 387) rfl rfl
set_option maxRecDepth 100000 in
theorem rxw_391 : (Jvm.Cond.methodLink "AngleChains$Deduction" (177 : Nat) ({ cls := "AngleChains$Deduction", name := "writeTurns", desc := "(IIII)V" } : Jvm.MethodName)) ∈ rx_all := rx_inT (i := 391) rfl rfl
set_option maxRecDepth 100000 in
theorem rxw_395 : (Jvm.Cond.methodLink "AngleChains$Deduction" (182 : Nat) ({ cls := "AngleChains$Rows", name := "writeTurns", desc := "(IIII)V" } : Jvm.MethodName)) ∈ rx_all := rx_inT (i := 395) rfl rfl
set_option maxRecDepth 100000 in
theorem rxw_399 : (Jvm.Cond.methodLink "AngleChains$Deduction" (82 : Nat) ({ cls := "AngleChains$Deduction", name := "usesUp", desc := "(I)Z" } : Jvm.MethodName)) ∈ rx_all := rx_inT (i := 399) rfl rfl
set_option maxRecDepth 100000 in
theorem rxw_403 : (Jvm.Cond.methodLink "AngleChains$Deduction" (197 : Nat) ({ cls := "AngleChains$Deduction", name := "triesLine", desc := "(I)Z" } : Jvm.MethodName)) ∈ rx_all := rx_inT (i := 403) rfl rfl
set_option maxRecDepth 100000 in
theorem rxw_407 : (Jvm.Cond.methodLink "AngleChains$Deduction" (153 : Nat) ({ cls := "AngleChains$Deduction", name := "areOnLine", desc := "(I)Z" } : Jvm.MethodName)) ∈ rx_all := rx_inT (i := 407) rfl rfl
set_option maxRecDepth 100000 in
theorem rxn_411 : (Jvm.Cond.methodLinkNest "AngleChains$Deduction" (163 : Nat) ({ cls := "AngleChains", name := "at", desc := "(II)I" } : Jvm.MethodName) "AngleChains") ∈ rx_nst := rx_inN (i := 411) rfl rfl
set_option maxRecDepth 100000 in
theorem rxw_412 : (Jvm.Cond.methodLink "AngleChains$Deduction" (221 : Nat) ({ cls := "AngleChains$Deduction", name := "haveDifference", desc := "(III)Z" } : Jvm.MethodName)) ∈ rx_all := rx_inT (i := 412) rfl rfl
set_option maxRecDepth 100000 in
theorem rxw_416 : (Jvm.Cond.methodLink "AngleChains$Deduction" (169 : Nat) ({ cls := "AngleChains$Rows", name := "haveWritten", desc := "()Z" } : Jvm.MethodName)) ∈ rx_all := rx_inT (i := 416) rfl rfl
set_option maxRecDepth 100000 in
theorem rxw_420 : (Jvm.Cond.methodLink "AngleChains$Deduction" (200 : Nat) ({ cls := "AngleChains$Deduction", name := "triesCircle", desc := "(I)Z" } : Jvm.MethodName)) ∈ rx_all := rx_inT (i := 420) rfl rfl
set_option maxRecDepth 100000 in
theorem rxw_424 : (Jvm.Cond.methodLink "AngleChains$Deduction" (156 : Nat) ({ cls := "AngleChains$Deduction", name := "areOnCircle", desc := "(I)Z" } : Jvm.MethodName)) ∈ rx_all := rx_inT (i := 424) rfl rfl
set_option maxRecDepth 100000 in
theorem rxw_428 : (Jvm.Cond.methodLink "AngleChains$Deduction" (224 : Nat) ({ cls := "AngleChains$Deduction", name := "haveTurns", desc := "(IIII)Z" } : Jvm.MethodName)) ∈ rx_all := rx_inT (i := 428) rfl rfl
set_option maxRecDepth 100000 in
theorem rxw_432 : (Jvm.Cond.methodLink "AngleChains$Deduction" (203 : Nat) ({ cls := "AngleChains$Deduction", name := "triesIsosceles", desc := "(I)Z" } : Jvm.MethodName)) ∈ rx_all := rx_inT (i := 432) rfl rfl
set_option maxRecDepth 100000 in
theorem rxw_436 : (Jvm.Cond.methodLink "AngleChains$Deduction" (228 : Nat) ({ cls := "AngleChains$Deduction", name := "linksRowTo", desc := "(II)Z" } : Jvm.MethodName)) ∈ rx_all := rx_inT (i := 436) rfl rfl
set_option maxRecDepth 100000 in
theorem rxw_440 : (Jvm.Cond.methodLink "AngleChains$Deduction" (159 : Nat) ({ cls := "AngleChains$Deduction", name := "areSame", desc := "(II)Z" } : Jvm.MethodName)) ∈ rx_all := rx_inT (i := 440) rfl rfl
set_option maxRecDepth 100000 in
theorem rxw_444 : (Jvm.Cond.methodLink "AngleChains$Deduction" (206 : Nat) ({ cls := "AngleChains$Deduction", name := "triesDiameter", desc := "(I)Z" } : Jvm.MethodName)) ∈ rx_all := rx_inT (i := 444) rfl rfl
set_option maxRecDepth 100000 in
theorem rxw_448 : (Jvm.Cond.methodLink "AngleChains$Deduction" (166 : Nat) ({ cls := "AngleChains$Deduction", name := "isMiddle", desc := "(III)Z" } : Jvm.MethodName)) ∈ rx_all := rx_inT (i := 448) rfl rfl
set_option maxRecDepth 100000 in
theorem rxn_452 : (Jvm.Cond.methodLinkNest "AngleChains$Deduction" (183 : Nat) ({ cls := "AngleChains", name := "pairOf", desc := "(II)I" } : Jvm.MethodName) "AngleChains") ∈ rx_nst := rx_inN (i := 452) rfl rfl
set_option maxRecDepth 100000 in
theorem rxw_453 : (Jvm.Cond.methodLink "AngleChains$Deduction" (209 : Nat) ({ cls := "AngleChains$Deduction", name := "triesCentre", desc := "(I)Z" } : Jvm.MethodName)) ∈ rx_all := rx_inT (i := 453) rfl rfl
set_option maxRecDepth 100000 in
theorem rxw_457 : (Jvm.Cond.methodLink "AngleChains$Deduction" (212 : Nat) ({ cls := "AngleChains$Deduction", name := "triesBisector", desc := "(I)Z" } : Jvm.MethodName)) ∈ rx_all := rx_inT (i := 457) rfl rfl
set_option maxRecDepth 100000 in
theorem rxw_461 : (Jvm.Cond.methodLink "AngleChains$Deduction" (215 : Nat) ({ cls := "AngleChains$Deduction", name := "triesMidline", desc := "(I)Z" } : Jvm.MethodName)) ∈ rx_all := rx_inT (i := 461) rfl rfl
set_option maxRecDepth 100000 in
theorem rxw_465 : (Jvm.Cond.methodLink "AngleChains$Deduction" (218 : Nat) ({ cls := "AngleChains$Deduction", name := "triesParallelogram", desc := "(I)Z" } : Jvm.MethodName)) ∈ rx_all := rx_inT (i := 465) rfl rfl
set_option maxRecDepth 100000 in
theorem rxw_469 : (Jvm.Cond.methodLink "AngleChains" (65 : Nat) ({ cls := "AngleChains$Deduction", name := "shows", desc := "(I)Z" } : Jvm.MethodName)) ∈ rx_all := rx_inT (i := 469) rfl rfl
set_option maxRecDepth 100000 in
theorem rxw_473 : (Jvm.Cond.methodLink "AngleChainsLaw" (40 : Nat) ({ cls := "AngleChains", name := "needs", desc := "(I)I" } : Jvm.MethodName)) ∈ rx_all := rx_inT (i := 473) rfl rfl
set_option maxRecDepth 100000 in
theorem rxw_477 : (Jvm.Cond.methodLink "AngleChainsLaw" (44 : Nat) ({ cls := "AngleChains", name := "need", desc := "(I)I" } : Jvm.MethodName)) ∈ rx_all := rx_inT (i := 477) rfl rfl
set_option maxRecDepth 100000 in
theorem rxw_481 : (Jvm.Cond.methodLink "AngleChainsLaw" (48 : Nat) ({ cls := "AngleChains", name := "line", desc := "(II)I" } : Jvm.MethodName)) ∈ rx_all := rx_inT (i := 481) rfl rfl
set_option maxRecDepth 100000 in
theorem rxw_485 : (Jvm.Cond.methodLink "AngleChains" (76 : Nat) ({ cls := "AngleChains$Deduction", name := "lineBits", desc := "(II)I" } : Jvm.MethodName)) ∈ rx_all := rx_inT (i := 485) rfl rfl
set_option maxRecDepth 100000 in
theorem rxw_489 : (Jvm.Cond.methodLink "AngleChainsLaw" (52 : Nat) ({ cls := "AngleChains", name := "circle", desc := "(III)I" } : Jvm.MethodName)) ∈ rx_all := rx_inT (i := 489) rfl rfl
set_option maxRecDepth 100000 in
theorem rxw_493 : (Jvm.Cond.methodLink "AngleChains" (79 : Nat) ({ cls := "AngleChains$Figure", name := "areCollinear", desc := "(III)Z" } : Jvm.MethodName)) ∈ rx_all := rx_inT (i := 493) rfl rfl
set_option maxRecDepth 100000 in
theorem rxw_494 : (Jvm.Cond.methodLink "AngleChains" (83 : Nat) ({ cls := "AngleChains$Deduction", name := "circleBits", desc := "(III)I" } : Jvm.MethodName)) ∈ rx_all := rx_inT (i := 494) rfl rfl
set_option maxRecDepth 100000 in
theorem rxw_498 : (Jvm.Cond.methodLink "AngleChainsLaw" (57 : Nat) ({ cls := "AngleChains", name := "length", desc := "(II)I" } : Jvm.MethodName)) ∈ rx_all := rx_inT (i := 498) rfl rfl
set_option maxRecDepth 100000 in
theorem rxw_502 : (Jvm.Cond.methodLink "AngleChains" (87 : Nat) ({ cls := "AngleChains$Deduction", name := "leastPair", desc := "(II)I" } : Jvm.MethodName)) ∈ rx_all := rx_inT (i := 502) rfl rfl
set_option maxRecDepth 100000 in
theorem rxw_506 : (Jvm.Cond.methodLink "AngleChainsLaw" (61 : Nat) ({ cls := "AngleChains", name := "told", desc := "(I)I" } : Jvm.MethodName)) ∈ rx_all := rx_inT (i := 506) rfl rfl
set_option maxRecDepth 100000 in
theorem rxw_510 : (Jvm.Cond.methodLink "AngleChains" (93 : Nat) ({ cls := "AngleChains$Deduction", name := "countLines", desc := "()I" } : Jvm.MethodName)) ∈ rx_all := rx_inT (i := 510) rfl rfl
set_option maxRecDepth 100000 in
theorem rxw_514 : (Jvm.Cond.methodLink "AngleChains$Deduction" (231 : Nat) ({ cls := "AngleChains$Deduction", name := "isThere", desc := "(I)Z" } : Jvm.MethodName)) ∈ rx_all := rx_inT (i := 514) rfl rfl
set_option maxRecDepth 100000 in
theorem rxw_518 : (Jvm.Cond.methodLink "AngleChains" (97 : Nat) ({ cls := "AngleChains$Deduction", name := "countWideCircles", desc := "()I" } : Jvm.MethodName)) ∈ rx_all := rx_inT (i := 518) rfl rfl
set_option maxRecDepth 100000 in
theorem rxw_522 : (Jvm.Cond.methodLink "AngleChains$Deduction" (234 : Nat) ({ cls := "java/lang/Integer", name := "lowestOneBit", desc := "(I)I" } : Jvm.MethodName)) ∈ rx_all := rx_inT (i := 522) rfl rfl
set_option maxRecDepth 100000 in
theorem rxw_525 : (Jvm.Cond.methodLink "AngleChains" (100 : Nat) ({ cls := "AngleChains$Deduction", name := "countLengths", desc := "()I" } : Jvm.MethodName)) ∈ rx_all := rx_inT (i := 525) rfl rfl
set_option maxRecDepth 100000 in
theorem rxw_529 : (Jvm.Cond.methodLink "AngleChains" (103 : Nat) ({ cls := "AngleChains$Deduction", name := "countRows", desc := "()I" } : Jvm.MethodName)) ∈ rx_all := rx_inT (i := 529) rfl rfl
set_option maxRecDepth 100000 in
theorem rxw_533 : (Jvm.Cond.classLink "AngleChainsLaw" (10 : Nat) "AngleChainsModel") ∈ rx_all := rx_inT (i := 533) rfl rfl
set_option maxRecDepth 100000 in
theorem rxw_535 : (Jvm.Cond.methodLink "AngleChainsLaw" (12 : Nat) ({ cls := "AngleChainsModel", name := "<init>", desc := "()V" } : Jvm.MethodName)) ∈ rx_all := rx_inT (i := 535) rfl rfl
set_option maxRecDepth 100000 in
theorem rxw_539 : (Jvm.Cond.fieldLink "AngleChainsModel" (81 : Nat) "AngleChainsModel" "thrown" "I") ∈ rx_all := rx_inT (i := 539) rfl rfl
set_option maxRecDepth 100000 in
theorem rxw_540 : (Jvm.Cond.fieldLink "AngleChainsModel" (114 : Nat) "AngleChainsModel" "n" "I") ∈ rx_all := rx_inT (i := 540) rfl rfl
set_option maxRecDepth 100000 in
theorem rxw_541 : (Jvm.Cond.fieldLink "AngleChainsModel" (7 : Nat) "AngleChainsModel" "px" "[I") ∈ rx_all := rx_inT (i := 541) rfl rfl
set_option maxRecDepth 100000 in
theorem rxw_542 : (Jvm.Cond.fieldLink "AngleChainsModel" (13 : Nat) "AngleChainsModel" "py" "[I") ∈ rx_all := rx_inT (i := 542) rfl rfl
set_option maxRecDepth 100000 in
theorem rxw_543 : (Jvm.Cond.fieldLink "AngleChainsModel" (16 : Nat) "AngleChainsModel" "draft" "[I") ∈ rx_all := rx_inT (i := 543) rfl rfl
set_option maxRecDepth 100000 in
theorem rxw_544 : (Jvm.Cond.fieldLink "AngleChainsModel" (108 : Nat) "AngleChainsModel" "drafted" "I") ∈ rx_all := rx_inT (i := 544) rfl rfl
set_option maxRecDepth 100000 in
theorem rxw_545 : (Jvm.Cond.fieldLink "AngleChainsModel" (117 : Nat) "AngleChainsModel" "facts" "I") ∈ rx_all := rx_inT (i := 545) rfl rfl
set_option maxRecDepth 100000 in
theorem rxw_546 : (Jvm.Cond.fieldLink "AngleChainsModel" (19 : Nat) "AngleChainsModel" "factKind" "[I") ∈ rx_all := rx_inT (i := 546) rfl rfl
set_option maxRecDepth 100000 in
theorem rxw_547 : (Jvm.Cond.fieldLink "AngleChainsModel" (22 : Nat) "AngleChainsModel" "factPoint" "[I") ∈ rx_all := rx_inT (i := 547) rfl rfl
set_option maxRecDepth 100000 in
theorem rxw_548 : (Jvm.Cond.fieldLink "AngleChainsModel" (25 : Nat) "AngleChainsModel" "isOn" "[Z") ∈ rx_all := rx_inT (i := 548) rfl rfl
set_option maxRecDepth 100000 in
theorem rxw_549 : (Jvm.Cond.fieldLink "AngleChainsModel" (29 : Nat) "AngleChainsModel" "plays" "[Z") ∈ rx_all := rx_inT (i := 549) rfl rfl
set_option maxRecDepth 100000 in
theorem rxw_550 : (Jvm.Cond.fieldLink "AngleChainsModel" (32 : Nat) "AngleChainsModel" "needed" "[I") ∈ rx_all := rx_inT (i := 550) rfl rfl
set_option maxRecDepth 100000 in
theorem rxw_551 : (Jvm.Cond.fieldLink "AngleChainsModel" (295 : Nat) "AngleChainsModel" "needs" "I") ∈ rx_all := rx_inT (i := 551) rfl rfl
set_option maxRecDepth 100000 in
theorem rxw_552 : (Jvm.Cond.fieldLink "AngleChainsModel" (120 : Nat) "AngleChainsModel" "fresh" "Z") ∈ rx_all := rx_inT (i := 552) rfl rfl
set_option maxRecDepth 100000 in
theorem rxw_553 : (Jvm.Cond.fieldLink "AngleChainsModel" (35 : Nat) "AngleChainsModel" "line" "[I") ∈ rx_all := rx_inT (i := 553) rfl rfl
set_option maxRecDepth 100000 in
theorem rxw_554 : (Jvm.Cond.fieldLink "AngleChainsModel" (38 : Nat) "AngleChainsModel" "circle" "[I") ∈ rx_all := rx_inT (i := 554) rfl rfl
set_option maxRecDepth 100000 in
theorem rxw_555 : (Jvm.Cond.fieldLink "AngleChainsModel" (41 : Nat) "AngleChainsModel" "same" "[I") ∈ rx_all := rx_inT (i := 555) rfl rfl
set_option maxRecDepth 100000 in
theorem rxw_556 : (Jvm.Cond.fieldLink "AngleChainsModel" (142 : Nat) "AngleChainsModel" "news" "Z") ∈ rx_all := rx_inT (i := 556) rfl rfl
set_option maxRecDepth 100000 in
theorem rxw_557 : (Jvm.Cond.fieldLink "AngleChainsModel" (44 : Nat) "AngleChainsModel" "column" "[I") ∈ rx_all := rx_inT (i := 557) rfl rfl
set_option maxRecDepth 100000 in
theorem rxw_558 : (Jvm.Cond.fieldLink "AngleChainsModel" (175 : Nat) "AngleChainsModel" "columns" "I") ∈ rx_all := rx_inT (i := 558) rfl rfl
set_option maxRecDepth 100000 in
theorem rxw_559 : (Jvm.Cond.fieldLink "AngleChainsModel" (139 : Nat) "AngleChainsModel" "moved" "Z") ∈ rx_all := rx_inT (i := 559) rfl rfl
set_option maxRecDepth 100000 in
theorem rxw_560 : (Jvm.Cond.fieldLink "AngleChainsModel" (47 : Nat) "AngleChainsModel" "steps" "[J") ∈ rx_all := rx_inT (i := 560) rfl rfl
set_option maxRecDepth 100000 in
theorem rxw_561 : (Jvm.Cond.fieldLink "AngleChainsModel" (51 : Nat) "AngleChainsModel" "hasStep" "[Z") ∈ rx_all := rx_inT (i := 561) rfl rfl
set_option maxRecDepth 100000 in
theorem rxw_562 : (Jvm.Cond.fieldLink "AngleChainsModel" (54 : Nat) "AngleChainsModel" "row" "[J") ∈ rx_all := rx_inT (i := 562) rfl rfl
set_option maxRecDepth 100000 in
theorem rxw_563 : (Jvm.Cond.fieldLink "AngleChainsModel" (57 : Nat) "AngleChainsModel" "other" "[J") ∈ rx_all := rx_inT (i := 563) rfl rfl
set_option maxRecDepth 100000 in
theorem rxw_564 : (Jvm.Cond.fieldLink "AngleChainsModel" (60 : Nat) "AngleChainsModel" "oldSteps" "[J") ∈ rx_all := rx_inT (i := 564) rfl rfl
set_option maxRecDepth 100000 in
theorem rxw_565 : (Jvm.Cond.fieldLink "AngleChainsModel" (63 : Nat) "AngleChainsModel" "hadStep" "[Z") ∈ rx_all := rx_inT (i := 565) rfl rfl
set_option maxRecDepth 100000 in
theorem rxw_566 : (Jvm.Cond.fieldLink "AngleChainsModel" (66 : Nat) "AngleChainsModel" "oldColumn" "[I") ∈ rx_all := rx_inT (i := 566) rfl rfl
set_option maxRecDepth 100000 in
theorem rxw_567 : (Jvm.Cond.fieldLink "AngleChainsModel" (69 : Nat) "AngleChainsModel" "toColumn" "[I") ∈ rx_all := rx_inT (i := 567) rfl rfl
set_option maxRecDepth 100000 in
theorem rxw_568 : (Jvm.Cond.fieldLink "AngleChainsModel" (72 : Nat) "AngleChainsModel" "reduced" "[J") ∈ rx_all := rx_inT (i := 568) rfl rfl
set_option maxRecDepth 100000 in
theorem rxw_569 : (Jvm.Cond.fieldLink "AngleChainsModel" (75 : Nat) "AngleChainsModel" "numberOf" "[I") ∈ rx_all := rx_inT (i := 569) rfl rfl
set_option maxRecDepth 100000 in
theorem rxw_570 : (Jvm.Cond.fieldLink "AngleChainsModel" (78 : Nat) "AngleChainsModel" "table" "[I") ∈ rx_all := rx_inT (i := 570) rfl rfl
set_option maxRecDepth 100000 in
theorem rxw_571 : (Jvm.Cond.fieldLink "AngleChainsModel" (198 : Nat) "AngleChainsModel" "numbers" "I") ∈ rx_all := rx_inT (i := 571) rfl rfl
set_option maxRecDepth 100000 in
theorem rxw_572 : (Jvm.Cond.fieldLink "AngleChainsModel" (205 : Nat) "AngleChainsModel" "quarter" "I") ∈ rx_all := rx_inT (i := 572) rfl rfl
set_option maxRecDepth 100000 in
theorem rxw_643 : (Jvm.Cond.methodLink "AngleChainsLaw" (17 : Nat) ({ cls := "AngleChainsModel", name := "point", desc := "(II)I" } : Jvm.MethodName)) ∈ rx_all := rx_inT (i := 643) rfl rfl
set_option maxRecDepth 100000 in
theorem rxw_647 : (Jvm.Cond.methodLink "AngleChainsLaw" (22 : Nat) ({ cls := "AngleChainsModel", name := "of", desc := "(I)I" } : Jvm.MethodName)) ∈ rx_all := rx_inT (i := 647) rfl rfl
set_option maxRecDepth 100000 in
theorem rxw_651 : (Jvm.Cond.methodLink "AngleChainsLaw" (26 : Nat) ({ cls := "AngleChainsModel", name := "isTrue", desc := "(I)I" } : Jvm.MethodName)) ∈ rx_all := rx_inT (i := 651) rfl rfl
set_option maxRecDepth 100000 in
theorem rxw_655 : (Jvm.Cond.methodLink "AngleChainsModel" (124 : Nat) ({ cls := "AngleChainsModel", name := "isFact", desc := "(I)Z" } : Jvm.MethodName)) ∈ rx_all := rx_inT (i := 655) rfl rfl
set_option maxRecDepth 100000 in
theorem rxw_659 : (Jvm.Cond.methodLink "AngleChainsModel" (111 : Nat) ({ cls := "AngleChainsModel", name := "pointsOf", desc := "(I)I" } : Jvm.MethodName)) ∈ rx_all := rx_inT (i := 659) rfl rfl
set_option maxRecDepth 100000 in
theorem rxw_662 : (Jvm.Cond.methodLink "AngleChainsModel" (128 : Nat) ({ cls := "AngleChainsModel", name := "holds", desc := "(I)Z" } : Jvm.MethodName)) ∈ rx_all := rx_inT (i := 662) rfl rfl
set_option maxRecDepth 100000 in
theorem rxw_666 : (Jvm.Cond.methodLink "AngleChainsModel" (96 : Nat) ({ cls := "AngleChainsModel", name := "p", desc := "(I)I" } : Jvm.MethodName)) ∈ rx_all := rx_inT (i := 666) rfl rfl
set_option maxRecDepth 100000 in
theorem rxw_670 : (Jvm.Cond.methodLink "AngleChainsModel" (89 : Nat) ({ cls := "AngleChainsModel", name := "isProper", desc := "(III)Z" } : Jvm.MethodName)) ∈ rx_all := rx_inT (i := 670) rfl rfl
set_option maxRecDepth 100000 in
theorem rxw_674 : (Jvm.Cond.methodLink "AngleChainsModel" (85 : Nat) ({ cls := "AngleChainsModel", name := "cross", desc := "(IIII)J" } : Jvm.MethodName)) ∈ rx_all := rx_inT (i := 674) rfl rfl
set_option maxRecDepth 100000 in
theorem rxw_678 : (Jvm.Cond.methodLink "AngleChainsModel" (93 : Nat) ({ cls := "AngleChainsModel", name := "dot", desc := "(IIII)J" } : Jvm.MethodName)) ∈ rx_all := rx_inT (i := 678) rfl rfl
set_option maxRecDepth 100000 in
theorem rxw_682 : (Jvm.Cond.methodLink "AngleChainsModel" (100 : Nat) ({ cls := "AngleChainsModel", name := "isCircle", desc := "(IIII)Z" } : Jvm.MethodName)) ∈ rx_all := rx_inT (i := 682) rfl rfl
set_option maxRecDepth 100000 in
theorem rxw_686 : (Jvm.Cond.methodLink "AngleChainsModel" (104 : Nat) ({ cls := "AngleChainsModel", name := "isTurn", desc := "(IIIIIIII)Z" } : Jvm.MethodName)) ∈ rx_all := rx_inT (i := 686) rfl rfl
set_option maxRecDepth 100000 in
theorem rxw_690 : (Jvm.Cond.methodLink "AngleChainsLaw" (30 : Nat) ({ cls := "AngleChainsModel", name := "fact", desc := "(I)I" } : Jvm.MethodName)) ∈ rx_all := rx_inT (i := 690) rfl rfl
set_option maxRecDepth 100000 in
theorem rxw_694 : (Jvm.Cond.methodLink "AngleChainsLaw" (35 : Nat) ({ cls := "AngleChainsModel", name := "turn", desc := "(IZ)Z" } : Jvm.MethodName)) ∈ rx_all := rx_inT (i := 694) rfl rfl
set_option maxRecDepth 100000 in
theorem rxw_698 : (Jvm.Cond.methodLink "AngleChainsLaw" (39 : Nat) ({ cls := "AngleChainsModel", name := "follows", desc := "(I)I" } : Jvm.MethodName)) ∈ rx_all := rx_inT (i := 698) rfl rfl
set_option maxRecDepth 100000 in
theorem rxw_702 : (Jvm.Cond.methodLink "AngleChainsModel" (289 : Nat) ({ cls := "AngleChainsModel", name := "refresh", desc := "()V" } : Jvm.MethodName)) ∈ rx_all := rx_inT (i := 702) rfl rfl
set_option maxRecDepth 100000 in
theorem rxw_706 : (Jvm.Cond.methodLink "AngleChainsModel" (283 : Nat) ({ cls := "AngleChainsModel", name := "work", desc := "()V" } : Jvm.MethodName)) ∈ rx_all := rx_inT (i := 706) rfl rfl
set_option maxRecDepth 100000 in
theorem rxw_710 : (Jvm.Cond.methodLink "AngleChainsModel" (259 : Nat) ({ cls := "AngleChainsModel", name := "begin", desc := "()V" } : Jvm.MethodName)) ∈ rx_all := rx_inT (i := 710) rfl rfl
set_option maxRecDepth 100000 in
theorem rxw_714 : (Jvm.Cond.methodLink "AngleChainsModel" (180 : Nat) ({ cls := "AngleChainsModel", name := "numberLines", desc := "()V" } : Jvm.MethodName)) ∈ rx_all := rx_inT (i := 714) rfl rfl
set_option maxRecDepth 100000 in
theorem rxw_718 : (Jvm.Cond.methodLink "AngleChainsModel" (135 : Nat) ({ cls := "AngleChainsModel", name := "lineOf", desc := "(II)I" } : Jvm.MethodName)) ∈ rx_all := rx_inT (i := 718) rfl rfl
set_option maxRecDepth 100000 in
theorem rxw_722 : (Jvm.Cond.methodLink "AngleChainsModel" (183 : Nat) ({ cls := "AngleChainsModel", name := "startLattice", desc := "()V" } : Jvm.MethodName)) ∈ rx_all := rx_inT (i := 722) rfl rfl
set_option maxRecDepth 100000 in
theorem rxw_726 : (Jvm.Cond.constantLong "AngleChainsModel" (178 : Nat) (2 : Int64)) ∈ rx_all := rx_inT (i := 726) rfl rfl
set_option maxRecDepth 100000 in
theorem rxw_727 : (Jvm.Cond.methodLink "AngleChainsModel" (262 : Nat) ({ cls := "AngleChainsModel", name := "lineFacts", desc := "()V" } : Jvm.MethodName)) ∈ rx_all := rx_inT (i := 727) rfl rfl
set_option maxRecDepth 100000 in
theorem rxw_731 : (Jvm.Cond.methodLink "AngleChainsModel" (256 : Nat) ({ cls := "AngleChainsModel", name := "f", desc := "(II)I" } : Jvm.MethodName)) ∈ rx_all := rx_inT (i := 731) rfl rfl
set_option maxRecDepth 100000 in
theorem rxw_735 : (Jvm.Cond.methodLink "AngleChainsModel" (216 : Nat) ({ cls := "AngleChainsModel", name := "join", desc := "(I)V" } : Jvm.MethodName)) ∈ rx_all := rx_inT (i := 735) rfl rfl
set_option maxRecDepth 100000 in
theorem rxw_739 : (Jvm.Cond.methodLink "AngleChainsModel" (131 : Nat) ({ cls := "AngleChainsModel", name := "has", desc := "(II)Z" } : Jvm.MethodName)) ∈ rx_all := rx_inT (i := 739) rfl rfl
set_option maxRecDepth 100000 in
theorem rxw_742 : (Jvm.Cond.methodLink "AngleChainsModel" (222 : Nat) ({ cls := "AngleChainsModel", name := "round", desc := "(I)V" } : Jvm.MethodName)) ∈ rx_all := rx_inT (i := 742) rfl rfl
set_option maxRecDepth 100000 in
theorem rxw_746 : (Jvm.Cond.methodLink "AngleChainsModel" (145 : Nat) ({ cls := "AngleChainsModel", name := "circleOf", desc := "(III)I" } : Jvm.MethodName)) ∈ rx_all := rx_inT (i := 746) rfl rfl
set_option maxRecDepth 100000 in
theorem rxw_750 : (Jvm.Cond.methodLink "AngleChainsModel" (225 : Nat) ({ cls := "AngleChainsModel", name := "equal", desc := "(IIII)V" } : Jvm.MethodName)) ∈ rx_all := rx_inT (i := 750) rfl rfl
set_option maxRecDepth 100000 in
theorem rxw_754 : (Jvm.Cond.methodLink "AngleChainsModel" (149 : Nat) ({ cls := "AngleChainsModel", name := "lengthOf", desc := "(II)I" } : Jvm.MethodName)) ∈ rx_all := rx_inT (i := 754) rfl rfl
set_option maxRecDepth 100000 in
theorem rxw_758 : (Jvm.Cond.methodLink "AngleChainsModel" (265 : Nat) ({ cls := "AngleChainsModel", name := "moveColumns", desc := "()V" } : Jvm.MethodName)) ∈ rx_all := rx_inT (i := 758) rfl rfl
set_option maxRecDepth 100000 in
theorem rxw_762 : (Jvm.Cond.methodLink "AngleChainsModel" (168 : Nat) ({ cls := "AngleChainsModel", name := "columnOf", desc := "(II)I" } : Jvm.MethodName)) ∈ rx_all := rx_inT (i := 762) rfl rfl
set_option maxRecDepth 100000 in
theorem rxw_766 : (Jvm.Cond.methodLink "AngleChainsModel" (186 : Nat) ({ cls := "AngleChainsModel", name := "clearRow", desc := "()V" } : Jvm.MethodName)) ∈ rx_all := rx_inT (i := 766) rfl rfl
set_option maxRecDepth 100000 in
theorem rxw_770 : (Jvm.Cond.methodLink "AngleChainsModel" (171 : Nat) ({ cls := "AngleChainsModel", name := "comes", desc := "()Z" } : Jvm.MethodName)) ∈ rx_all := rx_inT (i := 770) rfl rfl
set_option maxRecDepth 100000 in
theorem rxw_774 : (Jvm.Cond.methodLink "AngleChainsModel" (156 : Nat) ({ cls := "AngleChainsModel", name := "reduce", desc := "(I)V" } : Jvm.MethodName)) ∈ rx_all := rx_inT (i := 774) rfl rfl
set_option maxRecDepth 100000 in
theorem rxw_778 : (Jvm.Cond.methodLink "AngleChainsModel" (152 : Nat) ({ cls := "AngleChainsModel", name := "down", desc := "(JJ)J" } : Jvm.MethodName)) ∈ rx_all := rx_inT (i := 778) rfl rfl
set_option maxRecDepth 100000 in
theorem rxw_781 : (Jvm.Cond.methodLink "AngleChainsModel" (160 : Nat) ({ cls := "AngleChainsModel", name := "layStep", desc := "(I)V" } : Jvm.MethodName)) ∈ rx_all := rx_inT (i := 781) rfl rfl
set_option maxRecDepth 100000 in
theorem rxw_785 : (Jvm.Cond.constantLong "AngleChainsModel" (166 : Nat) (-1 : Int64)) ∈ rx_all := rx_inT (i := 785) rfl rfl
set_option maxRecDepth 100000 in
theorem rxw_786 : (Jvm.Cond.methodLink "AngleChainsModel" (163 : Nat) ({ cls := "AngleChainsModel", name := "meet", desc := "(I)V" } : Jvm.MethodName)) ∈ rx_all := rx_inT (i := 786) rfl rfl
set_option maxRecDepth 100000 in
theorem rxw_790 : (Jvm.Cond.methodLink "AngleChainsModel" (268 : Nat) ({ cls := "AngleChainsModel", name := "rowFacts", desc := "()V" } : Jvm.MethodName)) ∈ rx_all := rx_inT (i := 790) rfl rfl
set_option maxRecDepth 100000 in
theorem rxw_794 : (Jvm.Cond.methodLink "AngleChainsModel" (232 : Nat) ({ cls := "AngleChainsModel", name := "rowOf", desc := "(IIIIJ)V" } : Jvm.MethodName)) ∈ rx_all := rx_inT (i := 794) rfl rfl
set_option maxRecDepth 100000 in
theorem rxw_798 : (Jvm.Cond.methodLink "AngleChainsModel" (208 : Nat) ({ cls := "AngleChainsModel", name := "put", desc := "(IIJ)V" } : Jvm.MethodName)) ∈ rx_all := rx_inT (i := 798) rfl rfl
set_option maxRecDepth 100000 in
theorem rxw_802 : (Jvm.Cond.methodLink "AngleChainsModel" (219 : Nat) ({ cls := "AngleChainsModel", name := "rowComes", desc := "()V" } : Jvm.MethodName)) ∈ rx_all := rx_inT (i := 802) rfl rfl
set_option maxRecDepth 100000 in
theorem rxw_806 : (Jvm.Cond.methodLink "AngleChainsModel" (271 : Nat) ({ cls := "AngleChainsModel", name := "numberAll", desc := "()V" } : Jvm.MethodName)) ∈ rx_all := rx_inT (i := 806) rfl rfl
set_option maxRecDepth 100000 in
theorem rxw_810 : (Jvm.Cond.methodLink "AngleChainsModel" (201 : Nat) ({ cls := "AngleChainsModel", name := "number", desc := "()I" } : Jvm.MethodName)) ∈ rx_all := rx_inT (i := 810) rfl rfl
set_option maxRecDepth 100000 in
theorem rxw_814 : (Jvm.Cond.constantLong "AngleChainsModel" (189 : Nat) (17 : Int64)) ∈ rx_all := rx_inT (i := 814) rfl rfl
set_option maxRecDepth 100000 in
theorem rxw_815 : (Jvm.Cond.constantLong "AngleChainsModel" (191 : Nat) (6364136223846793005 : Int64)) ∈ rx_all := rx_inT (i := 815) rfl rfl
set_option maxRecDepth 100000 in
theorem rxw_816 : (Jvm.Cond.constantLong "AngleChainsModel" (193 : Nat) (1442695040888963407 : Int64)) ∈ rx_all := rx_inT (i := 816) rfl rfl
set_option maxRecDepth 100000 in
theorem rxw_817 : (Jvm.Cond.methodLink "AngleChainsModel" (195 : Nat) ({ cls := "AngleChainsModel", name := "isFound", desc := "(I)Z" } : Jvm.MethodName)) ∈ rx_all := rx_inT (i := 817) rfl rfl
set_option maxRecDepth 100000 in
theorem rxw_821 : (Jvm.Cond.methodLink "AngleChainsModel" (274 : Nat) ({ cls := "AngleChainsModel", name := "ruleOne", desc := "()V" } : Jvm.MethodName)) ∈ rx_all := rx_inT (i := 821) rfl rfl
set_option maxRecDepth 100000 in
theorem rxw_825 : (Jvm.Cond.methodLink "AngleChainsModel" (212 : Nat) ({ cls := "AngleChainsModel", name := "turnOf", desc := "(IIII)I" } : Jvm.MethodName)) ∈ rx_all := rx_inT (i := 825) rfl rfl
set_option maxRecDepth 100000 in
theorem rxw_829 : (Jvm.Cond.methodLink "AngleChainsModel" (277 : Nat) ({ cls := "AngleChainsModel", name := "threes", desc := "()V" } : Jvm.MethodName)) ∈ rx_all := rx_inT (i := 829) rfl rfl
set_option maxRecDepth 100000 in
theorem rxw_833 : (Jvm.Cond.methodLink "AngleChainsModel" (229 : Nat) ({ cls := "AngleChainsModel", name := "isEqual", desc := "(IIII)Z" } : Jvm.MethodName)) ∈ rx_all := rx_inT (i := 833) rfl rfl
set_option maxRecDepth 100000 in
theorem rxw_837 : (Jvm.Cond.constantLong "AngleChainsModel" (254 : Nat) (-2 : Int64)) ∈ rx_all := rx_inT (i := 837) rfl rfl
set_option maxRecDepth 100000 in
theorem rxw_838 : (Jvm.Cond.methodLink "AngleChainsModel" (280 : Nat) ({ cls := "AngleChainsModel", name := "fours", desc := "()V" } : Jvm.MethodName)) ∈ rx_all := rx_inT (i := 838) rfl rfl
set_option maxRecDepth 100000 in
theorem rxw_842 : (Jvm.Cond.methodLink "AngleChainsModel" (236 : Nat) ({ cls := "AngleChainsModel", name := "angles", desc := "(IIII)V" } : Jvm.MethodName)) ∈ rx_all := rx_inT (i := 842) rfl rfl
set_option maxRecDepth 100000 in
theorem rxw_846 : (Jvm.Cond.methodLink "AngleChainsModel" (239 : Nat) ({ cls := "AngleChainsModel", name := "parallels", desc := "(IIII)V" } : Jvm.MethodName)) ∈ rx_all := rx_inT (i := 846) rfl rfl
set_option maxRecDepth 100000 in
theorem rxw_850 : (Jvm.Cond.methodLink "AngleChainsModel" (242 : Nat) ({ cls := "AngleChainsModel", name := "perpendiculars", desc := "(IIII)V" } : Jvm.MethodName)) ∈ rx_all := rx_inT (i := 850) rfl rfl
set_option maxRecDepth 100000 in
theorem rxw_854 : (Jvm.Cond.methodLink "AngleChainsModel" (245 : Nat) ({ cls := "AngleChainsModel", name := "halves", desc := "(IIII)V" } : Jvm.MethodName)) ∈ rx_all := rx_inT (i := 854) rfl rfl
set_option maxRecDepth 100000 in
theorem rxw_858 : (Jvm.Cond.methodLink "AngleChainsModel" (248 : Nat) ({ cls := "AngleChainsModel", name := "middles", desc := "(IIII)V" } : Jvm.MethodName)) ∈ rx_all := rx_inT (i := 858) rfl rfl
set_option maxRecDepth 100000 in
theorem rxw_862 : (Jvm.Cond.methodLink "AngleChainsModel" (251 : Nat) ({ cls := "AngleChainsModel", name := "wheels", desc := "(IIII)V" } : Jvm.MethodName)) ∈ rx_all := rx_inT (i := 862) rfl rfl
set_option maxRecDepth 100000 in
theorem rxw_866 : (Jvm.Cond.methodLink "AngleChainsModel" (292 : Nat) ({ cls := "AngleChainsModel", name := "follow", desc := "(I)Z" } : Jvm.MethodName)) ∈ rx_all := rx_inT (i := 866) rfl rfl
set_option maxRecDepth 100000 in
theorem rxw_870 : (Jvm.Cond.methodLink "AngleChainsModel" (286 : Nat) ({ cls := "AngleChainsModel", name := "rowFollows", desc := "()Z" } : Jvm.MethodName)) ∈ rx_all := rx_inT (i := 870) rfl rfl
set_option maxRecDepth 100000 in
theorem rxw_874 : (Jvm.Cond.methodLink "AngleChainsLaw" (43 : Nat) ({ cls := "AngleChainsModel", name := "needs", desc := "(I)I" } : Jvm.MethodName)) ∈ rx_all := rx_inT (i := 874) rfl rfl
set_option maxRecDepth 100000 in
theorem rxw_878 : (Jvm.Cond.methodLink "AngleChainsLaw" (47 : Nat) ({ cls := "AngleChainsModel", name := "need", desc := "(I)I" } : Jvm.MethodName)) ∈ rx_all := rx_inT (i := 878) rfl rfl
set_option maxRecDepth 100000 in
theorem rxw_882 : (Jvm.Cond.methodLink "AngleChainsLaw" (51 : Nat) ({ cls := "AngleChainsModel", name := "line", desc := "(II)I" } : Jvm.MethodName)) ∈ rx_all := rx_inT (i := 882) rfl rfl
set_option maxRecDepth 100000 in
theorem rxw_886 : (Jvm.Cond.methodLink "AngleChainsModel" (298 : Nat) ({ cls := "AngleChainsModel", name := "noPoint", desc := "(I)Z" } : Jvm.MethodName)) ∈ rx_all := rx_inT (i := 886) rfl rfl
set_option maxRecDepth 100000 in
theorem rxw_890 : (Jvm.Cond.methodLink "AngleChainsLaw" (56 : Nat) ({ cls := "AngleChainsModel", name := "circle", desc := "(III)I" } : Jvm.MethodName)) ∈ rx_all := rx_inT (i := 890) rfl rfl
set_option maxRecDepth 100000 in
theorem rxw_894 : (Jvm.Cond.methodLink "AngleChainsLaw" (60 : Nat) ({ cls := "AngleChainsModel", name := "length", desc := "(II)I" } : Jvm.MethodName)) ∈ rx_all := rx_inT (i := 894) rfl rfl
set_option maxRecDepth 100000 in
theorem rxw_898 : (Jvm.Cond.methodLink "AngleChainsLaw" (64 : Nat) ({ cls := "AngleChainsModel", name := "told", desc := "(I)I" } : Jvm.MethodName)) ∈ rx_all := rx_inT (i := 898) rfl rfl
set_option maxRecDepth 100000 in
theorem rxw_902 : (Jvm.Cond.methodLink "AngleChainsModel" (304 : Nat) ({ cls := "AngleChainsModel", name := "circles", desc := "()I" } : Jvm.MethodName)) ∈ rx_all := rx_inT (i := 902) rfl rfl
set_option maxRecDepth 100000 in
theorem rxw_906 : (Jvm.Cond.methodLink "AngleChainsModel" (301 : Nat) ({ cls := "AngleChainsModel", name := "many", desc := "(I)I" } : Jvm.MethodName)) ∈ rx_all := rx_inT (i := 906) rfl rfl
set_option maxRecDepth 100000 in
theorem rxw_909 : (Jvm.Cond.methodLink "AngleChainsModel" (307 : Nat) ({ cls := "AngleChainsModel", name := "lengths", desc := "()I" } : Jvm.MethodName)) ∈ rx_all := rx_inT (i := 909) rfl rfl
set_option maxRecDepth 100000 in
theorem rxw_17 : (Jvm.Cond.instanceMethod ({ cls := "java/lang/Object", name := "<init>", desc := "()V" } : Jvm.MethodName)) ∈ rx_all := rx_inT (i := 17) rfl rfl
set_option maxRecDepth 100000 in
theorem rxw_18 : (Jvm.Cond.code ({ cls := "java/lang/Object", name := "<init>", desc := "()V" } : Jvm.MethodName) object_method_1_code (1 : Nat) (Option.none : Option Jvm.ClassFile.FieldType)) ∈ rx_all := rx_inT (i := 18) rfl rfl
set_option maxRecDepth 100000 in
theorem rxw_325 : (Jvm.Cond.native ({ cls := "java/lang/System", name := "arraycopy", desc := "(Ljava/lang/Object;ILjava/lang/Object;II)V" } : Jvm.MethodName)) ∈ rx_all := rx_inT (i := 325) rfl rfl
set_option maxRecDepth 100000 in
theorem rxw_324 : (Jvm.Cond.static ({ cls := "java/lang/System", name := "arraycopy", desc := "(Ljava/lang/Object;ILjava/lang/Object;II)V" } : Jvm.MethodName)) ∈ rx_all := rx_inT (i := 324) rfl rfl
set_option maxRecDepth 100000 in
theorem rxw_9 : (Jvm.Cond.initialized "java/lang/System") ∈ rx_all := rx_inT (i := 9) rfl rfl
set_option maxRecDepth 100000 in
theorem rxw_16 : (Jvm.Cond.methodLink "AngleChains" (1 : Nat) ({ cls := "java/lang/Object", name := "<init>", desc := "()V" } : Jvm.MethodName)) ∈ rx_all := rx_inT (i := 16) rfl rfl
set_option maxRecDepth 100000 in
theorem rxw_24 : (Jvm.Cond.methodLink "AngleChains$Figure" (3 : Nat) ({ cls := "java/lang/Object", name := "<init>", desc := "()V" } : Jvm.MethodName)) ∈ rx_all := rx_inT (i := 24) rfl rfl
set_option maxRecDepth 100000 in
theorem rxw_44 : (Jvm.Cond.methodLink "AngleChains$Deduction" (3 : Nat) ({ cls := "java/lang/Object", name := "<init>", desc := "()V" } : Jvm.MethodName)) ∈ rx_all := rx_inT (i := 44) rfl rfl
set_option maxRecDepth 100000 in
theorem rxw_50 : (Jvm.Cond.methodLink "AngleChains$Rows" (3 : Nat) ({ cls := "java/lang/Object", name := "<init>", desc := "()V" } : Jvm.MethodName)) ∈ rx_all := rx_inT (i := 50) rfl rfl
set_option maxRecDepth 100000 in
theorem rxw_74 : (Jvm.Cond.methodLink "AngleChains$Cases" (3 : Nat) ({ cls := "java/lang/Object", name := "<init>", desc := "()V" } : Jvm.MethodName)) ∈ rx_all := rx_inT (i := 74) rfl rfl
set_option maxRecDepth 100000 in
theorem rxw_538 : (Jvm.Cond.methodLink "AngleChainsModel" (1 : Nat) ({ cls := "java/lang/Object", name := "<init>", desc := "()V" } : Jvm.MethodName)) ∈ rx_all := rx_inT (i := 538) rfl rfl
set_option maxRecDepth 100000 in
theorem rxw_323 : (Jvm.Cond.methodLink "AngleChains$Deduction" (104 : Nat) ({ cls := "java/lang/System", name := "arraycopy", desc := "(Ljava/lang/Object;ILjava/lang/Object;II)V" } : Jvm.MethodName)) ∈ rx_all := rx_inT (i := 323) rfl rfl
set_option maxRecDepth 100000 in
theorem rxw_381 : (Jvm.Cond.static ({ cls := "java/lang/Math", name := "max", desc := "(II)I" } : Jvm.MethodName)) ∈ rx_all := rx_inT (i := 381) rfl rfl
set_option maxRecDepth 100000 in
theorem rxw_382 : (Jvm.Cond.code ({ cls := "java/lang/Math", name := "max", desc := "(II)I" } : Jvm.MethodName) prog_9_method_65_code (2 : Nat) (Option.some Jvm.ClassFile.FieldType.int)) ∈ rx_all := rx_inT (i := 382) rfl rfl
set_option maxRecDepth 100000 in
theorem rxw_380 : (Jvm.Cond.methodLink "AngleChains$Deduction" (194 : Nat) ({ cls := "java/lang/Math", name := "max", desc := "(II)I" } : Jvm.MethodName)) ∈ rx_all := rx_inT (i := 380) rfl rfl
set_option maxRecDepth 100000 in
theorem rxw_378 : (Jvm.Cond.static ({ cls := "java/lang/Math", name := "min", desc := "(II)I" } : Jvm.MethodName)) ∈ rx_all := rx_inT (i := 378) rfl rfl
set_option maxRecDepth 100000 in
theorem rxw_379 : (Jvm.Cond.code ({ cls := "java/lang/Math", name := "min", desc := "(II)I" } : Jvm.MethodName) prog_9_method_69_code (2 : Nat) (Option.some Jvm.ClassFile.FieldType.int)) ∈ rx_all := rx_inT (i := 379) rfl rfl
set_option maxRecDepth 100000 in
theorem rxw_377 : (Jvm.Cond.methodLink "AngleChains$Deduction" (189 : Nat) ({ cls := "java/lang/Math", name := "min", desc := "(II)I" } : Jvm.MethodName)) ∈ rx_all := rx_inT (i := 377) rfl rfl
set_option maxRecDepth 100000 in
theorem rxw_51 : (Jvm.Cond.classLink "AngleChains$Rows" (9 : Nat) "[[J") ∈ rx_all := rx_inT (i := 51) rfl rfl
set_option maxRecDepth 100000 in
theorem rxn_52 : (Jvm.Cond.arrayOver (Jvm.ClassFile.FieldType.array Jvm.ClassFile.FieldType.long)) ∈ rx_nst := rx_inN (i := 52) rfl rfl
set_option maxRecDepth 100000 in
theorem rxw_68 : (Jvm.Cond.arrayClass Jvm.ClassFile.FieldType.long) ∈ rx_all := rx_inT (i := 68) rfl rfl
set_option maxRecDepth 100000 in
theorem rxw_38 : (Jvm.Cond.arrayClass Jvm.ClassFile.FieldType.int) ∈ rx_all := rx_inT (i := 38) rfl rfl
set_option maxRecDepth 100000 in
theorem rxw_642 : (Jvm.Cond.arrayClass Jvm.ClassFile.FieldType.boolean) ∈ rx_all := rx_inT (i := 642) rfl rfl
