/-! What the Statement gives of the start, place by place -/
def nF : List Cond := flatC (Jvm.Cond.and given_1 narrow_1)
theorem nf {args : Array Value} {s : State} (h : (Jvm.Cond.and given_1 narrow_1).before args s = true) {w : Cond} {k : Nat} (hk : nF[k]? = some w) : w.before args s = true := flat_of_before _ h w (List.mem_of_getElem? hk)
def sTm (s : Nat) : Term := .string (rx_SR.getD s ("", 0, "", 0)).1 (rx_SR.getD s ("", 0, "", 0)).2.1
def sOf (s : Nat) : Nat := ([497, 508, 514, 521, 530, 537, 544, 550, 559, 566, 576, 585, 591, 599, 608, 616, 622, 627, 652, 676, 699, 715, 731, 753, 788, 819, 849, 861, 868, 876, 886, 894, 902, 913, 927, 940, 954, 961, 971, 981, 990, 997, 1004, 1011, 1018, 1027, 1036, 1043, 1053, 1061, 1070, 1080, 1088, 1096, 1104, 1113, 1121, 1127, 1133, 1139, 1146] : List Nat).getD s 0
def kNm (i : Nat) : String := (["GAP", "WIDTH", "VIA", "LENGTH", "SKEW", "TURNS", "HEIGHT", "MASK", "SILK", "TEST", "PLANE", "RING", "WAIVER"] : List String).getD i ""
def uNm (i : Nat) : String := (["NM", "UM", "MM", "MIL", "INCH"] : List String).getD i ""
def kOf (i : Nat) : Nat := ([5, 256, 263, 271, 280, 290, 301, 313, 326, 340, 355, 371, 32] : List Nat).getD i 0
def uOf (i : Nat) : Nat := ([388, 405, 423, 442, 462] : List Nat).getD i 0
def kTm (i : Nat) : Term := .static "RuleText$Kind" (kNm i) "LRuleText$Kind;"
def uTm (i : Nat) : Term := .static "RuleText$Unit" (uNm i) "LRuleText$Unit;"
def oTm (i : Nat) : Term := if i < 13 then kTm i else uTm (i - 13)
def nIx (i j : Nat) : Nat × Bool := ([[], [(261, false)], [(268, false), (270, false)], [(276, false), (278, false), (279, false)], [(285, false), (287, false), (288, false), (289, false)], [(295, false), (297, false), (298, false), (299, false), (300, false)], [(306, false), (308, false), (309, false), (310, false), (311, false), (312, false)], [(318, false), (320, false), (321, false), (322, false), (323, false), (324, false), (325, false)], [(331, false), (333, false), (334, false), (335, false), (336, false), (337, false), (338, false), (339, false)], [(345, false), (347, false), (348, false), (349, false), (350, false), (351, false), (352, false), (353, false), (354, false)], [(360, false), (362, false), (363, false), (364, false), (365, false), (366, false), (367, false), (368, false), (369, false), (370, false)], [(376, false), (378, false), (379, false), (380, false), (381, false), (382, false), (383, false), (384, false), (385, false), (386, false), (387, false)], [(37, false), (262, true), (269, true), (277, true), (286, true), (296, true), (307, true), (319, true), (332, true), (346, true), (361, true), (377, true)], [(392, false), (394, false), (395, false), (396, false), (397, false), (398, false), (399, false), (400, false), (401, false), (402, false), (403, false), (404, false), (393, false)], [(409, false), (411, false), (412, false), (413, false), (414, false), (415, false), (416, false), (417, false), (418, false), (419, false), (420, false), (421, false), (410, false), (422, false)], [(427, false), (429, false), (430, false), (431, false), (432, false), (433, false), (434, false), (435, false), (436, false), (437, false), (438, false), (439, false), (428, false), (440, false), (441, false)], [(446, false), (448, false), (449, false), (450, false), (451, false), (452, false), (453, false), (454, false), (455, false), (456, false), (457, false), (458, false), (447, false), (459, false), (460, false), (461, false)], [(466, false), (468, false), (469, false), (470, false), (471, false), (472, false), (473, false), (474, false), (475, false), (476, false), (477, false), (478, false), (467, false), (479, false), (480, false), (481, false), (482, false)]] : List (List (Nat × Bool))).getD i [] |>.getD j (0, true)
theorem n_ex : ∀ s, s < 61 → nF[sOf s]? = some (Cond.exactly (sTm s) "java/lang/String") := by decide +kernel
theorem n_co : ∀ s, s < 61 → nF[sOf s + 1]? = some (Cond.eq (.field (sTm s) "java/lang/String" "coder" "B") (.int 0)) := by decide +kernel
theorem n_ar : ∀ s, s < 61 → nF[sOf s + 2]? = some (Cond.arrayOf (.field (sTm s) "java/lang/String" "value" "[B") .byte) := by decide +kernel
theorem n_le : ∀ s, s < 61 → nF[sOf s + 3]? = some (Cond.eq (.length (.field (sTm s) "java/lang/String" "value" "[B")) (.int (Int32.ofNat (rx_sl s)))) := by decide +kernel
theorem n_el : ∀ s, s < 61 → ∀ j, j < rx_sl s → nF[sOf s + 4 + j]? = some (Cond.eq (.elem (.field (sTm s) "java/lang/String" "value" "[B") (.int (Int32.ofNat j))) (.int (rx_sb s j))) := by decide +kernel
theorem n_kx : ∀ i, i < 13 → nF[kOf i]? = some (Cond.exactly (kTm i) "RuleText$Kind") := by decide +kernel
theorem n_kn : ∀ i, i < 13 → nF[kOf i + 2]? = some (Cond.eq (.field (kTm i) "RuleText$Kind" "number" "I") (.int (nI i))) := by decide +kernel
theorem n_kw : ∀ i, i < 13 → nF[kOf i + 3]? = some (Cond.eq (.field (kTm i) "RuleText$Kind" "word" "Ljava/lang/String;") (sTm (rx_kw i - 30))) := by decide +kernel
theorem n_kc : ∀ i, i < 13 → nF[kOf i + 4]? = some (Cond.eq (.field (kTm i) "RuleText$Kind" "counted" "Z") (.int (rx_kc i))) := by decide +kernel
theorem n_ux : ∀ i, i < 5 → nF[uOf i]? = some (Cond.exactly (uTm i) "RuleText$Unit") := by decide +kernel
theorem n_uw : ∀ i, i < 5 → nF[uOf i + 2]? = some (Cond.eq (.field (uTm i) "RuleText$Unit" "word" "Ljava/lang/String;") (sTm (rx_uw i - 30))) := by decide +kernel
theorem n_un : ∀ i, i < 5 → nF[uOf i + 3]? = some (Cond.eq (.field (uTm i) "RuleText$Unit" "nm" "J") (.long (rx_un i))) := by decide +kernel
theorem n_ne : ∀ i, i < 18 → ∀ j, j < i → nF[(nIx i j).1]? = some (if (nIx i j).2 then Cond.not (.eq (oTm i) (oTm j)) else Cond.not (.eq (oTm j) (oTm i))) := by decide +kernel
theorem n_Ka : nF[12]? = some (Cond.arrayOf (.static "RuleText" "KINDS" "[LRuleText$Kind;") (.object "RuleText$Kind")) := by decide +kernel
theorem n_Kl : nF[13]? = some (Cond.eq (.length (.static "RuleText" "KINDS" "[LRuleText$Kind;")) (.int (Int32.ofNat 13))) := by decide +kernel
theorem n_Ke : ∀ j, j < 13 → nF[15 + j]? = some (Cond.eq (.elem (.static "RuleText" "KINDS" "[LRuleText$Kind;") (.int (Int32.ofNat j))) (kTm j)) := by decide +kernel
theorem n_Ua : nF[40]? = some (Cond.arrayOf (.static "RuleText" "UNITS" "[LRuleText$Unit;") (.object "RuleText$Unit")) := by decide +kernel
theorem n_Ul : nF[41]? = some (Cond.eq (.length (.static "RuleText" "UNITS" "[LRuleText$Unit;")) (.int (Int32.ofNat 5))) := by decide +kernel
theorem n_Ue : ∀ j, j < 5 → nF[43 + j]? = some (Cond.eq (.elem (.static "RuleText" "UNITS" "[LRuleText$Unit;") (.int (Int32.ofNat j))) (uTm j)) := by decide +kernel
theorem n_1a : nF[51]? = some (Cond.arrayOf (.static "java/lang/Integer" "DigitOnes" "[B") .byte) := by decide +kernel
theorem n_1l : nF[52]? = some (Cond.eq (.length (.static "java/lang/Integer" "DigitOnes" "[B")) (.int (Int32.ofNat 100))) := by decide +kernel
theorem n_1e : ∀ j, j < 100 → nF[53 + j]? = some (Cond.eq (.elem (.static "java/lang/Integer" "DigitOnes" "[B") (.int (Int32.ofNat j))) (.int (rx_d1 j))) := by decide +kernel
theorem n_2a : nF[154]? = some (Cond.arrayOf (.static "java/lang/Integer" "DigitTens" "[B") .byte) := by decide +kernel
theorem n_2l : nF[155]? = some (Cond.eq (.length (.static "java/lang/Integer" "DigitTens" "[B")) (.int (Int32.ofNat 100))) := by decide +kernel
theorem n_2e : ∀ j, j < 100 → nF[156 + j]? = some (Cond.eq (.elem (.static "java/lang/Integer" "DigitTens" "[B") (.int (Int32.ofNat j))) (.int (rx_d10 j))) := by decide +kernel
theorem n_cs : nF[4]? = some (Cond.eq (.static "java/lang/String" "COMPACT_STRINGS" "Z") (.int 1)) := by decide +kernel
theorem n_fm : nF[28]? = some (Cond.isRef (.static "jdk/internal/util/Preconditions" "SIOOBE_FORMATTER" "Ljava/util/function/BiFunction;")) := by decide +kernel
theorem n_us : nF[48]? = some (Cond.isRef (.static "java/lang/Throwable" "UNASSIGNED_STACK" "[Ljava/lang/StackTraceElement;")) := by decide +kernel
theorem n_ss : nF[49]? = some (Cond.isRef (.static "java/lang/Throwable" "SUPPRESSED_SENTINEL" "Ljava/util/List;")) := by decide +kernel
