/-! closed facts: the links of the pool entries that the code names; by the words' places in lw_tbl (written by wip/whole/mkwords.py) -/
theorem tg143 : TG (u_lay RX0 TX0 0) := ⟨List.mem_of_getElem? (i := 143) (by decide +kernel), by decide +kernel⟩
theorem us_X0 : ∀ w ∈ u_ws RX0 TX0 1, TG w := by
  intro w hw
  obtain ⟨k, hk, rfl⟩ := List.mem_map.mp hw
  have hk := List.mem_range.mp hk
  match k, hk with
  | 0, _ => exact tg143
  | k + 1, h => exact absurd h (by omega)
theorem tg102 : TG (u_lay RX1 TX1 0) := ⟨List.mem_of_getElem? (i := 102) (by decide +kernel), by decide +kernel⟩
theorem tg104 : TG (u_lay RX1 TX1 1) := ⟨List.mem_of_getElem? (i := 104) (by decide +kernel), by decide +kernel⟩
theorem tg106 : TG (u_lay RX1 TX1 2) := ⟨List.mem_of_getElem? (i := 106) (by decide +kernel), by decide +kernel⟩
theorem tg108 : TG (u_lay RX1 TX1 3) := ⟨List.mem_of_getElem? (i := 108) (by decide +kernel), by decide +kernel⟩
theorem us_X1 : ∀ w ∈ u_ws RX1 TX1 4, TG w := by
  intro w hw
  obtain ⟨k, hk, rfl⟩ := List.mem_map.mp hw
  have hk := List.mem_range.mp hk
  match k, hk with
  | 0, _ => exact tg102
  | 1, _ => exact tg104
  | 2, _ => exact tg106
  | 3, _ => exact tg108
  | k + 4, h => exact absurd h (by omega)
theorem tg133 : TG (u_lay RX2 TX2 0) := ⟨List.mem_of_getElem? (i := 133) (by decide +kernel), by decide +kernel⟩
theorem us_X2 : ∀ w ∈ u_ws RX2 TX2 1, TG w := by
  intro w hw
  obtain ⟨k, hk, rfl⟩ := List.mem_map.mp hw
  have hk := List.mem_range.mp hk
  match k, hk with
  | 0, _ => exact tg133
  | k + 1, h => exact absurd h (by omega)
theorem tg177 : TG (u_lay RX3 TX3 0) := ⟨List.mem_of_getElem? (i := 177) (by decide +kernel), by decide +kernel⟩
theorem tg179 : TG (u_lay RX3 TX3 1) := ⟨List.mem_of_getElem? (i := 179) (by decide +kernel), by decide +kernel⟩
theorem tg181 : TG (u_lay RX3 TX3 2) := ⟨List.mem_of_getElem? (i := 181) (by decide +kernel), by decide +kernel⟩
theorem tg183 : TG (u_lay RX3 TX3 3) := ⟨List.mem_of_getElem? (i := 183) (by decide +kernel), by decide +kernel⟩
theorem tg185 : TG (u_lay RX3 TX3 4) := ⟨List.mem_of_getElem? (i := 185) (by decide +kernel), by decide +kernel⟩
theorem tg187 : TG (u_lay RX3 TX3 5) := ⟨List.mem_of_getElem? (i := 187) (by decide +kernel), by decide +kernel⟩
theorem tg189 : TG (u_lay RX3 TX3 6) := ⟨List.mem_of_getElem? (i := 189) (by decide +kernel), by decide +kernel⟩
theorem tg191 : TG (u_lay RX3 TX3 7) := ⟨List.mem_of_getElem? (i := 191) (by decide +kernel), by decide +kernel⟩
theorem tg193 : TG (u_lay RX3 TX3 8) := ⟨List.mem_of_getElem? (i := 193) (by decide +kernel), by decide +kernel⟩
theorem tg195 : TG (u_lay RX3 TX3 9) := ⟨List.mem_of_getElem? (i := 195) (by decide +kernel), by decide +kernel⟩
theorem us_X3 : ∀ w ∈ u_ws RX3 TX3 10, TG w := by
  intro w hw
  obtain ⟨k, hk, rfl⟩ := List.mem_map.mp hw
  have hk := List.mem_range.mp hk
  match k, hk with
  | 0, _ => exact tg177
  | 1, _ => exact tg179
  | 2, _ => exact tg181
  | 3, _ => exact tg183
  | 4, _ => exact tg185
  | 5, _ => exact tg187
  | 6, _ => exact tg189
  | 7, _ => exact tg191
  | 8, _ => exact tg193
  | 9, _ => exact tg195
  | k + 10, h => exact absurd h (by omega)
theorem tg121 : TG (u_lay RX4 TX4 0) := ⟨List.mem_of_getElem? (i := 121) (by decide +kernel), by decide +kernel⟩
theorem tg123 : TG (u_lay RX4 TX4 1) := ⟨List.mem_of_getElem? (i := 123) (by decide +kernel), by decide +kernel⟩
theorem us_X4 : ∀ w ∈ u_ws RX4 TX4 2, TG w := by
  intro w hw
  obtain ⟨k, hk, rfl⟩ := List.mem_map.mp hw
  have hk := List.mem_range.mp hk
  match k, hk with
  | 0, _ => exact tg121
  | 1, _ => exact tg123
  | k + 2, h => exact absurd h (by omega)
theorem tg209 : TG (u_lay RX5 TX5 0) := ⟨List.mem_of_getElem? (i := 209) (by decide +kernel), by decide +kernel⟩
theorem tg211 : TG (u_lay RX5 TX5 1) := ⟨List.mem_of_getElem? (i := 211) (by decide +kernel), by decide +kernel⟩
theorem tg213 : TG (u_lay RX5 TX5 2) := ⟨List.mem_of_getElem? (i := 213) (by decide +kernel), by decide +kernel⟩
theorem tg215 : TG (u_lay RX5 TX5 3) := ⟨List.mem_of_getElem? (i := 215) (by decide +kernel), by decide +kernel⟩
theorem tg217 : TG (u_lay RX5 TX5 4) := ⟨List.mem_of_getElem? (i := 217) (by decide +kernel), by decide +kernel⟩
theorem tg219 : TG (u_lay RX5 TX5 5) := ⟨List.mem_of_getElem? (i := 219) (by decide +kernel), by decide +kernel⟩
theorem tg221 : TG (u_lay RX5 TX5 6) := ⟨List.mem_of_getElem? (i := 221) (by decide +kernel), by decide +kernel⟩
theorem tg223 : TG (u_lay RX5 TX5 7) := ⟨List.mem_of_getElem? (i := 223) (by decide +kernel), by decide +kernel⟩
theorem tg225 : TG (u_lay RX5 TX5 8) := ⟨List.mem_of_getElem? (i := 225) (by decide +kernel), by decide +kernel⟩
theorem us_X5 : ∀ w ∈ u_ws RX5 TX5 9, TG w := by
  intro w hw
  obtain ⟨k, hk, rfl⟩ := List.mem_map.mp hw
  have hk := List.mem_range.mp hk
  match k, hk with
  | 0, _ => exact tg209
  | 1, _ => exact tg211
  | 2, _ => exact tg213
  | 3, _ => exact tg215
  | 4, _ => exact tg217
  | 5, _ => exact tg219
  | 6, _ => exact tg221
  | 7, _ => exact tg223
  | 8, _ => exact tg225
  | k + 9, h => exact absurd h (by omega)
theorem tg748 : TG (u_lay RX6 TX6 0) := ⟨List.mem_of_getElem? (i := 748) (by decide +kernel), by decide +kernel⟩
theorem tg750 : TG (u_lay RX6 TX6 1) := ⟨List.mem_of_getElem? (i := 750) (by decide +kernel), by decide +kernel⟩
theorem tg752 : TG (u_lay RX6 TX6 2) := ⟨List.mem_of_getElem? (i := 752) (by decide +kernel), by decide +kernel⟩
theorem tg754 : TG (u_lay RX6 TX6 3) := ⟨List.mem_of_getElem? (i := 754) (by decide +kernel), by decide +kernel⟩
theorem tg756 : TG (u_lay RX6 TX6 4) := ⟨List.mem_of_getElem? (i := 756) (by decide +kernel), by decide +kernel⟩
theorem tg758 : TG (u_lay RX6 TX6 5) := ⟨List.mem_of_getElem? (i := 758) (by decide +kernel), by decide +kernel⟩
theorem tg760 : TG (u_lay RX6 TX6 6) := ⟨List.mem_of_getElem? (i := 760) (by decide +kernel), by decide +kernel⟩
theorem tg762 : TG (u_lay RX6 TX6 7) := ⟨List.mem_of_getElem? (i := 762) (by decide +kernel), by decide +kernel⟩
theorem tg764 : TG (u_lay RX6 TX6 8) := ⟨List.mem_of_getElem? (i := 764) (by decide +kernel), by decide +kernel⟩
theorem tg766 : TG (u_lay RX6 TX6 9) := ⟨List.mem_of_getElem? (i := 766) (by decide +kernel), by decide +kernel⟩
theorem tg768 : TG (u_lay RX6 TX6 10) := ⟨List.mem_of_getElem? (i := 768) (by decide +kernel), by decide +kernel⟩
theorem tg770 : TG (u_lay RX6 TX6 11) := ⟨List.mem_of_getElem? (i := 770) (by decide +kernel), by decide +kernel⟩
theorem tg772 : TG (u_lay RX6 TX6 12) := ⟨List.mem_of_getElem? (i := 772) (by decide +kernel), by decide +kernel⟩
theorem tg774 : TG (u_lay RX6 TX6 13) := ⟨List.mem_of_getElem? (i := 774) (by decide +kernel), by decide +kernel⟩
theorem tg776 : TG (u_lay RX6 TX6 14) := ⟨List.mem_of_getElem? (i := 776) (by decide +kernel), by decide +kernel⟩
theorem tg778 : TG (u_lay RX6 TX6 15) := ⟨List.mem_of_getElem? (i := 778) (by decide +kernel), by decide +kernel⟩
theorem tg780 : TG (u_lay RX6 TX6 16) := ⟨List.mem_of_getElem? (i := 780) (by decide +kernel), by decide +kernel⟩
theorem tg782 : TG (u_lay RX6 TX6 17) := ⟨List.mem_of_getElem? (i := 782) (by decide +kernel), by decide +kernel⟩
theorem tg784 : TG (u_lay RX6 TX6 18) := ⟨List.mem_of_getElem? (i := 784) (by decide +kernel), by decide +kernel⟩
theorem tg786 : TG (u_lay RX6 TX6 19) := ⟨List.mem_of_getElem? (i := 786) (by decide +kernel), by decide +kernel⟩
theorem tg788 : TG (u_lay RX6 TX6 20) := ⟨List.mem_of_getElem? (i := 788) (by decide +kernel), by decide +kernel⟩
theorem tg790 : TG (u_lay RX6 TX6 21) := ⟨List.mem_of_getElem? (i := 790) (by decide +kernel), by decide +kernel⟩
theorem tg792 : TG (u_lay RX6 TX6 22) := ⟨List.mem_of_getElem? (i := 792) (by decide +kernel), by decide +kernel⟩
theorem tg794 : TG (u_lay RX6 TX6 23) := ⟨List.mem_of_getElem? (i := 794) (by decide +kernel), by decide +kernel⟩
theorem tg796 : TG (u_lay RX6 TX6 24) := ⟨List.mem_of_getElem? (i := 796) (by decide +kernel), by decide +kernel⟩
theorem tg798 : TG (u_lay RX6 TX6 25) := ⟨List.mem_of_getElem? (i := 798) (by decide +kernel), by decide +kernel⟩
theorem tg800 : TG (u_lay RX6 TX6 26) := ⟨List.mem_of_getElem? (i := 800) (by decide +kernel), by decide +kernel⟩
theorem tg802 : TG (u_lay RX6 TX6 27) := ⟨List.mem_of_getElem? (i := 802) (by decide +kernel), by decide +kernel⟩
theorem tg804 : TG (u_lay RX6 TX6 28) := ⟨List.mem_of_getElem? (i := 804) (by decide +kernel), by decide +kernel⟩
theorem tg806 : TG (u_lay RX6 TX6 29) := ⟨List.mem_of_getElem? (i := 806) (by decide +kernel), by decide +kernel⟩
theorem us_X6 : ∀ w ∈ u_ws RX6 TX6 30, TG w := by
  intro w hw
  obtain ⟨k, hk, rfl⟩ := List.mem_map.mp hw
  have hk := List.mem_range.mp hk
  match k, hk with
  | 0, _ => exact tg748
  | 1, _ => exact tg750
  | 2, _ => exact tg752
  | 3, _ => exact tg754
  | 4, _ => exact tg756
  | 5, _ => exact tg758
  | 6, _ => exact tg760
  | 7, _ => exact tg762
  | 8, _ => exact tg764
  | 9, _ => exact tg766
  | 10, _ => exact tg768
  | 11, _ => exact tg770
  | 12, _ => exact tg772
  | 13, _ => exact tg774
  | 14, _ => exact tg776
  | 15, _ => exact tg778
  | 16, _ => exact tg780
  | 17, _ => exact tg782
  | 18, _ => exact tg784
  | 19, _ => exact tg786
  | 20, _ => exact tg788
  | 21, _ => exact tg790
  | 22, _ => exact tg792
  | 23, _ => exact tg794
  | 24, _ => exact tg796
  | 25, _ => exact tg798
  | 26, _ => exact tg800
  | 27, _ => exact tg802
  | 28, _ => exact tg804
  | 29, _ => exact tg806
  | k + 30, h => exact absurd h (by omega)
theorem tg561 : TG (.code yX5_add cX5_add 2 (some .int)) := ⟨List.mem_of_getElem? (i := 561) (by decide +kernel), by decide +kernel⟩
theorem tg62 : TG (.initialized yX5_add.cls) := ⟨List.mem_of_getElem? (i := 62) (by decide +kernel), by decide +kernel⟩
theorem tg558 : TG (.methodLink RL 7 yX5_add) := ⟨List.mem_of_getElem? (i := 558) (by decide +kernel), by decide +kernel⟩
theorem tg559 : TG (.instanceMethod yX5_add) := ⟨List.mem_of_getElem? (i := 559) (by decide +kernel), by decide +kernel⟩
theorem tg560 : TG (.selects yX5_add.cls yX5_add yX5_add) := ⟨List.mem_of_getElem? (i := 560) (by decide +kernel), by decide +kernel⟩
theorem lk_L_7 : LV RL 7 yX5_add cX5_add 2 (some .int) 1 := ⟨tg558, tg559, tg560, tg62, tg561, ⟨by decide +kernel, by decide +kernel, by decide +kernel⟩⟩
theorem tg657 : TG (.code yX5_binary cX5_binary 3 (some .int)) := ⟨List.mem_of_getElem? (i := 657) (by decide +kernel), by decide +kernel⟩
theorem tg654 : TG (.methodLink RL 17 yX5_binary) := ⟨List.mem_of_getElem? (i := 654) (by decide +kernel), by decide +kernel⟩
theorem tg655 : TG (.instanceMethod yX5_binary) := ⟨List.mem_of_getElem? (i := 655) (by decide +kernel), by decide +kernel⟩
theorem tg656 : TG (.selects yX5_binary.cls yX5_binary yX5_binary) := ⟨List.mem_of_getElem? (i := 656) (by decide +kernel), by decide +kernel⟩
theorem lk_L_17 : LV RL 17 yX5_binary cX5_binary 3 (some .int) 2 := ⟨tg654, tg655, tg656, tg62, tg657, ⟨by decide +kernel, by decide +kernel, by decide +kernel⟩⟩
theorem tg684 : TG (.code yX5_binaryReal cX5_binaryReal 2 (some .double)) := ⟨List.mem_of_getElem? (i := 684) (by decide +kernel), by decide +kernel⟩
theorem tg681 : TG (.methodLink RL 23 yX5_binaryReal) := ⟨List.mem_of_getElem? (i := 681) (by decide +kernel), by decide +kernel⟩
theorem tg682 : TG (.instanceMethod yX5_binaryReal) := ⟨List.mem_of_getElem? (i := 682) (by decide +kernel), by decide +kernel⟩
theorem tg683 : TG (.selects yX5_binaryReal.cls yX5_binaryReal yX5_binaryReal) := ⟨List.mem_of_getElem? (i := 683) (by decide +kernel), by decide +kernel⟩
theorem lk_L_23 : LV RL 23 yX5_binaryReal cX5_binaryReal 2 (some .double) 1 := ⟨tg681, tg682, tg683, tg62, tg684, ⟨by decide +kernel, by decide +kernel, by decide +kernel⟩⟩
theorem tg692 : TG (.code yX5_octet cX5_octet 2 (some .byte)) := ⟨List.mem_of_getElem? (i := 692) (by decide +kernel), by decide +kernel⟩
theorem tg689 : TG (.methodLink RL 27 yX5_octet) := ⟨List.mem_of_getElem? (i := 689) (by decide +kernel), by decide +kernel⟩
theorem tg690 : TG (.instanceMethod yX5_octet) := ⟨List.mem_of_getElem? (i := 690) (by decide +kernel), by decide +kernel⟩
theorem tg691 : TG (.selects yX5_octet.cls yX5_octet yX5_octet) := ⟨List.mem_of_getElem? (i := 691) (by decide +kernel), by decide +kernel⟩
theorem lk_L_27 : LV RL 27 yX5_octet cX5_octet 2 (some .byte) 1 := ⟨tg689, tg690, tg691, tg62, tg692, ⟨by decide +kernel, by decide +kernel, by decide +kernel⟩⟩
theorem tg81 : TG (.code yX5_init cX5_init 1 none) := ⟨List.mem_of_getElem? (i := 81) (by decide +kernel), by decide +kernel⟩
theorem tg79 : TG (.methodLink RL 33 yX5_init) := ⟨List.mem_of_getElem? (i := 79) (by decide +kernel), by decide +kernel⟩
theorem tg80 : TG (.instanceMethod yX5_init) := ⟨List.mem_of_getElem? (i := 80) (by decide +kernel), by decide +kernel⟩
theorem lk_L_33 : LI RL 33 yX5_init cX5_init 1 0 := ⟨tg79, tg80, tg62, tg81, ⟨by decide +kernel, by decide +kernel, by decide +kernel⟩⟩
theorem tg716 : TG (.code yX6_init cX6_init 1 none) := ⟨List.mem_of_getElem? (i := 716) (by decide +kernel), by decide +kernel⟩
theorem tg68 : TG (.initialized yX6_init.cls) := ⟨List.mem_of_getElem? (i := 68) (by decide +kernel), by decide +kernel⟩
theorem tg714 : TG (.methodLink RL 36 yX6_init) := ⟨List.mem_of_getElem? (i := 714) (by decide +kernel), by decide +kernel⟩
theorem tg715 : TG (.instanceMethod yX6_init) := ⟨List.mem_of_getElem? (i := 715) (by decide +kernel), by decide +kernel⟩
theorem lk_L_36 : LI RL 36 yX6_init cX6_init 1 0 := ⟨tg714, tg715, tg68, tg716, ⟨by decide +kernel, by decide +kernel, by decide +kernel⟩⟩
theorem tg816 : TG (.code yX6_add cX6_add 2 (some .int)) := ⟨List.mem_of_getElem? (i := 816) (by decide +kernel), by decide +kernel⟩
theorem tg813 : TG (.methodLink RL 42 yX6_add) := ⟨List.mem_of_getElem? (i := 813) (by decide +kernel), by decide +kernel⟩
theorem tg814 : TG (.instanceMethod yX6_add) := ⟨List.mem_of_getElem? (i := 814) (by decide +kernel), by decide +kernel⟩
theorem tg815 : TG (.selects yX6_add.cls yX6_add yX6_add) := ⟨List.mem_of_getElem? (i := 815) (by decide +kernel), by decide +kernel⟩
theorem lk_L_42 : LV RL 42 yX6_add cX6_add 2 (some .int) 1 := ⟨tg813, tg814, tg815, tg68, tg816, ⟨by decide +kernel, by decide +kernel, by decide +kernel⟩⟩
theorem tg812 : TG (.code yX6_thrown cX6_thrown 1 (some .int)) := ⟨List.mem_of_getElem? (i := 812) (by decide +kernel), by decide +kernel⟩
theorem tg809 : TG (.methodLink RL 43 yX6_thrown) := ⟨List.mem_of_getElem? (i := 809) (by decide +kernel), by decide +kernel⟩
theorem tg810 : TG (.instanceMethod yX6_thrown) := ⟨List.mem_of_getElem? (i := 810) (by decide +kernel), by decide +kernel⟩
theorem tg811 : TG (.selects yX6_thrown.cls yX6_thrown yX6_thrown) := ⟨List.mem_of_getElem? (i := 811) (by decide +kernel), by decide +kernel⟩
theorem lk_L_43 : LV RL 43 yX6_thrown cX6_thrown 1 (some .int) 0 := ⟨tg809, tg810, tg811, tg68, tg812, ⟨by decide +kernel, by decide +kernel, by decide +kernel⟩⟩
theorem tg231 : TG (.code yX5_end cX5_end 1 (some .int)) := ⟨List.mem_of_getElem? (i := 231) (by decide +kernel), by decide +kernel⟩
theorem tg228 : TG (.methodLink RL 47 yX5_end) := ⟨List.mem_of_getElem? (i := 228) (by decide +kernel), by decide +kernel⟩
theorem tg229 : TG (.instanceMethod yX5_end) := ⟨List.mem_of_getElem? (i := 229) (by decide +kernel), by decide +kernel⟩
theorem tg230 : TG (.selects yX5_end.cls yX5_end yX5_end) := ⟨List.mem_of_getElem? (i := 230) (by decide +kernel), by decide +kernel⟩
theorem lk_L_47 : LV RL 47 yX5_end cX5_end 1 (some .int) 0 := ⟨tg228, tg229, tg230, tg62, tg231, ⟨by decide +kernel, by decide +kernel, by decide +kernel⟩⟩
theorem tg820 : TG (.code yX6_end cX6_end 1 (some .int)) := ⟨List.mem_of_getElem? (i := 820) (by decide +kernel), by decide +kernel⟩
theorem tg817 : TG (.methodLink RL 50 yX6_end) := ⟨List.mem_of_getElem? (i := 817) (by decide +kernel), by decide +kernel⟩
theorem tg818 : TG (.instanceMethod yX6_end) := ⟨List.mem_of_getElem? (i := 818) (by decide +kernel), by decide +kernel⟩
theorem tg819 : TG (.selects yX6_end.cls yX6_end yX6_end) := ⟨List.mem_of_getElem? (i := 819) (by decide +kernel), by decide +kernel⟩
theorem lk_L_50 : LV RL 50 yX6_end cX6_end 1 (some .int) 0 := ⟨tg817, tg818, tg819, tg68, tg820, ⟨by decide +kernel, by decide +kernel, by decide +kernel⟩⟩
theorem tg235 : TG (.code yX5_next cX5_next 3 (some .int)) := ⟨List.mem_of_getElem? (i := 235) (by decide +kernel), by decide +kernel⟩
theorem tg232 : TG (.methodLink RL 51 yX5_next) := ⟨List.mem_of_getElem? (i := 232) (by decide +kernel), by decide +kernel⟩
theorem tg233 : TG (.instanceMethod yX5_next) := ⟨List.mem_of_getElem? (i := 233) (by decide +kernel), by decide +kernel⟩
theorem tg234 : TG (.selects yX5_next.cls yX5_next yX5_next) := ⟨List.mem_of_getElem? (i := 234) (by decide +kernel), by decide +kernel⟩
theorem lk_L_51 : LV RL 51 yX5_next cX5_next 3 (some .int) 0 := ⟨tg232, tg233, tg234, tg62, tg235, ⟨by decide +kernel, by decide +kernel, by decide +kernel⟩⟩
theorem tg824 : TG (.code yX6_next cX6_next 2 (some .int)) := ⟨List.mem_of_getElem? (i := 824) (by decide +kernel), by decide +kernel⟩
theorem tg821 : TG (.methodLink RL 54 yX6_next) := ⟨List.mem_of_getElem? (i := 821) (by decide +kernel), by decide +kernel⟩
theorem tg822 : TG (.instanceMethod yX6_next) := ⟨List.mem_of_getElem? (i := 822) (by decide +kernel), by decide +kernel⟩
theorem tg823 : TG (.selects yX6_next.cls yX6_next yX6_next) := ⟨List.mem_of_getElem? (i := 823) (by decide +kernel), by decide +kernel⟩
theorem lk_L_54 : LV RL 54 yX6_next cX6_next 2 (some .int) 0 := ⟨tg821, tg822, tg823, tg68, tg824, ⟨by decide +kernel, by decide +kernel, by decide +kernel⟩⟩
theorem tg523 : TG (.code yX5_whole cX5_whole 1 (some .long)) := ⟨List.mem_of_getElem? (i := 523) (by decide +kernel), by decide +kernel⟩
theorem tg520 : TG (.methodLink RL 55 yX5_whole) := ⟨List.mem_of_getElem? (i := 520) (by decide +kernel), by decide +kernel⟩
theorem tg521 : TG (.instanceMethod yX5_whole) := ⟨List.mem_of_getElem? (i := 521) (by decide +kernel), by decide +kernel⟩
theorem tg522 : TG (.selects yX5_whole.cls yX5_whole yX5_whole) := ⟨List.mem_of_getElem? (i := 522) (by decide +kernel), by decide +kernel⟩
theorem lk_L_55 : LV RL 55 yX5_whole cX5_whole 1 (some .long) 0 := ⟨tg520, tg521, tg522, tg62, tg523, ⟨by decide +kernel, by decide +kernel, by decide +kernel⟩⟩
theorem tg989 : TG (.code yX6_whole cX6_whole 1 (some .long)) := ⟨List.mem_of_getElem? (i := 989) (by decide +kernel), by decide +kernel⟩
theorem tg986 : TG (.methodLink RL 59 yX6_whole) := ⟨List.mem_of_getElem? (i := 986) (by decide +kernel), by decide +kernel⟩
theorem tg987 : TG (.instanceMethod yX6_whole) := ⟨List.mem_of_getElem? (i := 987) (by decide +kernel), by decide +kernel⟩
theorem tg988 : TG (.selects yX6_whole.cls yX6_whole yX6_whole) := ⟨List.mem_of_getElem? (i := 988) (by decide +kernel), by decide +kernel⟩
theorem lk_L_59 : LV RL 59 yX6_whole cX6_whole 1 (some .long) 0 := ⟨tg986, tg987, tg988, tg68, tg989, ⟨by decide +kernel, by decide +kernel, by decide +kernel⟩⟩
theorem tg527 : TG (.code yX5_real cX5_real 1 (some .double)) := ⟨List.mem_of_getElem? (i := 527) (by decide +kernel), by decide +kernel⟩
theorem tg524 : TG (.methodLink RL 60 yX5_real) := ⟨List.mem_of_getElem? (i := 524) (by decide +kernel), by decide +kernel⟩
theorem tg525 : TG (.instanceMethod yX5_real) := ⟨List.mem_of_getElem? (i := 525) (by decide +kernel), by decide +kernel⟩
theorem tg526 : TG (.selects yX5_real.cls yX5_real yX5_real) := ⟨List.mem_of_getElem? (i := 526) (by decide +kernel), by decide +kernel⟩
theorem lk_L_60 : LV RL 60 yX5_real cX5_real 1 (some .double) 0 := ⟨tg524, tg525, tg526, tg62, tg527, ⟨by decide +kernel, by decide +kernel, by decide +kernel⟩⟩
theorem tg993 : TG (.code yX6_real cX6_real 1 (some .double)) := ⟨List.mem_of_getElem? (i := 993) (by decide +kernel), by decide +kernel⟩
theorem tg990 : TG (.methodLink RL 64 yX6_real) := ⟨List.mem_of_getElem? (i := 990) (by decide +kernel), by decide +kernel⟩
theorem tg991 : TG (.instanceMethod yX6_real) := ⟨List.mem_of_getElem? (i := 991) (by decide +kernel), by decide +kernel⟩
theorem tg992 : TG (.selects yX6_real.cls yX6_real yX6_real) := ⟨List.mem_of_getElem? (i := 992) (by decide +kernel), by decide +kernel⟩
theorem lk_L_64 : LV RL 64 yX6_real cX6_real 1 (some .double) 0 := ⟨tg990, tg991, tg992, tg68, tg993, ⟨by decide +kernel, by decide +kernel, by decide +kernel⟩⟩
theorem tg531 : TG (.code yX5_sign cX5_sign 2 (some .int)) := ⟨List.mem_of_getElem? (i := 531) (by decide +kernel), by decide +kernel⟩
theorem tg528 : TG (.methodLink RL 65 yX5_sign) := ⟨List.mem_of_getElem? (i := 528) (by decide +kernel), by decide +kernel⟩
theorem tg529 : TG (.instanceMethod yX5_sign) := ⟨List.mem_of_getElem? (i := 529) (by decide +kernel), by decide +kernel⟩
theorem tg530 : TG (.selects yX5_sign.cls yX5_sign yX5_sign) := ⟨List.mem_of_getElem? (i := 530) (by decide +kernel), by decide +kernel⟩
theorem lk_L_65 : LV RL 65 yX5_sign cX5_sign 2 (some .int) 1 := ⟨tg528, tg529, tg530, tg62, tg531, ⟨by decide +kernel, by decide +kernel, by decide +kernel⟩⟩
theorem tg997 : TG (.code yX6_sign cX6_sign 2 (some .int)) := ⟨List.mem_of_getElem? (i := 997) (by decide +kernel), by decide +kernel⟩
theorem tg994 : TG (.methodLink RL 69 yX6_sign) := ⟨List.mem_of_getElem? (i := 994) (by decide +kernel), by decide +kernel⟩
theorem tg995 : TG (.instanceMethod yX6_sign) := ⟨List.mem_of_getElem? (i := 995) (by decide +kernel), by decide +kernel⟩
theorem tg996 : TG (.selects yX6_sign.cls yX6_sign yX6_sign) := ⟨List.mem_of_getElem? (i := 996) (by decide +kernel), by decide +kernel⟩
theorem lk_L_69 : LV RL 69 yX6_sign cX6_sign 2 (some .int) 1 := ⟨tg994, tg995, tg996, tg68, tg997, ⟨by decide +kernel, by decide +kernel, by decide +kernel⟩⟩
theorem tg1001 : TG (.code yX6_binary cX6_binary 3 (some .int)) := ⟨List.mem_of_getElem? (i := 1001) (by decide +kernel), by decide +kernel⟩
theorem tg998 : TG (.methodLink RL 73 yX6_binary) := ⟨List.mem_of_getElem? (i := 998) (by decide +kernel), by decide +kernel⟩
theorem tg999 : TG (.instanceMethod yX6_binary) := ⟨List.mem_of_getElem? (i := 999) (by decide +kernel), by decide +kernel⟩
theorem tg1000 : TG (.selects yX6_binary.cls yX6_binary yX6_binary) := ⟨List.mem_of_getElem? (i := 1000) (by decide +kernel), by decide +kernel⟩
theorem lk_L_73 : LV RL 73 yX6_binary cX6_binary 3 (some .int) 2 := ⟨tg998, tg999, tg1000, tg68, tg1001, ⟨by decide +kernel, by decide +kernel, by decide +kernel⟩⟩
theorem tg1005 : TG (.code yX6_binaryReal cX6_binaryReal 2 (some .double)) := ⟨List.mem_of_getElem? (i := 1005) (by decide +kernel), by decide +kernel⟩
theorem tg1002 : TG (.methodLink RL 77 yX6_binaryReal) := ⟨List.mem_of_getElem? (i := 1002) (by decide +kernel), by decide +kernel⟩
theorem tg1003 : TG (.instanceMethod yX6_binaryReal) := ⟨List.mem_of_getElem? (i := 1003) (by decide +kernel), by decide +kernel⟩
theorem tg1004 : TG (.selects yX6_binaryReal.cls yX6_binaryReal yX6_binaryReal) := ⟨List.mem_of_getElem? (i := 1004) (by decide +kernel), by decide +kernel⟩
theorem lk_L_77 : LV RL 77 yX6_binaryReal cX6_binaryReal 2 (some .double) 1 := ⟨tg1002, tg1003, tg1004, tg68, tg1005, ⟨by decide +kernel, by decide +kernel, by decide +kernel⟩⟩
theorem tg536 : TG (.code yX5_place cX5_place 1 (some .int)) := ⟨List.mem_of_getElem? (i := 536) (by decide +kernel), by decide +kernel⟩
theorem tg533 : TG (.methodLink RL 78 yX5_place) := ⟨List.mem_of_getElem? (i := 533) (by decide +kernel), by decide +kernel⟩
theorem tg534 : TG (.instanceMethod yX5_place) := ⟨List.mem_of_getElem? (i := 534) (by decide +kernel), by decide +kernel⟩
theorem tg535 : TG (.selects yX5_place.cls yX5_place yX5_place) := ⟨List.mem_of_getElem? (i := 535) (by decide +kernel), by decide +kernel⟩
theorem lk_L_78 : LV RL 78 yX5_place cX5_place 1 (some .int) 0 := ⟨tg533, tg534, tg535, tg62, tg536, ⟨by decide +kernel, by decide +kernel, by decide +kernel⟩⟩
theorem tg1009 : TG (.code yX6_place cX6_place 1 (some .int)) := ⟨List.mem_of_getElem? (i := 1009) (by decide +kernel), by decide +kernel⟩
theorem tg1006 : TG (.methodLink RL 81 yX6_place) := ⟨List.mem_of_getElem? (i := 1006) (by decide +kernel), by decide +kernel⟩
theorem tg1007 : TG (.instanceMethod yX6_place) := ⟨List.mem_of_getElem? (i := 1007) (by decide +kernel), by decide +kernel⟩
theorem tg1008 : TG (.selects yX6_place.cls yX6_place yX6_place) := ⟨List.mem_of_getElem? (i := 1008) (by decide +kernel), by decide +kernel⟩
theorem lk_L_81 : LV RL 81 yX6_place cX6_place 1 (some .int) 0 := ⟨tg1006, tg1007, tg1008, tg68, tg1009, ⟨by decide +kernel, by decide +kernel, by decide +kernel⟩⟩
theorem tg540 : TG (.code yX5_base cX5_base 1 (some .int)) := ⟨List.mem_of_getElem? (i := 540) (by decide +kernel), by decide +kernel⟩
theorem tg537 : TG (.methodLink RL 82 yX5_base) := ⟨List.mem_of_getElem? (i := 537) (by decide +kernel), by decide +kernel⟩
theorem tg538 : TG (.instanceMethod yX5_base) := ⟨List.mem_of_getElem? (i := 538) (by decide +kernel), by decide +kernel⟩
theorem tg539 : TG (.selects yX5_base.cls yX5_base yX5_base) := ⟨List.mem_of_getElem? (i := 539) (by decide +kernel), by decide +kernel⟩
theorem lk_L_82 : LV RL 82 yX5_base cX5_base 1 (some .int) 0 := ⟨tg537, tg538, tg539, tg62, tg540, ⟨by decide +kernel, by decide +kernel, by decide +kernel⟩⟩
theorem tg1013 : TG (.code yX6_base cX6_base 1 (some .int)) := ⟨List.mem_of_getElem? (i := 1013) (by decide +kernel), by decide +kernel⟩
theorem tg1010 : TG (.methodLink RL 85 yX6_base) := ⟨List.mem_of_getElem? (i := 1010) (by decide +kernel), by decide +kernel⟩
theorem tg1011 : TG (.instanceMethod yX6_base) := ⟨List.mem_of_getElem? (i := 1011) (by decide +kernel), by decide +kernel⟩
theorem tg1012 : TG (.selects yX6_base.cls yX6_base yX6_base) := ⟨List.mem_of_getElem? (i := 1012) (by decide +kernel), by decide +kernel⟩
theorem lk_L_85 : LV RL 85 yX6_base cX6_base 1 (some .int) 0 := ⟨tg1010, tg1011, tg1012, tg68, tg1013, ⟨by decide +kernel, by decide +kernel, by decide +kernel⟩⟩
theorem tg544 : TG (.code yX5_depth cX5_depth 1 (some .int)) := ⟨List.mem_of_getElem? (i := 544) (by decide +kernel), by decide +kernel⟩
theorem tg541 : TG (.methodLink RL 86 yX5_depth) := ⟨List.mem_of_getElem? (i := 541) (by decide +kernel), by decide +kernel⟩
theorem tg542 : TG (.instanceMethod yX5_depth) := ⟨List.mem_of_getElem? (i := 542) (by decide +kernel), by decide +kernel⟩
theorem tg543 : TG (.selects yX5_depth.cls yX5_depth yX5_depth) := ⟨List.mem_of_getElem? (i := 543) (by decide +kernel), by decide +kernel⟩
theorem lk_L_86 : LV RL 86 yX5_depth cX5_depth 1 (some .int) 0 := ⟨tg541, tg542, tg543, tg62, tg544, ⟨by decide +kernel, by decide +kernel, by decide +kernel⟩⟩
theorem tg1017 : TG (.code yX6_depth cX6_depth 1 (some .int)) := ⟨List.mem_of_getElem? (i := 1017) (by decide +kernel), by decide +kernel⟩
theorem tg1014 : TG (.methodLink RL 89 yX6_depth) := ⟨List.mem_of_getElem? (i := 1014) (by decide +kernel), by decide +kernel⟩
theorem tg1015 : TG (.instanceMethod yX6_depth) := ⟨List.mem_of_getElem? (i := 1015) (by decide +kernel), by decide +kernel⟩
theorem tg1016 : TG (.selects yX6_depth.cls yX6_depth yX6_depth) := ⟨List.mem_of_getElem? (i := 1016) (by decide +kernel), by decide +kernel⟩
theorem lk_L_89 : LV RL 89 yX6_depth cX6_depth 1 (some .int) 0 := ⟨tg1014, tg1015, tg1016, tg68, tg1017, ⟨by decide +kernel, by decide +kernel, by decide +kernel⟩⟩
theorem tg1021 : TG (.code yX6_octet cX6_octet 2 (some .byte)) := ⟨List.mem_of_getElem? (i := 1021) (by decide +kernel), by decide +kernel⟩
theorem tg1018 : TG (.methodLink RL 93 yX6_octet) := ⟨List.mem_of_getElem? (i := 1018) (by decide +kernel), by decide +kernel⟩
theorem tg1019 : TG (.instanceMethod yX6_octet) := ⟨List.mem_of_getElem? (i := 1019) (by decide +kernel), by decide +kernel⟩
theorem tg1020 : TG (.selects yX6_octet.cls yX6_octet yX6_octet) := ⟨List.mem_of_getElem? (i := 1020) (by decide +kernel), by decide +kernel⟩
theorem lk_L_93 : LV RL 93 yX6_octet cX6_octet 2 (some .byte) 1 := ⟨tg1018, tg1019, tg1020, tg68, tg1021, ⟨by decide +kernel, by decide +kernel, by decide +kernel⟩⟩
theorem tg548 : TG (.code yX5_clear cX5_clear 1 none) := ⟨List.mem_of_getElem? (i := 548) (by decide +kernel), by decide +kernel⟩
theorem tg545 : TG (.methodLink RL 94 yX5_clear) := ⟨List.mem_of_getElem? (i := 545) (by decide +kernel), by decide +kernel⟩
theorem tg546 : TG (.instanceMethod yX5_clear) := ⟨List.mem_of_getElem? (i := 546) (by decide +kernel), by decide +kernel⟩
theorem tg547 : TG (.selects yX5_clear.cls yX5_clear yX5_clear) := ⟨List.mem_of_getElem? (i := 547) (by decide +kernel), by decide +kernel⟩
theorem lk_L_94 : LV RL 94 yX5_clear cX5_clear 1 none 0 := ⟨tg545, tg546, tg547, tg62, tg548, ⟨by decide +kernel, by decide +kernel, by decide +kernel⟩⟩
theorem tg1025 : TG (.code yX6_clear cX6_clear 1 none) := ⟨List.mem_of_getElem? (i := 1025) (by decide +kernel), by decide +kernel⟩
theorem tg1022 : TG (.methodLink RL 97 yX6_clear) := ⟨List.mem_of_getElem? (i := 1022) (by decide +kernel), by decide +kernel⟩
theorem tg1023 : TG (.instanceMethod yX6_clear) := ⟨List.mem_of_getElem? (i := 1023) (by decide +kernel), by decide +kernel⟩
theorem tg1024 : TG (.selects yX6_clear.cls yX6_clear yX6_clear) := ⟨List.mem_of_getElem? (i := 1024) (by decide +kernel), by decide +kernel⟩
theorem lk_L_97 : LV RL 97 yX6_clear cX6_clear 1 none 0 := ⟨tg1022, tg1023, tg1024, tg68, tg1025, ⟨by decide +kernel, by decide +kernel, by decide +kernel⟩⟩
theorem tg142 : TG (.fieldLink RX0 9 (TX0 0).1 (TX0 0).2.1 (TX0 0).2.2.1) := ⟨List.mem_of_getElem? (i := 142) (by decide +kernel), by decide +kernel⟩
theorem fl_X0_9 : FL RX0 9 1 0 RX0 TX0 1 := ⟨rfl, by decide, tg142, us_X0⟩
theorem tg271 : TG (.code yX0_readNumber cX0_readNumber 5 (some .int)) := ⟨List.mem_of_getElem? (i := 271) (by decide +kernel), by decide +kernel⟩
theorem tg66 : TG (.initialized yX0_readNumber.cls) := ⟨List.mem_of_getElem? (i := 66) (by decide +kernel), by decide +kernel⟩
theorem tg268 : TG (.methodLink RX0 15 yX0_readNumber) := ⟨List.mem_of_getElem? (i := 268) (by decide +kernel), by decide +kernel⟩
theorem tg270 : TG (.instanceMethod yX0_readNumber) := ⟨List.mem_of_getElem? (i := 270) (by decide +kernel), by decide +kernel⟩
theorem tg2 : TG (.selects yX0_readNumber.cls yX0_readNumber yX0_readNumber) := ⟨List.mem_of_getElem? (i := 2) (by decide +kernel), by decide +kernel⟩
theorem lk_X0_15 : LV RX0 15 yX0_readNumber cX0_readNumber 5 (some .int) 3 := ⟨tg268, tg270, tg2, tg66, tg271, ⟨by decide +kernel, by decide +kernel, by decide +kernel⟩⟩
theorem tg292 : TG (.code yX0_readFixed cX0_readFixed 5 (some .int)) := ⟨List.mem_of_getElem? (i := 292) (by decide +kernel), by decide +kernel⟩
theorem tg289 : TG (.methodLink RX0 19 yX0_readFixed) := ⟨List.mem_of_getElem? (i := 289) (by decide +kernel), by decide +kernel⟩
theorem tg291 : TG (.instanceMethod yX0_readFixed) := ⟨List.mem_of_getElem? (i := 291) (by decide +kernel), by decide +kernel⟩
theorem tg5 : TG (.selects yX0_readFixed.cls yX0_readFixed yX0_readFixed) := ⟨List.mem_of_getElem? (i := 5) (by decide +kernel), by decide +kernel⟩
theorem lk_X0_19 : LV RX0 19 yX0_readFixed cX0_readFixed 5 (some .int) 1 := ⟨tg289, tg291, tg5, tg66, tg292, ⟨by decide +kernel, by decide +kernel, by decide +kernel⟩⟩
theorem tg314 : TG (.code yX0_readFloat cX0_readFloat 5 (some .int)) := ⟨List.mem_of_getElem? (i := 314) (by decide +kernel), by decide +kernel⟩
theorem tg311 : TG (.methodLink RX0 23 yX0_readFloat) := ⟨List.mem_of_getElem? (i := 311) (by decide +kernel), by decide +kernel⟩
theorem tg313 : TG (.instanceMethod yX0_readFloat) := ⟨List.mem_of_getElem? (i := 313) (by decide +kernel), by decide +kernel⟩
theorem tg6 : TG (.selects yX0_readFloat.cls yX0_readFloat yX0_readFloat) := ⟨List.mem_of_getElem? (i := 6) (by decide +kernel), by decide +kernel⟩
theorem lk_X0_23 : LV RX0 23 yX0_readFloat cX0_readFloat 5 (some .int) 2 := ⟨tg311, tg313, tg6, tg66, tg314, ⟨by decide +kernel, by decide +kernel, by decide +kernel⟩⟩
theorem tg326 : TG (.code yX0_readTruth cX0_readTruth 4 (some .int)) := ⟨List.mem_of_getElem? (i := 326) (by decide +kernel), by decide +kernel⟩
theorem tg323 : TG (.methodLink RX0 27 yX0_readTruth) := ⟨List.mem_of_getElem? (i := 323) (by decide +kernel), by decide +kernel⟩
theorem tg325 : TG (.instanceMethod yX0_readTruth) := ⟨List.mem_of_getElem? (i := 325) (by decide +kernel), by decide +kernel⟩
theorem tg7 : TG (.selects yX0_readTruth.cls yX0_readTruth yX0_readTruth) := ⟨List.mem_of_getElem? (i := 7) (by decide +kernel), by decide +kernel⟩
theorem lk_X0_27 : LV RX0 27 yX0_readTruth cX0_readTruth 4 (some .int) 1 := ⟨tg323, tg325, tg7, tg66, tg326, ⟨by decide +kernel, by decide +kernel, by decide +kernel⟩⟩
theorem tg334 : TG (.code yX0_readString cX0_readString 7 (some .int)) := ⟨List.mem_of_getElem? (i := 334) (by decide +kernel), by decide +kernel⟩
theorem tg331 : TG (.methodLink RX0 30 yX0_readString) := ⟨List.mem_of_getElem? (i := 331) (by decide +kernel), by decide +kernel⟩
theorem tg333 : TG (.instanceMethod yX0_readString) := ⟨List.mem_of_getElem? (i := 333) (by decide +kernel), by decide +kernel⟩
theorem tg9 : TG (.selects yX0_readString.cls yX0_readString yX0_readString) := ⟨List.mem_of_getElem? (i := 9) (by decide +kernel), by decide +kernel⟩
theorem lk_X0_30 : LV RX0 30 yX0_readString cX0_readString 7 (some .int) 3 := ⟨tg331, tg333, tg9, tg66, tg334, ⟨by decide +kernel, by decide +kernel, by decide +kernel⟩⟩
theorem tg330 : TG (.code yX0_readNumbered cX0_readNumbered 4 (some .int)) := ⟨List.mem_of_getElem? (i := 330) (by decide +kernel), by decide +kernel⟩
theorem tg327 : TG (.methodLink RX0 33 yX0_readNumbered) := ⟨List.mem_of_getElem? (i := 327) (by decide +kernel), by decide +kernel⟩
theorem tg329 : TG (.instanceMethod yX0_readNumbered) := ⟨List.mem_of_getElem? (i := 329) (by decide +kernel), by decide +kernel⟩
theorem tg8 : TG (.selects yX0_readNumbered.cls yX0_readNumbered yX0_readNumbered) := ⟨List.mem_of_getElem? (i := 8) (by decide +kernel), by decide +kernel⟩
theorem lk_X0_33 : LV RX0 33 yX0_readNumbered cX0_readNumbered 4 (some .int) 2 := ⟨tg327, tg329, tg8, tg66, tg330, ⟨by decide +kernel, by decide +kernel, by decide +kernel⟩⟩
theorem tg351 : TG (.code yX0_readRow cX0_readRow 5 (some .int)) := ⟨List.mem_of_getElem? (i := 351) (by decide +kernel), by decide +kernel⟩
theorem tg348 : TG (.methodLink RX0 37 yX0_readRow) := ⟨List.mem_of_getElem? (i := 348) (by decide +kernel), by decide +kernel⟩
theorem tg350 : TG (.instanceMethod yX0_readRow) := ⟨List.mem_of_getElem? (i := 350) (by decide +kernel), by decide +kernel⟩
theorem tg11 : TG (.selects yX0_readRow.cls yX0_readRow yX0_readRow) := ⟨List.mem_of_getElem? (i := 11) (by decide +kernel), by decide +kernel⟩
theorem lk_X0_37 : LV RX0 37 yX0_readRow cX0_readRow 5 (some .int) 1 := ⟨tg348, tg350, tg11, tg66, tg351, ⟨by decide +kernel, by decide +kernel, by decide +kernel⟩⟩
theorem tg158 : TG (.fieldLink RX0 40 (TX3 1).1 (TX3 1).2.1 (TX3 1).2.2.1) := ⟨List.mem_of_getElem? (i := 158) (by decide +kernel), by decide +kernel⟩
theorem fl_X0_40 : FL RX0 40 4 1 RX3 TX3 10 := ⟨rfl, by decide, tg158, us_X3⟩
theorem tg95 : TG (.fieldLink RX0 46 (TX1 1).1 (TX1 1).2.1 (TX1 1).2.2.1) := ⟨List.mem_of_getElem? (i := 95) (by decide +kernel), by decide +kernel⟩
theorem fl_X0_46 : FL RX0 46 2 1 RX1 TX1 4 := ⟨rfl, by decide, tg95, us_X1⟩
theorem tg155 : TG (.fieldLink RX0 51 (TX3 0).1 (TX3 0).2.1 (TX3 0).2.2.1) := ⟨List.mem_of_getElem? (i := 155) (by decide +kernel), by decide +kernel⟩
theorem fl_X0_51 : FL RX0 51 4 0 RX3 TX3 10 := ⟨rfl, by decide, tg155, us_X3⟩
theorem tg275 : TG (.code yX0_reaches cX0_reaches 3 (some .boolean)) := ⟨List.mem_of_getElem? (i := 275) (by decide +kernel), by decide +kernel⟩
theorem tg272 : TG (.methodLink RX0 54 yX0_reaches) := ⟨List.mem_of_getElem? (i := 272) (by decide +kernel), by decide +kernel⟩
theorem tg274 : TG (.instanceMethod yX0_reaches) := ⟨List.mem_of_getElem? (i := 274) (by decide +kernel), by decide +kernel⟩
theorem tg3 : TG (.selects yX0_reaches.cls yX0_reaches yX0_reaches) := ⟨List.mem_of_getElem? (i := 3) (by decide +kernel), by decide +kernel⟩
theorem lk_X0_54 : LV RX0 54 yX0_reaches cX0_reaches 3 (some .boolean) 2 := ⟨tg272, tg274, tg3, tg66, tg275, ⟨by decide +kernel, by decide +kernel, by decide +kernel⟩⟩
theorem tg279 : TG (.code yX1_lacking cX1_lacking 2 (some .int)) := ⟨List.mem_of_getElem? (i := 279) (by decide +kernel), by decide +kernel⟩
theorem tg63 : TG (.initialized yX1_lacking.cls) := ⟨List.mem_of_getElem? (i := 63) (by decide +kernel), by decide +kernel⟩
theorem tg276 : TG (.methodLink RX0 58 yX1_lacking) := ⟨List.mem_of_getElem? (i := 276) (by decide +kernel), by decide +kernel⟩
theorem tg277 : TG (.instanceMethod yX1_lacking) := ⟨List.mem_of_getElem? (i := 277) (by decide +kernel), by decide +kernel⟩
theorem tg278 : TG (.selects yX1_lacking.cls yX1_lacking yX1_lacking) := ⟨List.mem_of_getElem? (i := 278) (by decide +kernel), by decide +kernel⟩
theorem lk_X0_58 : LV RX0 58 yX1_lacking cX1_lacking 2 (some .int) 1 := ⟨tg276, tg277, tg278, tg63, tg279, ⟨by decide +kernel, by decide +kernel, by decide +kernel⟩⟩
theorem tg283 : TG (.code yX0_signedAt cX0_signedAt 6 (some .int)) := ⟨List.mem_of_getElem? (i := 283) (by decide +kernel), by decide +kernel⟩
theorem tg280 : TG (.methodLink RX0 61 yX0_signedAt) := ⟨List.mem_of_getElem? (i := 280) (by decide +kernel), by decide +kernel⟩
theorem tg282 : TG (.instanceMethod yX0_signedAt) := ⟨List.mem_of_getElem? (i := 282) (by decide +kernel), by decide +kernel⟩
theorem tg4 : TG (.selects yX0_signedAt.cls yX0_signedAt yX0_signedAt) := ⟨List.mem_of_getElem? (i := 4) (by decide +kernel), by decide +kernel⟩
theorem lk_X0_61 : LV RX0 61 yX0_signedAt cX0_signedAt 6 (some .int) 3 := ⟨tg280, tg282, tg4, tg66, tg283, ⟨by decide +kernel, by decide +kernel, by decide +kernel⟩⟩
theorem tg288 : TG (.code yX3_asWhole cX3_asWhole 4 (some .int)) := ⟨List.mem_of_getElem? (i := 288) (by decide +kernel), by decide +kernel⟩
theorem tg67 : TG (.initialized yX3_asWhole.cls) := ⟨List.mem_of_getElem? (i := 67) (by decide +kernel), by decide +kernel⟩
theorem tg285 : TG (.methodLink RX0 65 yX3_asWhole) := ⟨List.mem_of_getElem? (i := 285) (by decide +kernel), by decide +kernel⟩
theorem tg286 : TG (.instanceMethod yX3_asWhole) := ⟨List.mem_of_getElem? (i := 286) (by decide +kernel), by decide +kernel⟩
theorem tg287 : TG (.selects yX3_asWhole.cls yX3_asWhole yX3_asWhole) := ⟨List.mem_of_getElem? (i := 287) (by decide +kernel), by decide +kernel⟩
theorem lk_X0_65 : LV RX0 65 yX3_asWhole cX3_asWhole 4 (some .int) 2 := ⟨tg285, tg286, tg287, tg67, tg288, ⟨by decide +kernel, by decide +kernel, by decide +kernel⟩⟩
theorem tg243 : TG (.code yX1_at cX1_at 2 (some .int)) := ⟨List.mem_of_getElem? (i := 243) (by decide +kernel), by decide +kernel⟩
theorem tg284 : TG (.methodLink RX0 69 yX1_at) := ⟨List.mem_of_getElem? (i := 284) (by decide +kernel), by decide +kernel⟩
theorem tg241 : TG (.instanceMethod yX1_at) := ⟨List.mem_of_getElem? (i := 241) (by decide +kernel), by decide +kernel⟩
theorem tg242 : TG (.selects yX1_at.cls yX1_at yX1_at) := ⟨List.mem_of_getElem? (i := 242) (by decide +kernel), by decide +kernel⟩
theorem lk_X0_69 : LV RX0 69 yX1_at cX1_at 2 (some .int) 1 := ⟨tg284, tg241, tg242, tg63, tg243, ⟨by decide +kernel, by decide +kernel, by decide +kernel⟩⟩
theorem tg296 : TG (.code yX3_wrongByte cX3_wrongByte 3 (some .int)) := ⟨List.mem_of_getElem? (i := 296) (by decide +kernel), by decide +kernel⟩
theorem tg293 : TG (.methodLink RX0 73 yX3_wrongByte) := ⟨List.mem_of_getElem? (i := 293) (by decide +kernel), by decide +kernel⟩
theorem tg294 : TG (.instanceMethod yX3_wrongByte) := ⟨List.mem_of_getElem? (i := 294) (by decide +kernel), by decide +kernel⟩
theorem tg295 : TG (.selects yX3_wrongByte.cls yX3_wrongByte yX3_wrongByte) := ⟨List.mem_of_getElem? (i := 295) (by decide +kernel), by decide +kernel⟩
theorem lk_X0_73 : LV RX0 73 yX3_wrongByte cX3_wrongByte 3 (some .int) 2 := ⟨tg293, tg294, tg295, tg67, tg296, ⟨by decide +kernel, by decide +kernel, by decide +kernel⟩⟩
theorem tg299 : TG (.code yX0_widthOf cX0_widthOf 2 (some .int)) := ⟨List.mem_of_getElem? (i := 299) (by decide +kernel), by decide +kernel⟩
theorem tg297 : TG (.methodLink RX0 77 yX0_widthOf) := ⟨List.mem_of_getElem? (i := 297) (by decide +kernel), by decide +kernel⟩
theorem tg298 : TG (.static yX0_widthOf) := ⟨List.mem_of_getElem? (i := 298) (by decide +kernel), by decide +kernel⟩
theorem lk_X0_77 : LSt RX0 77 yX0_widthOf cX0_widthOf 2 (some .int) 1 := ⟨tg297, tg298, tg66, tg299, ⟨by decide +kernel, by decide +kernel, by decide +kernel⟩⟩
theorem tg302 : TG (.code yX0_fixedValue cX0_fixedValue 2 (some .double)) := ⟨List.mem_of_getElem? (i := 302) (by decide +kernel), by decide +kernel⟩
theorem tg300 : TG (.methodLink RX0 80 yX0_fixedValue) := ⟨List.mem_of_getElem? (i := 300) (by decide +kernel), by decide +kernel⟩
theorem tg301 : TG (.static yX0_fixedValue) := ⟨List.mem_of_getElem? (i := 301) (by decide +kernel), by decide +kernel⟩
theorem lk_X0_80 : LSt RX0 80 yX0_fixedValue cX0_fixedValue 2 (some .double) 2 := ⟨tg300, tg301, tg66, tg302, ⟨by decide +kernel, by decide +kernel, by decide +kernel⟩⟩
theorem tg310 : TG (.code yX3_asReal cX3_asReal 3 (some .int)) := ⟨List.mem_of_getElem? (i := 310) (by decide +kernel), by decide +kernel⟩
theorem tg307 : TG (.methodLink RX0 84 yX3_asReal) := ⟨List.mem_of_getElem? (i := 307) (by decide +kernel), by decide +kernel⟩
theorem tg308 : TG (.instanceMethod yX3_asReal) := ⟨List.mem_of_getElem? (i := 308) (by decide +kernel), by decide +kernel⟩
theorem tg309 : TG (.selects yX3_asReal.cls yX3_asReal yX3_asReal) := ⟨List.mem_of_getElem? (i := 309) (by decide +kernel), by decide +kernel⟩
theorem lk_X0_84 : LV RX0 84 yX3_asReal cX3_asReal 3 (some .int) 1 := ⟨tg307, tg308, tg309, tg67, tg310, ⟨by decide +kernel, by decide +kernel, by decide +kernel⟩⟩
theorem tg317 : TG (.code yX0_isFinite cX0_isFinite 1 (some .boolean)) := ⟨List.mem_of_getElem? (i := 317) (by decide +kernel), by decide +kernel⟩
theorem tg315 : TG (.methodLink RX0 88 yX0_isFinite) := ⟨List.mem_of_getElem? (i := 315) (by decide +kernel), by decide +kernel⟩
theorem tg316 : TG (.static yX0_isFinite) := ⟨List.mem_of_getElem? (i := 316) (by decide +kernel), by decide +kernel⟩
theorem lk_X0_88 : LSt RX0 88 yX0_isFinite cX0_isFinite 1 (some .boolean) 1 := ⟨tg315, tg316, tg66, tg317, ⟨by decide +kernel, by decide +kernel, by decide +kernel⟩⟩
theorem tg320 : TG (.code yX0_floatValue cX0_floatValue 5 (some .double)) := ⟨List.mem_of_getElem? (i := 320) (by decide +kernel), by decide +kernel⟩
theorem tg318 : TG (.methodLink RX0 92 yX0_floatValue) := ⟨List.mem_of_getElem? (i := 318) (by decide +kernel), by decide +kernel⟩
theorem tg319 : TG (.static yX0_floatValue) := ⟨List.mem_of_getElem? (i := 319) (by decide +kernel), by decide +kernel⟩
theorem lk_X0_92 : LSt RX0 92 yX0_floatValue cX0_floatValue 5 (some .double) 1 := ⟨tg318, tg319, tg66, tg320, ⟨by decide +kernel, by decide +kernel, by decide +kernel⟩⟩
theorem tg338 : TG (.code yX0_countAt cX0_countAt 4 (some .int)) := ⟨List.mem_of_getElem? (i := 338) (by decide +kernel), by decide +kernel⟩
theorem tg335 : TG (.methodLink RX0 96 yX0_countAt) := ⟨List.mem_of_getElem? (i := 335) (by decide +kernel), by decide +kernel⟩
theorem tg337 : TG (.instanceMethod yX0_countAt) := ⟨List.mem_of_getElem? (i := 337) (by decide +kernel), by decide +kernel⟩
theorem tg10 : TG (.selects yX0_countAt.cls yX0_countAt yX0_countAt) := ⟨List.mem_of_getElem? (i := 10) (by decide +kernel), by decide +kernel⟩
theorem lk_X0_96 : LV RX0 96 yX0_countAt cX0_countAt 4 (some .int) 3 := ⟨tg335, tg337, tg10, tg66, tg338, ⟨by decide +kernel, by decide +kernel, by decide +kernel⟩⟩
theorem tg343 : TG (.code yX3_put cX3_put 2 none) := ⟨List.mem_of_getElem? (i := 343) (by decide +kernel), by decide +kernel⟩
theorem tg340 : TG (.methodLink RX0 99 yX3_put) := ⟨List.mem_of_getElem? (i := 340) (by decide +kernel), by decide +kernel⟩
theorem tg341 : TG (.instanceMethod yX3_put) := ⟨List.mem_of_getElem? (i := 341) (by decide +kernel), by decide +kernel⟩
theorem tg342 : TG (.selects yX3_put.cls yX3_put yX3_put) := ⟨List.mem_of_getElem? (i := 342) (by decide +kernel), by decide +kernel⟩
theorem lk_X0_99 : LV RX0 99 yX3_put cX3_put 2 none 1 := ⟨tg340, tg341, tg342, tg67, tg343, ⟨by decide +kernel, by decide +kernel, by decide +kernel⟩⟩
theorem tg347 : TG (.code yX3_asText cX3_asText 3 (some .int)) := ⟨List.mem_of_getElem? (i := 347) (by decide +kernel), by decide +kernel⟩
theorem tg344 : TG (.methodLink RX0 103 yX3_asText) := ⟨List.mem_of_getElem? (i := 344) (by decide +kernel), by decide +kernel⟩
theorem tg345 : TG (.instanceMethod yX3_asText) := ⟨List.mem_of_getElem? (i := 345) (by decide +kernel), by decide +kernel⟩
theorem tg346 : TG (.selects yX3_asText.cls yX3_asText yX3_asText) := ⟨List.mem_of_getElem? (i := 346) (by decide +kernel), by decide +kernel⟩
theorem lk_X0_103 : LV RX0 103 yX3_asText cX3_asText 3 (some .int) 2 := ⟨tg344, tg345, tg346, tg67, tg347, ⟨by decide +kernel, by decide +kernel, by decide +kernel⟩⟩
theorem tg355 : TG (.code yX0_fillRow cX0_fillRow 10 (some .int)) := ⟨List.mem_of_getElem? (i := 355) (by decide +kernel), by decide +kernel⟩
theorem tg352 : TG (.methodLink RX0 106 yX0_fillRow) := ⟨List.mem_of_getElem? (i := 352) (by decide +kernel), by decide +kernel⟩
theorem tg354 : TG (.instanceMethod yX0_fillRow) := ⟨List.mem_of_getElem? (i := 354) (by decide +kernel), by decide +kernel⟩
theorem tg12 : TG (.selects yX0_fillRow.cls yX0_fillRow yX0_fillRow) := ⟨List.mem_of_getElem? (i := 12) (by decide +kernel), by decide +kernel⟩
theorem lk_X0_106 : LV RX0 106 yX0_fillRow cX0_fillRow 10 (some .int) 4 := ⟨tg352, tg354, tg12, tg66, tg355, ⟨by decide +kernel, by decide +kernel, by decide +kernel⟩⟩
theorem tg175 : TG (.fieldLink RX0 110 (TX3 8).1 (TX3 8).2.1 (TX3 8).2.2.1) := ⟨List.mem_of_getElem? (i := 175) (by decide +kernel), by decide +kernel⟩
theorem fl_X0_110 : FL RX0 110 4 8 RX3 TX3 10 := ⟨rfl, by decide, tg175, us_X3⟩
theorem tg359 : TG (.code yX3_putInRow cX3_putInRow 4 none) := ⟨List.mem_of_getElem? (i := 359) (by decide +kernel), by decide +kernel⟩
theorem tg356 : TG (.methodLink RX0 114 yX3_putInRow) := ⟨List.mem_of_getElem? (i := 356) (by decide +kernel), by decide +kernel⟩
theorem tg357 : TG (.instanceMethod yX3_putInRow) := ⟨List.mem_of_getElem? (i := 357) (by decide +kernel), by decide +kernel⟩
theorem tg358 : TG (.selects yX3_putInRow.cls yX3_putInRow yX3_putInRow) := ⟨List.mem_of_getElem? (i := 358) (by decide +kernel), by decide +kernel⟩
theorem lk_X0_114 : LV RX0 114 yX3_putInRow cX3_putInRow 4 none 2 := ⟨tg356, tg357, tg358, tg67, tg359, ⟨by decide +kernel, by decide +kernel, by decide +kernel⟩⟩
theorem tg303 : TG (.constantDouble RX0 118 (4611686018427387904)) := ⟨List.mem_of_getElem? (i := 303) (by decide +kernel), by decide +kernel⟩
theorem tg306 : TG (.code yX5_scaled cX5_scaled 8 (some .double)) := ⟨List.mem_of_getElem? (i := 306) (by decide +kernel), by decide +kernel⟩
theorem tg305 : TG (.static yX5_scaled) := ⟨List.mem_of_getElem? (i := 305) (by decide +kernel), by decide +kernel⟩
theorem lk_X0_120 : LSN RX0 120 yX5_scaled "TokenReader" cX5_scaled 8 (some .double) 3 := ⟨(by decide +kernel), tg305, tg62, tg306, ⟨by decide +kernel, by decide +kernel, by decide +kernel⟩⟩
theorem tg321 : TG (.constant RX0 124 (8388607)) := ⟨List.mem_of_getElem? (i := 321) (by decide +kernel), by decide +kernel⟩
theorem tg322 : TG (.constant RX0 125 (8388608)) := ⟨List.mem_of_getElem? (i := 322) (by decide +kernel), by decide +kernel⟩
theorem tg339 : TG (.constant RX0 126 (65535)) := ⟨List.mem_of_getElem? (i := 339) (by decide +kernel), by decide +kernel⟩
theorem tg91 : TG (.fieldLink RX1 9 (TX1 0).1 (TX1 0).2.1 (TX1 0).2.2.1) := ⟨List.mem_of_getElem? (i := 91) (by decide +kernel), by decide +kernel⟩
theorem fl_X1_9 : FL RX1 9 2 0 RX1 TX1 4 := ⟨rfl, by decide, tg91, us_X1⟩
theorem tg92 : TG (.fieldLink RX1 15 (TX1 1).1 (TX1 1).2.1 (TX1 1).2.2.1) := ⟨List.mem_of_getElem? (i := 92) (by decide +kernel), by decide +kernel⟩
theorem fl_X1_15 : FL RX1 15 2 1 RX1 TX1 4 := ⟨rfl, by decide, tg92, us_X1⟩
theorem tg97 : TG (.fieldLink RX1 19 (TX1 2).1 (TX1 2).2.1 (TX1 2).2.2.1) := ⟨List.mem_of_getElem? (i := 97) (by decide +kernel), by decide +kernel⟩
theorem fl_X1_19 : FL RX1 19 2 2 RX1 TX1 4 := ⟨rfl, by decide, tg97, us_X1⟩
theorem tg100 : TG (.fieldLink RX1 22 (TX1 3).1 (TX1 3).2.1 (TX1 3).2.2.1) := ⟨List.mem_of_getElem? (i := 100) (by decide +kernel), by decide +kernel⟩
theorem fl_X1_22 : FL RX1 22 2 3 RX1 TX1 4 := ⟨rfl, by decide, tg100, us_X1⟩
theorem tg247 : TG (.code yX1_has cX1_has 2 (some .boolean)) := ⟨List.mem_of_getElem? (i := 247) (by decide +kernel), by decide +kernel⟩
theorem tg244 : TG (.methodLink RX1 26 yX1_has) := ⟨List.mem_of_getElem? (i := 244) (by decide +kernel), by decide +kernel⟩
theorem tg245 : TG (.instanceMethod yX1_has) := ⟨List.mem_of_getElem? (i := 245) (by decide +kernel), by decide +kernel⟩
theorem tg246 : TG (.selects yX1_has.cls yX1_has yX1_has) := ⟨List.mem_of_getElem? (i := 246) (by decide +kernel), by decide +kernel⟩
theorem lk_X1_26 : LV RX1 26 yX1_has cX1_has 2 (some .boolean) 1 := ⟨tg244, tg245, tg246, tg63, tg247, ⟨by decide +kernel, by decide +kernel, by decide +kernel⟩⟩
theorem tg240 : TG (.methodLink RX1 30 yX1_at) := ⟨List.mem_of_getElem? (i := 240) (by decide +kernel), by decide +kernel⟩
theorem lk_X1_30 : LV RX1 30 yX1_at cX1_at 2 (some .int) 1 := ⟨tg240, tg241, tg242, tg63, tg243, ⟨by decide +kernel, by decide +kernel, by decide +kernel⟩⟩
theorem tg250 : TG (.code yX1_isWhite cX1_isWhite 1 (some .boolean)) := ⟨List.mem_of_getElem? (i := 250) (by decide +kernel), by decide +kernel⟩
theorem tg248 : TG (.methodLink RX1 34 yX1_isWhite) := ⟨List.mem_of_getElem? (i := 248) (by decide +kernel), by decide +kernel⟩
theorem tg249 : TG (.static yX1_isWhite) := ⟨List.mem_of_getElem? (i := 249) (by decide +kernel), by decide +kernel⟩
theorem lk_X1_34 : LSt RX1 34 yX1_isWhite cX1_isWhite 1 (some .boolean) 1 := ⟨tg248, tg249, tg63, tg250, ⟨by decide +kernel, by decide +kernel, by decide +kernel⟩⟩
theorem tg375 : TG (.code yX1_isPlain cX1_isPlain 1 (some .boolean)) := ⟨List.mem_of_getElem? (i := 375) (by decide +kernel), by decide +kernel⟩
theorem tg373 : TG (.methodLink RX1 37 yX1_isPlain) := ⟨List.mem_of_getElem? (i := 373) (by decide +kernel), by decide +kernel⟩
theorem tg374 : TG (.static yX1_isPlain) := ⟨List.mem_of_getElem? (i := 374) (by decide +kernel), by decide +kernel⟩
theorem lk_X1_37 : LSt RX1 37 yX1_isPlain cX1_isPlain 1 (some .boolean) 1 := ⟨tg373, tg374, tg63, tg375, ⟨by decide +kernel, by decide +kernel, by decide +kernel⟩⟩
theorem tg161 : TG (.fieldLink RX1 40 (TX3 1).1 (TX3 1).2.1 (TX3 1).2.2.1) := ⟨List.mem_of_getElem? (i := 161) (by decide +kernel), by decide +kernel⟩
theorem fl_X1_40 : FL RX1 40 4 1 RX3 TX3 10 := ⟨rfl, by decide, tg161, us_X3⟩
theorem tg378 : TG (.code yX1_isOwn cX1_isOwn 1 (some .boolean)) := ⟨List.mem_of_getElem? (i := 378) (by decide +kernel), by decide +kernel⟩
theorem tg376 : TG (.methodLink RX1 45 yX1_isOwn) := ⟨List.mem_of_getElem? (i := 376) (by decide +kernel), by decide +kernel⟩
theorem tg377 : TG (.static yX1_isOwn) := ⟨List.mem_of_getElem? (i := 377) (by decide +kernel), by decide +kernel⟩
theorem lk_X1_45 : LSt RX1 45 yX1_isOwn cX1_isOwn 1 (some .boolean) 1 := ⟨tg376, tg377, tg63, tg378, ⟨by decide +kernel, by decide +kernel, by decide +kernel⟩⟩
theorem tg132 : TG (.fieldLink RX2 9 (TX2 0).1 (TX2 0).2.1 (TX2 0).2.2.1) := ⟨List.mem_of_getElem? (i := 132) (by decide +kernel), by decide +kernel⟩
theorem fl_X2_9 : FL RX2 9 3 0 RX2 TX2 1 := ⟨rfl, by decide, tg132, us_X2⟩
theorem tg154 : TG (.fieldLink RX2 15 (TX3 0).1 (TX3 0).2.1 (TX3 0).2.2.1) := ⟨List.mem_of_getElem? (i := 154) (by decide +kernel), by decide +kernel⟩
theorem fl_X2_15 : FL RX2 15 4 0 RX3 TX3 10 := ⟨rfl, by decide, tg154, us_X3⟩
theorem tg93 : TG (.fieldLink RX2 21 (TX1 1).1 (TX1 1).2.1 (TX1 1).2.2.1) := ⟨List.mem_of_getElem? (i := 93) (by decide +kernel), by decide +kernel⟩
theorem fl_X2_21 : FL RX2 21 2 1 RX1 TX1 4 := ⟨rfl, by decide, tg93, us_X1⟩
theorem tg385 : TG (.methodLink RX2 26 yX1_at) := ⟨List.mem_of_getElem? (i := 385) (by decide +kernel), by decide +kernel⟩
theorem lk_X2_26 : LV RX2 26 yX1_at cX1_at 2 (some .int) 1 := ⟨tg385, tg241, tg242, tg63, tg243, ⟨by decide +kernel, by decide +kernel, by decide +kernel⟩⟩
theorem tg388 : TG (.code yX2_wholeString cX2_wholeString 2 (some .int)) := ⟨List.mem_of_getElem? (i := 388) (by decide +kernel), by decide +kernel⟩
theorem tg65 : TG (.initialized yX2_wholeString.cls) := ⟨List.mem_of_getElem? (i := 65) (by decide +kernel), by decide +kernel⟩
theorem tg386 : TG (.methodLink RX2 30 yX2_wholeString) := ⟨List.mem_of_getElem? (i := 386) (by decide +kernel), by decide +kernel⟩
theorem tg387 : TG (.static yX2_wholeString) := ⟨List.mem_of_getElem? (i := 387) (by decide +kernel), by decide +kernel⟩
theorem lk_X2_30 : LSt RX2 30 yX2_wholeString cX2_wholeString 2 (some .int) 2 := ⟨tg386, tg387, tg65, tg388, ⟨by decide +kernel, by decide +kernel, by decide +kernel⟩⟩
theorem tg393 : TG (.code yX2_putOne cX2_putOne 5 (some .int)) := ⟨List.mem_of_getElem? (i := 393) (by decide +kernel), by decide +kernel⟩
theorem tg390 : TG (.methodLink RX2 34 yX2_putOne) := ⟨List.mem_of_getElem? (i := 390) (by decide +kernel), by decide +kernel⟩
theorem tg392 : TG (.instanceMethod yX2_putOne) := ⟨List.mem_of_getElem? (i := 392) (by decide +kernel), by decide +kernel⟩
theorem tg14 : TG (.selects yX2_putOne.cls yX2_putOne yX2_putOne) := ⟨List.mem_of_getElem? (i := 14) (by decide +kernel), by decide +kernel⟩
theorem lk_X2_34 : LV RX2 34 yX2_putOne cX2_putOne 5 (some .int) 3 := ⟨tg390, tg392, tg14, tg65, tg393, ⟨by decide +kernel, by decide +kernel, by decide +kernel⟩⟩
theorem tg420 : TG (.methodLink RX2 44 yX1_lacking) := ⟨List.mem_of_getElem? (i := 420) (by decide +kernel), by decide +kernel⟩
theorem lk_X2_44 : LV RX2 44 yX1_lacking cX1_lacking 2 (some .int) 1 := ⟨tg420, tg277, tg278, tg63, tg279, ⟨by decide +kernel, by decide +kernel, by decide +kernel⟩⟩
theorem tg397 : TG (.code yX2_putEscaped cX2_putEscaped 5 (some .int)) := ⟨List.mem_of_getElem? (i := 397) (by decide +kernel), by decide +kernel⟩
theorem tg394 : TG (.methodLink RX2 48 yX2_putEscaped) := ⟨List.mem_of_getElem? (i := 394) (by decide +kernel), by decide +kernel⟩
theorem tg396 : TG (.instanceMethod yX2_putEscaped) := ⟨List.mem_of_getElem? (i := 396) (by decide +kernel), by decide +kernel⟩
theorem tg15 : TG (.selects yX2_putEscaped.cls yX2_putEscaped yX2_putEscaped) := ⟨List.mem_of_getElem? (i := 15) (by decide +kernel), by decide +kernel⟩
theorem lk_X2_48 : LV RX2 48 yX2_putEscaped cX2_putEscaped 5 (some .int) 2 := ⟨tg394, tg396, tg15, tg65, tg397, ⟨by decide +kernel, by decide +kernel, by decide +kernel⟩⟩
theorem tg401 : TG (.code yX2_lineEndWidth cX2_lineEndWidth 3 (some .int)) := ⟨List.mem_of_getElem? (i := 401) (by decide +kernel), by decide +kernel⟩
theorem tg398 : TG (.methodLink RX2 51 yX2_lineEndWidth) := ⟨List.mem_of_getElem? (i := 398) (by decide +kernel), by decide +kernel⟩
theorem tg400 : TG (.instanceMethod yX2_lineEndWidth) := ⟨List.mem_of_getElem? (i := 400) (by decide +kernel), by decide +kernel⟩
theorem tg16 : TG (.selects yX2_lineEndWidth.cls yX2_lineEndWidth yX2_lineEndWidth) := ⟨List.mem_of_getElem? (i := 16) (by decide +kernel), by decide +kernel⟩
theorem lk_X2_51 : LV RX2 51 yX2_lineEndWidth cX2_lineEndWidth 3 (some .int) 1 := ⟨tg398, tg400, tg16, tg65, tg401, ⟨by decide +kernel, by decide +kernel, by decide +kernel⟩⟩
theorem tg413 : TG (.methodLink RX2 54 yX3_put) := ⟨List.mem_of_getElem? (i := 413) (by decide +kernel), by decide +kernel⟩
theorem lk_X2_54 : LV RX2 54 yX3_put cX3_put 2 none 1 := ⟨tg413, tg341, tg342, tg67, tg343, ⟨by decide +kernel, by decide +kernel, by decide +kernel⟩⟩
theorem tg405 : TG (.code yX2_octalWidth cX2_octalWidth 3 (some .int)) := ⟨List.mem_of_getElem? (i := 405) (by decide +kernel), by decide +kernel⟩
theorem tg402 : TG (.methodLink RX2 58 yX2_octalWidth) := ⟨List.mem_of_getElem? (i := 402) (by decide +kernel), by decide +kernel⟩
theorem tg404 : TG (.instanceMethod yX2_octalWidth) := ⟨List.mem_of_getElem? (i := 404) (by decide +kernel), by decide +kernel⟩
theorem tg17 : TG (.selects yX2_octalWidth.cls yX2_octalWidth yX2_octalWidth) := ⟨List.mem_of_getElem? (i := 17) (by decide +kernel), by decide +kernel⟩
theorem lk_X2_58 : LV RX2 58 yX2_octalWidth cX2_octalWidth 3 (some .int) 1 := ⟨tg402, tg404, tg17, tg65, tg405, ⟨by decide +kernel, by decide +kernel, by decide +kernel⟩⟩
theorem tg412 : TG (.code yX2_octalAt cX2_octalAt 5 (some .int)) := ⟨List.mem_of_getElem? (i := 412) (by decide +kernel), by decide +kernel⟩
theorem tg409 : TG (.methodLink RX2 61 yX2_octalAt) := ⟨List.mem_of_getElem? (i := 409) (by decide +kernel), by decide +kernel⟩
theorem tg411 : TG (.instanceMethod yX2_octalAt) := ⟨List.mem_of_getElem? (i := 411) (by decide +kernel), by decide +kernel⟩
theorem tg18 : TG (.selects yX2_octalAt.cls yX2_octalAt yX2_octalAt) := ⟨List.mem_of_getElem? (i := 18) (by decide +kernel), by decide +kernel⟩
theorem lk_X2_61 : LV RX2 61 yX2_octalAt cX2_octalAt 5 (some .int) 2 := ⟨tg409, tg411, tg18, tg65, tg412, ⟨by decide +kernel, by decide +kernel, by decide +kernel⟩⟩
theorem tg416 : TG (.code yX2_escaped cX2_escaped 1 (some .int)) := ⟨List.mem_of_getElem? (i := 416) (by decide +kernel), by decide +kernel⟩
theorem tg414 : TG (.methodLink RX2 64 yX2_escaped) := ⟨List.mem_of_getElem? (i := 414) (by decide +kernel), by decide +kernel⟩
theorem tg415 : TG (.static yX2_escaped) := ⟨List.mem_of_getElem? (i := 415) (by decide +kernel), by decide +kernel⟩
theorem lk_X2_64 : LSt RX2 64 yX2_escaped cX2_escaped 1 (some .int) 1 := ⟨tg414, tg415, tg65, tg416, ⟨by decide +kernel, by decide +kernel, by decide +kernel⟩⟩
theorem tg408 : TG (.code yX5_digitOf cX5_digitOf 1 (some .int)) := ⟨List.mem_of_getElem? (i := 408) (by decide +kernel), by decide +kernel⟩
theorem tg407 : TG (.static yX5_digitOf) := ⟨List.mem_of_getElem? (i := 407) (by decide +kernel), by decide +kernel⟩
theorem lk_X2_67 : LSN RX2 67 yX5_digitOf "TokenReader" cX5_digitOf 1 (some .int) 1 := ⟨(by decide +kernel), tg407, tg62, tg408, ⟨by decide +kernel, by decide +kernel, by decide +kernel⟩⟩
theorem tg434 : TG (.methodLink RX2 70 yX1_isWhite) := ⟨List.mem_of_getElem? (i := 434) (by decide +kernel), by decide +kernel⟩
theorem lk_X2_70 : LSt RX2 70 yX1_isWhite cX1_isWhite 1 (some .boolean) 1 := ⟨tg434, tg249, tg63, tg250, ⟨by decide +kernel, by decide +kernel, by decide +kernel⟩⟩
theorem tg453 : TG (.code yX2_putLastAlone cX2_putLastAlone 2 none) := ⟨List.mem_of_getElem? (i := 453) (by decide +kernel), by decide +kernel⟩
theorem tg451 : TG (.methodLink RX2 74 yX2_putLastAlone) := ⟨List.mem_of_getElem? (i := 451) (by decide +kernel), by decide +kernel⟩
theorem tg452 : TG (.static yX2_putLastAlone) := ⟨List.mem_of_getElem? (i := 452) (by decide +kernel), by decide +kernel⟩
theorem lk_X2_74 : LSt RX2 74 yX2_putLastAlone cX2_putLastAlone 2 none 2 := ⟨tg451, tg452, tg65, tg453, ⟨by decide +kernel, by decide +kernel, by decide +kernel⟩⟩
theorem tg442 : TG (.methodLink RX2 78 yX3_wrongByte) := ⟨List.mem_of_getElem? (i := 442) (by decide +kernel), by decide +kernel⟩
theorem lk_X2_78 : LV RX2 78 yX3_wrongByte cX3_wrongByte 3 (some .int) 2 := ⟨tg442, tg294, tg295, tg67, tg296, ⟨by decide +kernel, by decide +kernel, by decide +kernel⟩⟩
theorem tg438 : TG (.code yX2_endBase85 cX2_endBase85 9 (some .int)) := ⟨List.mem_of_getElem? (i := 438) (by decide +kernel), by decide +kernel⟩
theorem tg435 : TG (.methodLink RX2 81 yX2_endBase85) := ⟨List.mem_of_getElem? (i := 435) (by decide +kernel), by decide +kernel⟩
theorem tg437 : TG (.instanceMethod yX2_endBase85) := ⟨List.mem_of_getElem? (i := 437) (by decide +kernel), by decide +kernel⟩
theorem tg21 : TG (.selects yX2_endBase85.cls yX2_endBase85 yX2_endBase85) := ⟨List.mem_of_getElem? (i := 21) (by decide +kernel), by decide +kernel⟩
theorem lk_X2_81 : LV RX2 81 yX2_endBase85 cX2_endBase85 9 (some .int) 4 := ⟨tg435, tg437, tg21, tg65, tg438, ⟨by decide +kernel, by decide +kernel, by decide +kernel⟩⟩
theorem tg445 : TG (.code yX2_putHighest cX2_putHighest 5 none) := ⟨List.mem_of_getElem? (i := 445) (by decide +kernel), by decide +kernel⟩
theorem tg443 : TG (.methodLink RX2 85 yX2_putHighest) := ⟨List.mem_of_getElem? (i := 443) (by decide +kernel), by decide +kernel⟩
theorem tg444 : TG (.static yX2_putHighest) := ⟨List.mem_of_getElem? (i := 444) (by decide +kernel), by decide +kernel⟩
theorem lk_X2_85 : LSt RX2 85 yX2_putHighest cX2_putHighest 5 none 3 := ⟨tg443, tg444, tg65, tg445, ⟨by decide +kernel, by decide +kernel, by decide +kernel⟩⟩
theorem tg439 : TG (.constantLong RX2 89 (85)) := ⟨List.mem_of_getElem? (i := 439) (by decide +kernel), by decide +kernel⟩
theorem tg446 : TG (.constantLong RX2 91 (33)) := ⟨List.mem_of_getElem? (i := 446) (by decide +kernel), by decide +kernel⟩
theorem tg441 : TG (.constantLong RX2 93 (4294967296)) := ⟨List.mem_of_getElem? (i := 441) (by decide +kernel), by decide +kernel⟩
theorem tg440 : TG (.constantLong RX2 95 (84)) := ⟨List.mem_of_getElem? (i := 440) (by decide +kernel), by decide +kernel⟩
theorem tg162 : TG (.fieldLink RX2 97 (TX3 1).1 (TX3 1).2.1 (TX3 1).2.2.1) := ⟨List.mem_of_getElem? (i := 162) (by decide +kernel), by decide +kernel⟩
theorem fl_X2_97 : FL RX2 97 4 1 RX3 TX3 10 := ⟨rfl, by decide, tg162, us_X3⟩
theorem tg389 : TG (.methodLink RX2 100 yX3_asText) := ⟨List.mem_of_getElem? (i := 389) (by decide +kernel), by decide +kernel⟩
theorem lk_X2_100 : LV RX2 100 yX3_asText cX3_asText 3 (some .int) 2 := ⟨tg389, tg345, tg346, tg67, tg347, ⟨by decide +kernel, by decide +kernel, by decide +kernel⟩⟩
theorem tg167 : TG (.fieldLink RX3 9 (TX3 4).1 (TX3 4).2.1 (TX3 4).2.2.1) := ⟨List.mem_of_getElem? (i := 167) (by decide +kernel), by decide +kernel⟩
theorem fl_X3_9 : FL RX3 9 4 4 RX3 TX3 10 := ⟨rfl, by decide, tg167, us_X3⟩
theorem tg170 : TG (.fieldLink RX3 15 (TX3 6).1 (TX3 6).2.1 (TX3 6).2.2.1) := ⟨List.mem_of_getElem? (i := 170) (by decide +kernel), by decide +kernel⟩
theorem fl_X3_15 : FL RX3 15 4 6 RX3 TX3 10 := ⟨rfl, by decide, tg170, us_X3⟩
theorem tg172 : TG (.fieldLink RX3 19 (TX3 7).1 (TX3 7).2.1 (TX3 7).2.2.1) := ⟨List.mem_of_getElem? (i := 172) (by decide +kernel), by decide +kernel⟩
theorem fl_X3_19 : FL RX3 19 4 7 RX3 TX3 10 := ⟨rfl, by decide, tg172, us_X3⟩
theorem tg153 : TG (.fieldLink RX3 23 (TX3 0).1 (TX3 0).2.1 (TX3 0).2.2.1) := ⟨List.mem_of_getElem? (i := 153) (by decide +kernel), by decide +kernel⟩
theorem fl_X3_23 : FL RX3 23 4 0 RX3 TX3 10 := ⟨rfl, by decide, tg153, us_X3⟩
theorem tg157 : TG (.fieldLink RX3 27 (TX3 1).1 (TX3 1).2.1 (TX3 1).2.2.1) := ⟨List.mem_of_getElem? (i := 157) (by decide +kernel), by decide +kernel⟩
theorem fl_X3_27 : FL RX3 27 4 1 RX3 TX3 10 := ⟨rfl, by decide, tg157, us_X3⟩
theorem tg163 : TG (.fieldLink RX3 30 (TX3 2).1 (TX3 2).2.1 (TX3 2).2.2.1) := ⟨List.mem_of_getElem? (i := 163) (by decide +kernel), by decide +kernel⟩
theorem fl_X3_30 : FL RX3 30 4 2 RX3 TX3 10 := ⟨rfl, by decide, tg163, us_X3⟩
theorem tg165 : TG (.fieldLink RX3 34 (TX3 3).1 (TX3 3).2.1 (TX3 3).2.2.1) := ⟨List.mem_of_getElem? (i := 165) (by decide +kernel), by decide +kernel⟩
theorem fl_X3_34 : FL RX3 34 4 3 RX3 TX3 10 := ⟨rfl, by decide, tg165, us_X3⟩
theorem tg168 : TG (.fieldLink RX3 38 (TX3 5).1 (TX3 5).2.1 (TX3 5).2.2.1) := ⟨List.mem_of_getElem? (i := 168) (by decide +kernel), by decide +kernel⟩
theorem fl_X3_38 : FL RX3 38 4 5 RX3 TX3 10 := ⟨rfl, by decide, tg168, us_X3⟩
theorem tg176 : TG (.fieldLink RX3 41 (TX3 9).1 (TX3 9).2.1 (TX3 9).2.2.1) := ⟨List.mem_of_getElem? (i := 176) (by decide +kernel), by decide +kernel⟩
theorem fl_X3_41 : FL RX3 41 4 9 RX3 TX3 10 := ⟨rfl, by decide, tg176, us_X3⟩
theorem tg119 : TG (.fieldLink RX4 9 (TX4 1).1 (TX4 1).2.1 (TX4 1).2.2.1) := ⟨List.mem_of_getElem? (i := 119) (by decide +kernel), by decide +kernel⟩
theorem fl_X4_9 : FL RX4 9 5 1 RX4 TX4 2 := ⟨rfl, by decide, tg119, us_X4⟩
theorem tg118 : TG (.fieldLink RX4 15 (TX4 0).1 (TX4 0).2.1 (TX4 0).2.2.1) := ⟨List.mem_of_getElem? (i := 118) (by decide +kernel), by decide +kernel⟩
theorem fl_X4_15 : FL RX4 15 5 0 RX4 TX4 2 := ⟨rfl, by decide, tg118, us_X4⟩
theorem tg152 : TG (.fieldLink RX4 19 (TX3 0).1 (TX3 0).2.1 (TX3 0).2.2.1) := ⟨List.mem_of_getElem? (i := 152) (by decide +kernel), by decide +kernel⟩
theorem fl_X4_19 : FL RX4 19 4 0 RX3 TX3 10 := ⟨rfl, by decide, tg152, us_X3⟩
theorem tg364 : TG (.methodLink RX4 24 yX1_at) := ⟨List.mem_of_getElem? (i := 364) (by decide +kernel), by decide +kernel⟩
theorem lk_X4_24 : LV RX4 24 yX1_at cX1_at 2 (some .int) 1 := ⟨tg364, tg241, tg242, tg63, tg243, ⟨by decide +kernel, by decide +kernel, by decide +kernel⟩⟩
theorem tg368 : TG (.code yX4_readText cX4_readText 6 (some .int)) := ⟨List.mem_of_getElem? (i := 368) (by decide +kernel), by decide +kernel⟩
theorem tg64 : TG (.initialized yX4_readText.cls) := ⟨List.mem_of_getElem? (i := 64) (by decide +kernel), by decide +kernel⟩
theorem tg365 : TG (.methodLink RX4 30 yX4_readText) := ⟨List.mem_of_getElem? (i := 365) (by decide +kernel), by decide +kernel⟩
theorem tg367 : TG (.instanceMethod yX4_readText) := ⟨List.mem_of_getElem? (i := 367) (by decide +kernel), by decide +kernel⟩
theorem tg13 : TG (.selects yX4_readText.cls yX4_readText yX4_readText) := ⟨List.mem_of_getElem? (i := 13) (by decide +kernel), by decide +kernel⟩
theorem lk_X4_30 : LV RX4 30 yX4_readText cX4_readText 6 (some .int) 3 := ⟨tg365, tg367, tg13, tg64, tg368, ⟨by decide +kernel, by decide +kernel, by decide +kernel⟩⟩
theorem tg473 : TG (.code yX4_readInteger cX4_readInteger 7 (some .int)) := ⟨List.mem_of_getElem? (i := 473) (by decide +kernel), by decide +kernel⟩
theorem tg470 : TG (.methodLink RX4 34 yX4_readInteger) := ⟨List.mem_of_getElem? (i := 470) (by decide +kernel), by decide +kernel⟩
theorem tg472 : TG (.instanceMethod yX4_readInteger) := ⟨List.mem_of_getElem? (i := 472) (by decide +kernel), by decide +kernel⟩
theorem tg25 : TG (.selects yX4_readInteger.cls yX4_readInteger yX4_readInteger) := ⟨List.mem_of_getElem? (i := 25) (by decide +kernel), by decide +kernel⟩
theorem lk_X4_34 : LV RX4 34 yX4_readInteger cX4_readInteger 7 (some .int) 1 := ⟨tg470, tg472, tg25, tg64, tg473, ⟨by decide +kernel, by decide +kernel, by decide +kernel⟩⟩
theorem tg498 : TG (.code yX4_readWithBase cX4_readWithBase 7 (some .int)) := ⟨List.mem_of_getElem? (i := 498) (by decide +kernel), by decide +kernel⟩
theorem tg495 : TG (.methodLink RX4 38 yX4_readWithBase) := ⟨List.mem_of_getElem? (i := 495) (by decide +kernel), by decide +kernel⟩
theorem tg497 : TG (.instanceMethod yX4_readWithBase) := ⟨List.mem_of_getElem? (i := 497) (by decide +kernel), by decide +kernel⟩
theorem tg26 : TG (.selects yX4_readWithBase.cls yX4_readWithBase yX4_readWithBase) := ⟨List.mem_of_getElem? (i := 26) (by decide +kernel), by decide +kernel⟩
theorem lk_X4_38 : LV RX4 38 yX4_readWithBase cX4_readWithBase 7 (some .int) 1 := ⟨tg495, tg497, tg26, tg64, tg498, ⟨by decide +kernel, by decide +kernel, by decide +kernel⟩⟩
theorem tg502 : TG (.code yX4_readReal cX4_readReal 11 (some .int)) := ⟨List.mem_of_getElem? (i := 502) (by decide +kernel), by decide +kernel⟩
theorem tg499 : TG (.methodLink RX4 41 yX4_readReal) := ⟨List.mem_of_getElem? (i := 499) (by decide +kernel), by decide +kernel⟩
theorem tg501 : TG (.instanceMethod yX4_readReal) := ⟨List.mem_of_getElem? (i := 501) (by decide +kernel), by decide +kernel⟩
theorem tg27 : TG (.selects yX4_readReal.cls yX4_readReal yX4_readReal) := ⟨List.mem_of_getElem? (i := 27) (by decide +kernel), by decide +kernel⟩
theorem lk_X4_41 : LV RX4 41 yX4_readReal cX4_readReal 11 (some .int) 1 := ⟨tg499, tg501, tg27, tg64, tg502, ⟨by decide +kernel, by decide +kernel, by decide +kernel⟩⟩
theorem tg372 : TG (.code yX1_wordEnd cX1_wordEnd 3 (some .int)) := ⟨List.mem_of_getElem? (i := 372) (by decide +kernel), by decide +kernel⟩
theorem tg369 : TG (.methodLink RX4 44 yX1_wordEnd) := ⟨List.mem_of_getElem? (i := 369) (by decide +kernel), by decide +kernel⟩
theorem tg370 : TG (.instanceMethod yX1_wordEnd) := ⟨List.mem_of_getElem? (i := 370) (by decide +kernel), by decide +kernel⟩
theorem tg371 : TG (.selects yX1_wordEnd.cls yX1_wordEnd yX1_wordEnd) := ⟨List.mem_of_getElem? (i := 371) (by decide +kernel), by decide +kernel⟩
theorem lk_X4_44 : LV RX4 44 yX1_wordEnd cX1_wordEnd 3 (some .int) 1 := ⟨tg369, tg370, tg371, tg63, tg372, ⟨by decide +kernel, by decide +kernel, by decide +kernel⟩⟩
theorem tg96 : TG (.fieldLink RX4 47 (TX1 1).1 (TX1 1).2.1 (TX1 1).2.2.1) := ⟨List.mem_of_getElem? (i := 96) (by decide +kernel), by decide +kernel⟩
theorem fl_X4_47 : FL RX4 47 2 1 RX1 TX1 4 := ⟨rfl, by decide, tg96, us_X1⟩
theorem tg101 : TG (.fieldLink RX4 50 (TX1 3).1 (TX1 3).2.1 (TX1 3).2.2.1) := ⟨List.mem_of_getElem? (i := 101) (by decide +kernel), by decide +kernel⟩
theorem fl_X4_50 : FL RX4 50 2 3 RX1 TX1 4 := ⟨rfl, by decide, tg101, us_X1⟩
theorem tg379 : TG (.methodLink RX4 54 yX3_put) := ⟨List.mem_of_getElem? (i := 379) (by decide +kernel), by decide +kernel⟩
theorem lk_X4_54 : LV RX4 54 yX3_put cX3_put 2 none 1 := ⟨tg379, tg341, tg342, tg67, tg343, ⟨by decide +kernel, by decide +kernel, by decide +kernel⟩⟩
theorem tg160 : TG (.fieldLink RX4 58 (TX3 1).1 (TX3 1).2.1 (TX3 1).2.2.1) := ⟨List.mem_of_getElem? (i := 160) (by decide +kernel), by decide +kernel⟩
theorem fl_X4_58 : FL RX4 58 4 1 RX3 TX3 10 := ⟨rfl, by decide, tg160, us_X3⟩
theorem tg380 : TG (.methodLink RX4 61 yX3_asText) := ⟨List.mem_of_getElem? (i := 380) (by decide +kernel), by decide +kernel⟩
theorem lk_X4_61 : LV RX4 61 yX3_asText cX3_asText 3 (some .int) 2 := ⟨tg380, tg345, tg346, tg67, tg347, ⟨by decide +kernel, by decide +kernel, by decide +kernel⟩⟩
theorem tg476 : TG (.code yX4_behindSign cX4_behindSign 3 (some .int)) := ⟨List.mem_of_getElem? (i := 476) (by decide +kernel), by decide +kernel⟩
theorem tg474 : TG (.methodLink RX4 65 yX4_behindSign) := ⟨List.mem_of_getElem? (i := 474) (by decide +kernel), by decide +kernel⟩
theorem tg475 : TG (.static yX4_behindSign) := ⟨List.mem_of_getElem? (i := 475) (by decide +kernel), by decide +kernel⟩
theorem lk_X4_65 : LSt RX4 65 yX4_behindSign cX4_behindSign 3 (some .int) 2 := ⟨tg474, tg475, tg64, tg476, ⟨by decide +kernel, by decide +kernel, by decide +kernel⟩⟩
theorem tg169 : TG (.fieldLink RX4 69 (TX3 5).1 (TX3 5).2.1 (TX3 5).2.2.1) := ⟨List.mem_of_getElem? (i := 169) (by decide +kernel), by decide +kernel⟩
theorem fl_X4_69 : FL RX4 69 4 5 RX3 TX3 10 := ⟨rfl, by decide, tg169, us_X3⟩
theorem tg483 : TG (.code yX4_digitsEnd cX4_digitsEnd 4 (some .int)) := ⟨List.mem_of_getElem? (i := 483) (by decide +kernel), by decide +kernel⟩
theorem tg481 : TG (.methodLink RX4 72 yX4_digitsEnd) := ⟨List.mem_of_getElem? (i := 481) (by decide +kernel), by decide +kernel⟩
theorem tg482 : TG (.static yX4_digitsEnd) := ⟨List.mem_of_getElem? (i := 482) (by decide +kernel), by decide +kernel⟩
theorem lk_X4_72 : LSt RX4 72 yX4_digitsEnd cX4_digitsEnd 4 (some .int) 3 := ⟨tg481, tg482, tg64, tg483, ⟨by decide +kernel, by decide +kernel, by decide +kernel⟩⟩
theorem tg487 : TG (.code yX4_valueOf cX4_valueOf 7 (some .long)) := ⟨List.mem_of_getElem? (i := 487) (by decide +kernel), by decide +kernel⟩
theorem tg485 : TG (.methodLink RX4 75 yX4_valueOf) := ⟨List.mem_of_getElem? (i := 485) (by decide +kernel), by decide +kernel⟩
theorem tg486 : TG (.static yX4_valueOf) := ⟨List.mem_of_getElem? (i := 486) (by decide +kernel), by decide +kernel⟩
theorem lk_X4_75 : LSt RX4 75 yX4_valueOf cX4_valueOf 7 (some .long) 4 := ⟨tg485, tg486, tg64, tg487, ⟨by decide +kernel, by decide +kernel, by decide +kernel⟩⟩
theorem tg480 : TG (.code yX3_textAt cX3_textAt 2 (some .int)) := ⟨List.mem_of_getElem? (i := 480) (by decide +kernel), by decide +kernel⟩
theorem tg477 : TG (.methodLink RX4 79 yX3_textAt) := ⟨List.mem_of_getElem? (i := 477) (by decide +kernel), by decide +kernel⟩
theorem tg478 : TG (.instanceMethod yX3_textAt) := ⟨List.mem_of_getElem? (i := 478) (by decide +kernel), by decide +kernel⟩
theorem tg479 : TG (.selects yX3_textAt.cls yX3_textAt yX3_textAt) := ⟨List.mem_of_getElem? (i := 479) (by decide +kernel), by decide +kernel⟩
theorem lk_X4_79 : LV RX4 79 yX3_textAt cX3_textAt 2 (some .int) 1 := ⟨tg477, tg478, tg479, tg67, tg480, ⟨by decide +kernel, by decide +kernel, by decide +kernel⟩⟩
theorem tg492 : TG (.constantLong RX4 82 (-2147483648)) := ⟨List.mem_of_getElem? (i := 492) (by decide +kernel), by decide +kernel⟩
theorem tg493 : TG (.constantLong RX4 84 (2147483647)) := ⟨List.mem_of_getElem? (i := 493) (by decide +kernel), by decide +kernel⟩
theorem tg494 : TG (.methodLink RX4 86 yX3_asWhole) := ⟨List.mem_of_getElem? (i := 494) (by decide +kernel), by decide +kernel⟩
theorem lk_X4_86 : LV RX4 86 yX3_asWhole cX3_asWhole 4 (some .int) 2 := ⟨tg494, tg286, tg287, tg67, tg288, ⟨by decide +kernel, by decide +kernel, by decide +kernel⟩⟩
theorem tg488 : TG (.constantLong RX4 90 (4294967296)) := ⟨List.mem_of_getElem? (i := 488) (by decide +kernel), by decide +kernel⟩
theorem tg505 : TG (.code yX4_isExponent cX4_isExponent 5 (some .boolean)) := ⟨List.mem_of_getElem? (i := 505) (by decide +kernel), by decide +kernel⟩
theorem tg503 : TG (.methodLink RX4 92 yX4_isExponent) := ⟨List.mem_of_getElem? (i := 503) (by decide +kernel), by decide +kernel⟩
theorem tg504 : TG (.static yX4_isExponent) := ⟨List.mem_of_getElem? (i := 504) (by decide +kernel), by decide +kernel⟩
theorem lk_X4_92 : LSt RX4 92 yX4_isExponent cX4_isExponent 5 (some .boolean) 2 := ⟨tg503, tg504, tg64, tg505, ⟨by decide +kernel, by decide +kernel, by decide +kernel⟩⟩
theorem tg508 : TG (.code yX4_exponentAt cX4_exponentAt 3 (some .int)) := ⟨List.mem_of_getElem? (i := 508) (by decide +kernel), by decide +kernel⟩
theorem tg506 : TG (.methodLink RX4 96 yX4_exponentAt) := ⟨List.mem_of_getElem? (i := 506) (by decide +kernel), by decide +kernel⟩
theorem tg507 : TG (.static yX4_exponentAt) := ⟨List.mem_of_getElem? (i := 507) (by decide +kernel), by decide +kernel⟩
theorem lk_X4_96 : LSt RX4 96 yX4_exponentAt cX4_exponentAt 3 (some .int) 2 := ⟨tg506, tg507, tg64, tg508, ⟨by decide +kernel, by decide +kernel, by decide +kernel⟩⟩
theorem tg511 : TG (.code yX4_digitsAsReal cX4_digitsAsReal 6 (some .double)) := ⟨List.mem_of_getElem? (i := 511) (by decide +kernel), by decide +kernel⟩
theorem tg509 : TG (.methodLink RX4 99 yX4_digitsAsReal) := ⟨List.mem_of_getElem? (i := 509) (by decide +kernel), by decide +kernel⟩
theorem tg510 : TG (.static yX4_digitsAsReal) := ⟨List.mem_of_getElem? (i := 510) (by decide +kernel), by decide +kernel⟩
theorem lk_X4_99 : LSt RX4 99 yX4_digitsAsReal cX4_digitsAsReal 6 (some .double) 3 := ⟨tg509, tg510, tg64, tg511, ⟨by decide +kernel, by decide +kernel, by decide +kernel⟩⟩
theorem tg512 : TG (.constantDouble RX4 103 (4621819117588971520)) := ⟨List.mem_of_getElem? (i := 512) (by decide +kernel), by decide +kernel⟩
theorem lk_X4_105 : LSN RX4 105 yX5_scaled "TokenReader" cX5_scaled 8 (some .double) 3 := ⟨(by decide +kernel), tg305, tg62, tg306, ⟨by decide +kernel, by decide +kernel, by decide +kernel⟩⟩
theorem tg514 : TG (.constantDouble RX4 109 (9218868437227405311)) := ⟨List.mem_of_getElem? (i := 514) (by decide +kernel), by decide +kernel⟩
theorem tg515 : TG (.methodLink RX4 111 yX3_asReal) := ⟨List.mem_of_getElem? (i := 515) (by decide +kernel), by decide +kernel⟩
theorem lk_X4_111 : LV RX4 111 yX3_asReal cX3_asReal 3 (some .int) 1 := ⟨tg515, tg308, tg309, tg67, tg310, ⟨by decide +kernel, by decide +kernel, by decide +kernel⟩⟩
theorem lk_X4_115 : LSN RX4 115 yX5_digitOf "TokenReader" cX5_digitOf 1 (some .int) 1 := ⟨(by decide +kernel), tg407, tg62, tg408, ⟨by decide +kernel, by decide +kernel, by decide +kernel⟩⟩
theorem tg89 : TG (.code yX1_init cX1_init 1 none) := ⟨List.mem_of_getElem? (i := 89) (by decide +kernel), by decide +kernel⟩
theorem tg88 : TG (.instanceMethod yX1_init) := ⟨List.mem_of_getElem? (i := 88) (by decide +kernel), by decide +kernel⟩
theorem lk_X5_9 : LIN RX5 9 yX1_init "TokenReader" cX1_init 1 0 := ⟨(by decide +kernel), tg88, tg63, tg89, ⟨by decide +kernel, by decide +kernel, by decide +kernel⟩⟩
theorem tg200 : TG (.fieldLink RX5 10 (TX5 0).1 (TX5 0).2.1 (TX5 0).2.2.1) := ⟨List.mem_of_getElem? (i := 200) (by decide +kernel), by decide +kernel⟩
theorem fl_X5_10 : FL RX5 10 6 0 RX5 TX5 9 := ⟨rfl, by decide, tg200, us_X5⟩
theorem tg116 : TG (.code yX4_init cX4_init 2 none) := ⟨List.mem_of_getElem? (i := 116) (by decide +kernel), by decide +kernel⟩
theorem tg114 : TG (.methodLink RX5 18 yX4_init) := ⟨List.mem_of_getElem? (i := 114) (by decide +kernel), by decide +kernel⟩
theorem tg115 : TG (.instanceMethod yX4_init) := ⟨List.mem_of_getElem? (i := 115) (by decide +kernel), by decide +kernel⟩
theorem lk_X5_18 : LI RX5 18 yX4_init cX4_init 2 1 := ⟨tg114, tg115, tg64, tg116, ⟨by decide +kernel, by decide +kernel, by decide +kernel⟩⟩
theorem tg201 : TG (.fieldLink RX5 21 (TX5 1).1 (TX5 1).2.1 (TX5 1).2.2.1) := ⟨List.mem_of_getElem? (i := 201) (by decide +kernel), by decide +kernel⟩
theorem fl_X5_21 : FL RX5 21 6 1 RX5 TX5 9 := ⟨rfl, by decide, tg201, us_X5⟩
theorem tg130 : TG (.code yX2_init cX2_init 2 none) := ⟨List.mem_of_getElem? (i := 130) (by decide +kernel), by decide +kernel⟩
theorem tg128 : TG (.methodLink RX5 27 yX2_init) := ⟨List.mem_of_getElem? (i := 128) (by decide +kernel), by decide +kernel⟩
theorem tg129 : TG (.instanceMethod yX2_init) := ⟨List.mem_of_getElem? (i := 129) (by decide +kernel), by decide +kernel⟩
theorem lk_X5_27 : LI RX5 27 yX2_init cX2_init 2 1 := ⟨tg128, tg129, tg65, tg130, ⟨by decide +kernel, by decide +kernel, by decide +kernel⟩⟩
theorem tg202 : TG (.fieldLink RX5 28 (TX5 2).1 (TX5 2).2.1 (TX5 2).2.2.1) := ⟨List.mem_of_getElem? (i := 202) (by decide +kernel), by decide +kernel⟩
theorem fl_X5_28 : FL RX5 28 6 2 RX5 TX5 9 := ⟨rfl, by decide, tg202, us_X5⟩
theorem tg140 : TG (.code yX0_init cX0_init 2 none) := ⟨List.mem_of_getElem? (i := 140) (by decide +kernel), by decide +kernel⟩
theorem tg138 : TG (.methodLink RX5 34 yX0_init) := ⟨List.mem_of_getElem? (i := 138) (by decide +kernel), by decide +kernel⟩
theorem tg139 : TG (.instanceMethod yX0_init) := ⟨List.mem_of_getElem? (i := 139) (by decide +kernel), by decide +kernel⟩
theorem lk_X5_34 : LI RX5 34 yX0_init cX0_init 2 1 := ⟨tg138, tg139, tg66, tg140, ⟨by decide +kernel, by decide +kernel, by decide +kernel⟩⟩
theorem tg203 : TG (.fieldLink RX5 35 (TX5 3).1 (TX5 3).2.1 (TX5 3).2.2.1) := ⟨List.mem_of_getElem? (i := 203) (by decide +kernel), by decide +kernel⟩
theorem fl_X5_35 : FL RX5 35 6 3 RX5 TX5 9 := ⟨rfl, by decide, tg203, us_X5⟩
theorem tg204 : TG (.fieldLink RX5 39 (TX5 4).1 (TX5 4).2.1 (TX5 4).2.2.1) := ⟨List.mem_of_getElem? (i := 204) (by decide +kernel), by decide +kernel⟩
theorem fl_X5_39 : FL RX5 39 6 4 RX5 TX5 9 := ⟨rfl, by decide, tg204, us_X5⟩
theorem tg150 : TG (.code yX3_init cX3_init 1 none) := ⟨List.mem_of_getElem? (i := 150) (by decide +kernel), by decide +kernel⟩
theorem tg149 : TG (.instanceMethod yX3_init) := ⟨List.mem_of_getElem? (i := 149) (by decide +kernel), by decide +kernel⟩
theorem lk_X5_45 : LIN RX5 45 yX3_init "TokenReader" cX3_init 1 0 := ⟨(by decide +kernel), tg149, tg67, tg150, ⟨by decide +kernel, by decide +kernel, by decide +kernel⟩⟩
theorem tg206 : TG (.fieldLink RX5 46 (TX5 6).1 (TX5 6).2.1 (TX5 6).2.2.1) := ⟨List.mem_of_getElem? (i := 206) (by decide +kernel), by decide +kernel⟩
theorem fl_X5_46 : FL RX5 46 6 6 RX5 TX5 9 := ⟨rfl, by decide, tg206, us_X5⟩
theorem tg207 : TG (.fieldLink RX5 50 (TX5 7).1 (TX5 7).2.1 (TX5 7).2.2.1) := ⟨List.mem_of_getElem? (i := 207) (by decide +kernel), by decide +kernel⟩
theorem fl_X5_50 : FL RX5 50 6 7 RX5 TX5 9 := ⟨rfl, by decide, tg207, us_X5⟩
theorem tg99 : TG (.fieldLink RX5 53 (TX1 3).1 (TX1 3).2.1 (TX1 3).2.2.1) := ⟨List.mem_of_getElem? (i := 99) (by decide +kernel), by decide +kernel⟩
theorem fl_X5_53 : FL RX5 53 2 3 RX1 TX1 4 := ⟨rfl, by decide, tg99, us_X1⟩
theorem tg633 : TG (.code yX1_append cX1_append 2 (some .boolean)) := ⟨List.mem_of_getElem? (i := 633) (by decide +kernel), by decide +kernel⟩
theorem tg630 : TG (.methodLink RX5 64 yX1_append) := ⟨List.mem_of_getElem? (i := 630) (by decide +kernel), by decide +kernel⟩
theorem tg631 : TG (.instanceMethod yX1_append) := ⟨List.mem_of_getElem? (i := 631) (by decide +kernel), by decide +kernel⟩
theorem tg632 : TG (.selects yX1_append.cls yX1_append yX1_append) := ⟨List.mem_of_getElem? (i := 632) (by decide +kernel), by decide +kernel⟩
theorem lk_X5_64 : LV RX5 64 yX1_append cX1_append 2 (some .boolean) 1 := ⟨tg630, tg631, tg632, tg63, tg633, ⟨by decide +kernel, by decide +kernel, by decide +kernel⟩⟩
theorem tg94 : TG (.fieldLink RX5 73 (TX1 1).1 (TX1 1).2.1 (TX1 1).2.2.1) := ⟨List.mem_of_getElem? (i := 94) (by decide +kernel), by decide +kernel⟩
theorem fl_X5_73 : FL RX5 73 2 1 RX1 TX1 4 := ⟨rfl, by decide, tg94, us_X1⟩
theorem tg98 : TG (.fieldLink RX5 77 (TX1 2).1 (TX1 2).2.1 (TX1 2).2.2.1) := ⟨List.mem_of_getElem? (i := 98) (by decide +kernel), by decide +kernel⟩
theorem fl_X5_77 : FL RX5 77 2 2 RX1 TX1 4 := ⟨rfl, by decide, tg98, us_X1⟩
theorem tg239 : TG (.code yX1_firstNotWhite cX1_firstNotWhite 4 (some .int)) := ⟨List.mem_of_getElem? (i := 239) (by decide +kernel), by decide +kernel⟩
theorem tg236 : TG (.methodLink RX5 80 yX1_firstNotWhite) := ⟨List.mem_of_getElem? (i := 236) (by decide +kernel), by decide +kernel⟩
theorem tg237 : TG (.instanceMethod yX1_firstNotWhite) := ⟨List.mem_of_getElem? (i := 237) (by decide +kernel), by decide +kernel⟩
theorem tg238 : TG (.selects yX1_firstNotWhite.cls yX1_firstNotWhite yX1_firstNotWhite) := ⟨List.mem_of_getElem? (i := 238) (by decide +kernel), by decide +kernel⟩
theorem lk_X5_80 : LV RX5 80 yX1_firstNotWhite cX1_firstNotWhite 4 (some .int) 0 := ⟨tg236, tg237, tg238, tg63, tg239, ⟨by decide +kernel, by decide +kernel, by decide +kernel⟩⟩
theorem tg254 : TG (.code yX5_nothingFollows cX5_nothingFollows 1 (some .int)) := ⟨List.mem_of_getElem? (i := 254) (by decide +kernel), by decide +kernel⟩
theorem tg251 : TG (.methodLink RX5 84 yX5_nothingFollows) := ⟨List.mem_of_getElem? (i := 251) (by decide +kernel), by decide +kernel⟩
theorem tg253 : TG (.instanceMethod yX5_nothingFollows) := ⟨List.mem_of_getElem? (i := 253) (by decide +kernel), by decide +kernel⟩
theorem tg0 : TG (.selects yX5_nothingFollows.cls yX5_nothingFollows yX5_nothingFollows) := ⟨List.mem_of_getElem? (i := 0) (by decide +kernel), by decide +kernel⟩
theorem lk_X5_84 : LV RX5 84 yX5_nothingFollows cX5_nothingFollows 1 (some .int) 0 := ⟨tg251, tg253, tg0, tg62, tg254, ⟨by decide +kernel, by decide +kernel, by decide +kernel⟩⟩
theorem tg258 : TG (.code yX3_startAt cX3_startAt 2 none) := ⟨List.mem_of_getElem? (i := 258) (by decide +kernel), by decide +kernel⟩
theorem tg255 : TG (.methodLink RX5 87 yX3_startAt) := ⟨List.mem_of_getElem? (i := 255) (by decide +kernel), by decide +kernel⟩
theorem tg256 : TG (.instanceMethod yX3_startAt) := ⟨List.mem_of_getElem? (i := 256) (by decide +kernel), by decide +kernel⟩
theorem tg257 : TG (.selects yX3_startAt.cls yX3_startAt yX3_startAt) := ⟨List.mem_of_getElem? (i := 257) (by decide +kernel), by decide +kernel⟩
theorem lk_X5_87 : LV RX5 87 yX3_startAt cX3_startAt 2 none 1 := ⟨tg255, tg256, tg257, tg67, tg258, ⟨by decide +kernel, by decide +kernel, by decide +kernel⟩⟩
theorem tg259 : TG (.methodLink RX5 91 yX1_at) := ⟨List.mem_of_getElem? (i := 259) (by decide +kernel), by decide +kernel⟩
theorem lk_X5_91 : LV RX5 91 yX1_at cX1_at 2 (some .int) 1 := ⟨tg259, tg241, tg242, tg63, tg243, ⟨by decide +kernel, by decide +kernel, by decide +kernel⟩⟩
theorem tg263 : TG (.code yX5_readToken cX5_readToken 2 (some .int)) := ⟨List.mem_of_getElem? (i := 263) (by decide +kernel), by decide +kernel⟩
theorem tg260 : TG (.methodLink RX5 95 yX5_readToken) := ⟨List.mem_of_getElem? (i := 260) (by decide +kernel), by decide +kernel⟩
theorem tg262 : TG (.instanceMethod yX5_readToken) := ⟨List.mem_of_getElem? (i := 262) (by decide +kernel), by decide +kernel⟩
theorem tg1 : TG (.selects yX5_readToken.cls yX5_readToken yX5_readToken) := ⟨List.mem_of_getElem? (i := 1) (by decide +kernel), by decide +kernel⟩
theorem lk_X5_95 : LV RX5 95 yX5_readToken cX5_readToken 2 (some .int) 1 := ⟨tg260, tg262, tg1, tg62, tg263, ⟨by decide +kernel, by decide +kernel, by decide +kernel⟩⟩
theorem tg159 : TG (.fieldLink RX5 98 (TX3 1).1 (TX3 1).2.1 (TX3 1).2.2.1) := ⟨List.mem_of_getElem? (i := 159) (by decide +kernel), by decide +kernel⟩
theorem fl_X5_98 : FL RX5 98 4 1 RX3 TX3 10 := ⟨rfl, by decide, tg159, us_X3⟩
theorem tg156 : TG (.fieldLink RX5 101 (TX3 0).1 (TX3 0).2.1 (TX3 0).2.2.1) := ⟨List.mem_of_getElem? (i := 156) (by decide +kernel), by decide +kernel⟩
theorem fl_X5_101 : FL RX5 101 4 0 RX3 TX3 10 := ⟨rfl, by decide, tg156, us_X3⟩
theorem tg208 : TG (.fieldLink RX5 104 (TX5 8).1 (TX5 8).2.1 (TX5 8).2.2.1) := ⟨List.mem_of_getElem? (i := 208) (by decide +kernel), by decide +kernel⟩
theorem fl_X5_104 : FL RX5 104 6 8 RX5 TX5 9 := ⟨rfl, by decide, tg208, us_X5⟩
theorem tg519 : TG (.code yX5_keepDraft cX5_keepDraft 2 none) := ⟨List.mem_of_getElem? (i := 519) (by decide +kernel), by decide +kernel⟩
theorem tg516 : TG (.methodLink RX5 107 yX5_keepDraft) := ⟨List.mem_of_getElem? (i := 516) (by decide +kernel), by decide +kernel⟩
theorem tg518 : TG (.instanceMethod yX5_keepDraft) := ⟨List.mem_of_getElem? (i := 518) (by decide +kernel), by decide +kernel⟩
theorem tg28 : TG (.selects yX5_keepDraft.cls yX5_keepDraft yX5_keepDraft) := ⟨List.mem_of_getElem? (i := 28) (by decide +kernel), by decide +kernel⟩
theorem lk_X5_107 : LV RX5 107 yX5_keepDraft cX5_keepDraft 2 none 0 := ⟨tg516, tg518, tg28, tg62, tg519, ⟨by decide +kernel, by decide +kernel, by decide +kernel⟩⟩
theorem tg164 : TG (.fieldLink RX5 110 (TX3 2).1 (TX3 2).2.1 (TX3 2).2.2.1) := ⟨List.mem_of_getElem? (i := 164) (by decide +kernel), by decide +kernel⟩
theorem fl_X5_110 : FL RX5 110 4 2 RX3 TX3 10 := ⟨rfl, by decide, tg164, us_X3⟩
theorem tg166 : TG (.fieldLink RX5 114 (TX3 3).1 (TX3 3).2.1 (TX3 3).2.2.1) := ⟨List.mem_of_getElem? (i := 166) (by decide +kernel), by decide +kernel⟩
theorem fl_X5_114 : FL RX5 114 4 3 RX3 TX3 10 := ⟨rfl, by decide, tg166, us_X3⟩
theorem tg532 : TG (.methodLink RX5 118 yX3_textAt) := ⟨List.mem_of_getElem? (i := 532) (by decide +kernel), by decide +kernel⟩
theorem lk_X5_118 : LV RX5 118 yX3_textAt cX3_textAt 2 (some .int) 1 := ⟨tg532, tg478, tg479, tg67, tg480, ⟨by decide +kernel, by decide +kernel, by decide +kernel⟩⟩
theorem tg661 : TG (.code yX3_hasInRow cX3_hasInRow 2 (some .boolean)) := ⟨List.mem_of_getElem? (i := 661) (by decide +kernel), by decide +kernel⟩
theorem tg658 : TG (.methodLink RX5 121 yX3_hasInRow) := ⟨List.mem_of_getElem? (i := 658) (by decide +kernel), by decide +kernel⟩
theorem tg659 : TG (.instanceMethod yX3_hasInRow) := ⟨List.mem_of_getElem? (i := 659) (by decide +kernel), by decide +kernel⟩
theorem tg660 : TG (.selects yX3_hasInRow.cls yX3_hasInRow yX3_hasInRow) := ⟨List.mem_of_getElem? (i := 660) (by decide +kernel), by decide +kernel⟩
theorem lk_X5_121 : LV RX5 121 yX3_hasInRow cX3_hasInRow 2 (some .boolean) 1 := ⟨tg658, tg659, tg660, tg67, tg661, ⟨by decide +kernel, by decide +kernel, by decide +kernel⟩⟩
theorem tg174 : TG (.fieldLink RX5 130 (TX3 8).1 (TX3 8).2.1 (TX3 8).2.2.1) := ⟨List.mem_of_getElem? (i := 174) (by decide +kernel), by decide +kernel⟩
theorem fl_X5_130 : FL RX5 130 4 8 RX3 TX3 10 := ⟨rfl, by decide, tg174, us_X3⟩
theorem tg171 : TG (.fieldLink RX5 133 (TX3 6).1 (TX3 6).2.1 (TX3 6).2.2.1) := ⟨List.mem_of_getElem? (i := 171) (by decide +kernel), by decide +kernel⟩
theorem fl_X5_133 : FL RX5 133 4 6 RX3 TX3 10 := ⟨rfl, by decide, tg171, us_X3⟩
theorem tg173 : TG (.fieldLink RX5 136 (TX3 7).1 (TX3 7).2.1 (TX3 7).2.2.1) := ⟨List.mem_of_getElem? (i := 173) (by decide +kernel), by decide +kernel⟩
theorem fl_X5_136 : FL RX5 136 4 7 RX3 TX3 10 := ⟨rfl, by decide, tg173, us_X3⟩
theorem tg120 : TG (.fieldLink RX5 140 (TX4 1).1 (TX4 1).2.1 (TX4 1).2.2.1) := ⟨List.mem_of_getElem? (i := 120) (by decide +kernel), by decide +kernel⟩
theorem fl_X5_140 : FL RX5 140 5 1 RX4 TX4 2 := ⟨rfl, by decide, tg120, us_X4⟩
theorem tg205 : TG (.fieldLink RX5 143 (TX5 5).1 (TX5 5).2.1 (TX5 5).2.2.1) := ⟨List.mem_of_getElem? (i := 205) (by decide +kernel), by decide +kernel⟩
theorem fl_X5_143 : FL RX5 143 6 5 RX5 TX5 9 := ⟨rfl, by decide, tg205, us_X5⟩
theorem tg693 : TG (.methodLink RX5 146 yX1_has) := ⟨List.mem_of_getElem? (i := 693) (by decide +kernel), by decide +kernel⟩
theorem lk_X5_146 : LV RX5 146 yX1_has cX1_has 2 (some .boolean) 1 := ⟨tg693, tg245, tg246, tg63, tg247, ⟨by decide +kernel, by decide +kernel, by decide +kernel⟩⟩
theorem tg552 : TG (.code yX1_forget cX1_forget 1 none) := ⟨List.mem_of_getElem? (i := 552) (by decide +kernel), by decide +kernel⟩
theorem tg549 : TG (.methodLink RX5 154 yX1_forget) := ⟨List.mem_of_getElem? (i := 549) (by decide +kernel), by decide +kernel⟩
theorem tg550 : TG (.instanceMethod yX1_forget) := ⟨List.mem_of_getElem? (i := 550) (by decide +kernel), by decide +kernel⟩
theorem tg551 : TG (.selects yX1_forget.cls yX1_forget yX1_forget) := ⟨List.mem_of_getElem? (i := 551) (by decide +kernel), by decide +kernel⟩
theorem lk_X5_154 : LV RX5 154 yX1_forget cX1_forget 1 none 0 := ⟨tg549, tg550, tg551, tg63, tg552, ⟨by decide +kernel, by decide +kernel, by decide +kernel⟩⟩
theorem tg267 : TG (.code yX0_readBinary cX0_readBinary 3 (some .int)) := ⟨List.mem_of_getElem? (i := 267) (by decide +kernel), by decide +kernel⟩
theorem tg264 : TG (.methodLink RX5 157 yX0_readBinary) := ⟨List.mem_of_getElem? (i := 264) (by decide +kernel), by decide +kernel⟩
theorem tg265 : TG (.instanceMethod yX0_readBinary) := ⟨List.mem_of_getElem? (i := 265) (by decide +kernel), by decide +kernel⟩
theorem tg266 : TG (.selects yX0_readBinary.cls yX0_readBinary yX0_readBinary) := ⟨List.mem_of_getElem? (i := 266) (by decide +kernel), by decide +kernel⟩
theorem lk_X5_157 : LV RX5 157 yX0_readBinary cX0_readBinary 3 (some .int) 2 := ⟨tg264, tg265, tg266, tg66, tg267, ⟨by decide +kernel, by decide +kernel, by decide +kernel⟩⟩
theorem tg363 : TG (.code yX4_readSlashed cX4_readSlashed 3 (some .int)) := ⟨List.mem_of_getElem? (i := 363) (by decide +kernel), by decide +kernel⟩
theorem tg360 : TG (.methodLink RX5 161 yX4_readSlashed) := ⟨List.mem_of_getElem? (i := 360) (by decide +kernel), by decide +kernel⟩
theorem tg361 : TG (.instanceMethod yX4_readSlashed) := ⟨List.mem_of_getElem? (i := 361) (by decide +kernel), by decide +kernel⟩
theorem tg362 : TG (.selects yX4_readSlashed.cls yX4_readSlashed yX4_readSlashed) := ⟨List.mem_of_getElem? (i := 362) (by decide +kernel), by decide +kernel⟩
theorem lk_X5_161 : LV RX5 161 yX4_readSlashed cX4_readSlashed 3 (some .int) 1 := ⟨tg360, tg361, tg362, tg64, tg363, ⟨by decide +kernel, by decide +kernel, by decide +kernel⟩⟩
theorem tg384 : TG (.code yX2_readRound cX2_readRound 5 (some .int)) := ⟨List.mem_of_getElem? (i := 384) (by decide +kernel), by decide +kernel⟩
theorem tg381 : TG (.methodLink RX5 165 yX2_readRound) := ⟨List.mem_of_getElem? (i := 381) (by decide +kernel), by decide +kernel⟩
theorem tg382 : TG (.instanceMethod yX2_readRound) := ⟨List.mem_of_getElem? (i := 382) (by decide +kernel), by decide +kernel⟩
theorem tg383 : TG (.selects yX2_readRound.cls yX2_readRound yX2_readRound) := ⟨List.mem_of_getElem? (i := 383) (by decide +kernel), by decide +kernel⟩
theorem lk_X5_165 : LV RX5 165 yX2_readRound cX2_readRound 5 (some .int) 1 := ⟨tg381, tg382, tg383, tg65, tg384, ⟨by decide +kernel, by decide +kernel, by decide +kernel⟩⟩
theorem tg424 : TG (.code yX5_readLess cX5_readLess 1 (some .int)) := ⟨List.mem_of_getElem? (i := 424) (by decide +kernel), by decide +kernel⟩
theorem tg421 : TG (.methodLink RX5 168 yX5_readLess) := ⟨List.mem_of_getElem? (i := 421) (by decide +kernel), by decide +kernel⟩
theorem tg423 : TG (.instanceMethod yX5_readLess) := ⟨List.mem_of_getElem? (i := 423) (by decide +kernel), by decide +kernel⟩
theorem tg19 : TG (.selects yX5_readLess.cls yX5_readLess yX5_readLess) := ⟨List.mem_of_getElem? (i := 19) (by decide +kernel), by decide +kernel⟩
theorem lk_X5_168 : LV RX5 168 yX5_readLess cX5_readLess 1 (some .int) 0 := ⟨tg421, tg423, tg19, tg62, tg424, ⟨by decide +kernel, by decide +kernel, by decide +kernel⟩⟩
theorem tg457 : TG (.code yX5_readGreater cX5_readGreater 1 (some .int)) := ⟨List.mem_of_getElem? (i := 457) (by decide +kernel), by decide +kernel⟩
theorem tg454 : TG (.methodLink RX5 171 yX5_readGreater) := ⟨List.mem_of_getElem? (i := 454) (by decide +kernel), by decide +kernel⟩
theorem tg456 : TG (.instanceMethod yX5_readGreater) := ⟨List.mem_of_getElem? (i := 456) (by decide +kernel), by decide +kernel⟩
theorem tg22 : TG (.selects yX5_readGreater.cls yX5_readGreater yX5_readGreater) := ⟨List.mem_of_getElem? (i := 22) (by decide +kernel), by decide +kernel⟩
theorem lk_X5_171 : LV RX5 171 yX5_readGreater cX5_readGreater 1 (some .int) 0 := ⟨tg454, tg456, tg22, tg62, tg457, ⟨by decide +kernel, by decide +kernel, by decide +kernel⟩⟩
theorem tg461 : TG (.code yX5_openBrace cX5_openBrace 1 (some .int)) := ⟨List.mem_of_getElem? (i := 461) (by decide +kernel), by decide +kernel⟩
theorem tg458 : TG (.methodLink RX5 174 yX5_openBrace) := ⟨List.mem_of_getElem? (i := 458) (by decide +kernel), by decide +kernel⟩
theorem tg460 : TG (.instanceMethod yX5_openBrace) := ⟨List.mem_of_getElem? (i := 460) (by decide +kernel), by decide +kernel⟩
theorem tg23 : TG (.selects yX5_openBrace.cls yX5_openBrace yX5_openBrace) := ⟨List.mem_of_getElem? (i := 23) (by decide +kernel), by decide +kernel⟩
theorem lk_X5_174 : LV RX5 174 yX5_openBrace cX5_openBrace 1 (some .int) 0 := ⟨tg458, tg460, tg23, tg62, tg461, ⟨by decide +kernel, by decide +kernel, by decide +kernel⟩⟩
theorem tg465 : TG (.code yX5_closeBrace cX5_closeBrace 1 (some .int)) := ⟨List.mem_of_getElem? (i := 465) (by decide +kernel), by decide +kernel⟩
theorem tg462 : TG (.methodLink RX5 177 yX5_closeBrace) := ⟨List.mem_of_getElem? (i := 462) (by decide +kernel), by decide +kernel⟩
theorem tg464 : TG (.instanceMethod yX5_closeBrace) := ⟨List.mem_of_getElem? (i := 464) (by decide +kernel), by decide +kernel⟩
theorem tg24 : TG (.selects yX5_closeBrace.cls yX5_closeBrace yX5_closeBrace) := ⟨List.mem_of_getElem? (i := 24) (by decide +kernel), by decide +kernel⟩
theorem lk_X5_177 : LV RX5 177 yX5_closeBrace cX5_closeBrace 1 (some .int) 0 := ⟨tg462, tg464, tg24, tg62, tg465, ⟨by decide +kernel, by decide +kernel, by decide +kernel⟩⟩
theorem tg469 : TG (.code yX4_readWord cX4_readWord 3 (some .int)) := ⟨List.mem_of_getElem? (i := 469) (by decide +kernel), by decide +kernel⟩
theorem tg466 : TG (.methodLink RX5 180 yX4_readWord) := ⟨List.mem_of_getElem? (i := 466) (by decide +kernel), by decide +kernel⟩
theorem tg467 : TG (.instanceMethod yX4_readWord) := ⟨List.mem_of_getElem? (i := 467) (by decide +kernel), by decide +kernel⟩
theorem tg468 : TG (.selects yX4_readWord.cls yX4_readWord yX4_readWord) := ⟨List.mem_of_getElem? (i := 468) (by decide +kernel), by decide +kernel⟩
theorem lk_X5_180 : LV RX5 180 yX4_readWord cX4_readWord 3 (some .int) 1 := ⟨tg466, tg467, tg468, tg64, tg469, ⟨by decide +kernel, by decide +kernel, by decide +kernel⟩⟩
theorem tg425 : TG (.methodLink RX5 183 yX1_lacking) := ⟨List.mem_of_getElem? (i := 425) (by decide +kernel), by decide +kernel⟩
theorem lk_X5_183 : LV RX5 183 yX1_lacking cX1_lacking 2 (some .int) 1 := ⟨tg425, tg277, tg278, tg63, tg279, ⟨by decide +kernel, by decide +kernel, by decide +kernel⟩⟩
theorem tg429 : TG (.code yX5_pairMark cX5_pairMark 2 (some .int)) := ⟨List.mem_of_getElem? (i := 429) (by decide +kernel), by decide +kernel⟩
theorem tg426 : TG (.methodLink RX5 186 yX5_pairMark) := ⟨List.mem_of_getElem? (i := 426) (by decide +kernel), by decide +kernel⟩
theorem tg428 : TG (.instanceMethod yX5_pairMark) := ⟨List.mem_of_getElem? (i := 428) (by decide +kernel), by decide +kernel⟩
theorem tg20 : TG (.selects yX5_pairMark.cls yX5_pairMark yX5_pairMark) := ⟨List.mem_of_getElem? (i := 20) (by decide +kernel), by decide +kernel⟩
theorem lk_X5_186 : LV RX5 186 yX5_pairMark cX5_pairMark 2 (some .int) 1 := ⟨tg426, tg428, tg20, tg62, tg429, ⟨by decide +kernel, by decide +kernel, by decide +kernel⟩⟩
theorem tg433 : TG (.code yX2_readBase85 cX2_readBase85 7 (some .int)) := ⟨List.mem_of_getElem? (i := 433) (by decide +kernel), by decide +kernel⟩
theorem tg430 : TG (.methodLink RX5 189 yX2_readBase85) := ⟨List.mem_of_getElem? (i := 430) (by decide +kernel), by decide +kernel⟩
theorem tg431 : TG (.instanceMethod yX2_readBase85) := ⟨List.mem_of_getElem? (i := 431) (by decide +kernel), by decide +kernel⟩
theorem tg432 : TG (.selects yX2_readBase85.cls yX2_readBase85 yX2_readBase85) := ⟨List.mem_of_getElem? (i := 432) (by decide +kernel), by decide +kernel⟩
theorem lk_X5_189 : LV RX5 189 yX2_readBase85 cX2_readBase85 7 (some .int) 1 := ⟨tg430, tg431, tg432, tg65, tg433, ⟨by decide +kernel, by decide +kernel, by decide +kernel⟩⟩
theorem tg450 : TG (.code yX2_readBase16 cX2_readBase16 6 (some .int)) := ⟨List.mem_of_getElem? (i := 450) (by decide +kernel), by decide +kernel⟩
theorem tg447 : TG (.methodLink RX5 192 yX2_readBase16) := ⟨List.mem_of_getElem? (i := 447) (by decide +kernel), by decide +kernel⟩
theorem tg448 : TG (.instanceMethod yX2_readBase16) := ⟨List.mem_of_getElem? (i := 448) (by decide +kernel), by decide +kernel⟩
theorem tg449 : TG (.selects yX2_readBase16.cls yX2_readBase16 yX2_readBase16) := ⟨List.mem_of_getElem? (i := 449) (by decide +kernel), by decide +kernel⟩
theorem lk_X5_192 : LV RX5 192 yX2_readBase16 cX2_readBase16 6 (some .int) 1 := ⟨tg447, tg448, tg449, tg65, tg450, ⟨by decide +kernel, by decide +kernel, by decide +kernel⟩⟩
theorem tg720 : TG (.fieldLink RX6 7 (TX6 2).1 (TX6 2).2.1 (TX6 2).2.2.1) := ⟨List.mem_of_getElem? (i := 720) (by decide +kernel), by decide +kernel⟩
theorem fl_X6_7 : FL RX6 7 7 2 RX6 TX6 30 := ⟨rfl, by decide, tg720, us_X6⟩
theorem tg725 : TG (.fieldLink RX6 13 (TX6 7).1 (TX6 7).2.1 (TX6 7).2.2.1) := ⟨List.mem_of_getElem? (i := 725) (by decide +kernel), by decide +kernel⟩
theorem fl_X6_13 : FL RX6 13 7 7 RX6 TX6 30 := ⟨rfl, by decide, tg725, us_X6⟩
theorem tg730 : TG (.fieldLink RX6 17 (TX6 12).1 (TX6 12).2.1 (TX6 12).2.2.1) := ⟨List.mem_of_getElem? (i := 730) (by decide +kernel), by decide +kernel⟩
theorem fl_X6_17 : FL RX6 17 7 12 RX6 TX6 30 := ⟨rfl, by decide, tg730, us_X6⟩
theorem tg732 : TG (.fieldLink RX6 21 (TX6 14).1 (TX6 14).2.1 (TX6 14).2.2.1) := ⟨List.mem_of_getElem? (i := 732) (by decide +kernel), by decide +kernel⟩
theorem fl_X6_21 : FL RX6 21 7 14 RX6 TX6 30 := ⟨rfl, by decide, tg732, us_X6⟩
theorem tg735 : TG (.fieldLink RX6 24 (TX6 17).1 (TX6 17).2.1 (TX6 17).2.2.1) := ⟨List.mem_of_getElem? (i := 735) (by decide +kernel), by decide +kernel⟩
theorem fl_X6_24 : FL RX6 24 7 17 RX6 TX6 30 := ⟨rfl, by decide, tg735, us_X6⟩
theorem tg736 : TG (.fieldLink RX6 27 (TX6 18).1 (TX6 18).2.1 (TX6 18).2.2.1) := ⟨List.mem_of_getElem? (i := 736) (by decide +kernel), by decide +kernel⟩
theorem fl_X6_27 : FL RX6 27 7 18 RX6 TX6 30 := ⟨rfl, by decide, tg736, us_X6⟩
theorem tg742 : TG (.fieldLink RX6 31 (TX6 24).1 (TX6 24).2.1 (TX6 24).2.2.1) := ⟨List.mem_of_getElem? (i := 742) (by decide +kernel), by decide +kernel⟩
theorem fl_X6_31 : FL RX6 31 7 24 RX6 TX6 30 := ⟨rfl, by decide, tg742, us_X6⟩
theorem tg745 : TG (.fieldLink RX6 34 (TX6 27).1 (TX6 27).2.1 (TX6 27).2.2.1) := ⟨List.mem_of_getElem? (i := 745) (by decide +kernel), by decide +kernel⟩
theorem fl_X6_34 : FL RX6 34 7 27 RX6 TX6 30 := ⟨rfl, by decide, tg745, us_X6⟩
theorem tg746 : TG (.fieldLink RX6 37 (TX6 28).1 (TX6 28).2.1 (TX6 28).2.2.1) := ⟨List.mem_of_getElem? (i := 746) (by decide +kernel), by decide +kernel⟩
theorem fl_X6_37 : FL RX6 37 7 28 RX6 TX6 30 := ⟨rfl, by decide, tg746, us_X6⟩
theorem tg719 : TG (.fieldLink RX6 40 (TX6 1).1 (TX6 1).2.1 (TX6 1).2.2.1) := ⟨List.mem_of_getElem? (i := 719) (by decide +kernel), by decide +kernel⟩
theorem fl_X6_40 : FL RX6 40 7 1 RX6 TX6 30 := ⟨rfl, by decide, tg719, us_X6⟩
theorem tg718 : TG (.fieldLink RX6 43 (TX6 0).1 (TX6 0).2.1 (TX6 0).2.2.1) := ⟨List.mem_of_getElem? (i := 718) (by decide +kernel), by decide +kernel⟩
theorem fl_X6_43 : FL RX6 43 7 0 RX6 TX6 30 := ⟨rfl, by decide, tg718, us_X6⟩
theorem tg835 : TG (.code yX6_isBlank cX6_isBlank 1 (some .boolean)) := ⟨List.mem_of_getElem? (i := 835) (by decide +kernel), by decide +kernel⟩
theorem tg833 : TG (.methodLink RX6 46 yX6_isBlank) := ⟨List.mem_of_getElem? (i := 833) (by decide +kernel), by decide +kernel⟩
theorem tg834 : TG (.static yX6_isBlank) := ⟨List.mem_of_getElem? (i := 834) (by decide +kernel), by decide +kernel⟩
theorem lk_X6_46 : LSt RX6 46 yX6_isBlank cX6_isBlank 1 (some .boolean) 1 := ⟨tg833, tg834, tg68, tg835, ⟨by decide +kernel, by decide +kernel, by decide +kernel⟩⟩
theorem tg845 : TG (.code yX6_isOwn cX6_isOwn 1 (some .boolean)) := ⟨List.mem_of_getElem? (i := 845) (by decide +kernel), by decide +kernel⟩
theorem tg843 : TG (.methodLink RX6 50 yX6_isOwn) := ⟨List.mem_of_getElem? (i := 843) (by decide +kernel), by decide +kernel⟩
theorem tg844 : TG (.static yX6_isOwn) := ⟨List.mem_of_getElem? (i := 844) (by decide +kernel), by decide +kernel⟩
theorem lk_X6_50 : LSt RX6 50 yX6_isOwn cX6_isOwn 1 (some .boolean) 1 := ⟨tg843, tg844, tg68, tg845, ⟨by decide +kernel, by decide +kernel, by decide +kernel⟩⟩
theorem tg721 : TG (.fieldLink RX6 53 (TX6 3).1 (TX6 3).2.1 (TX6 3).2.2.1) := ⟨List.mem_of_getElem? (i := 721) (by decide +kernel), by decide +kernel⟩
theorem fl_X6_53 : FL RX6 53 7 3 RX6 TX6 30 := ⟨rfl, by decide, tg721, us_X6⟩
theorem tg722 : TG (.fieldLink RX6 57 (TX6 4).1 (TX6 4).2.1 (TX6 4).2.2.1) := ⟨List.mem_of_getElem? (i := 722) (by decide +kernel), by decide +kernel⟩
theorem fl_X6_57 : FL RX6 57 7 4 RX6 TX6 30 := ⟨rfl, by decide, tg722, us_X6⟩
theorem tg864 : TG (.code yX6_isDigit cX6_isDigit 1 (some .boolean)) := ⟨List.mem_of_getElem? (i := 864) (by decide +kernel), by decide +kernel⟩
theorem tg862 : TG (.methodLink RX6 60 yX6_isDigit) := ⟨List.mem_of_getElem? (i := 862) (by decide +kernel), by decide +kernel⟩
theorem tg863 : TG (.static yX6_isDigit) := ⟨List.mem_of_getElem? (i := 863) (by decide +kernel), by decide +kernel⟩
theorem lk_X6_60 : LSt RX6 60 yX6_isDigit cX6_isDigit 1 (some .boolean) 1 := ⟨tg862, tg863, tg68, tg864, ⟨by decide +kernel, by decide +kernel, by decide +kernel⟩⟩
theorem tg832 : TG (.code yX6_byteAt cX6_byteAt 2 (some .int)) := ⟨List.mem_of_getElem? (i := 832) (by decide +kernel), by decide +kernel⟩
theorem tg829 : TG (.methodLink RX6 63 yX6_byteAt) := ⟨List.mem_of_getElem? (i := 829) (by decide +kernel), by decide +kernel⟩
theorem tg831 : TG (.instanceMethod yX6_byteAt) := ⟨List.mem_of_getElem? (i := 831) (by decide +kernel), by decide +kernel⟩
theorem tg31 : TG (.selects yX6_byteAt.cls yX6_byteAt yX6_byteAt) := ⟨List.mem_of_getElem? (i := 31) (by decide +kernel), by decide +kernel⟩
theorem lk_X6_63 : LV RX6 63 yX6_byteAt cX6_byteAt 2 (some .int) 1 := ⟨tg829, tg831, tg31, tg68, tg832, ⟨by decide +kernel, by decide +kernel, by decide +kernel⟩⟩
theorem tg861 : TG (.code yX6_digitsFrom cX6_digitsFrom 4 (some .int)) := ⟨List.mem_of_getElem? (i := 861) (by decide +kernel), by decide +kernel⟩
theorem tg858 : TG (.methodLink RX6 67 yX6_digitsFrom) := ⟨List.mem_of_getElem? (i := 858) (by decide +kernel), by decide +kernel⟩
theorem tg860 : TG (.instanceMethod yX6_digitsFrom) := ⟨List.mem_of_getElem? (i := 860) (by decide +kernel), by decide +kernel⟩
theorem tg36 : TG (.selects yX6_digitsFrom.cls yX6_digitsFrom yX6_digitsFrom) := ⟨List.mem_of_getElem? (i := 36) (by decide +kernel), by decide +kernel⟩
theorem lk_X6_67 : LV RX6 67 yX6_digitsFrom cX6_digitsFrom 4 (some .int) 2 := ⟨tg858, tg860, tg36, tg68, tg861, ⟨by decide +kernel, by decide +kernel, by decide +kernel⟩⟩
theorem tg865 : TG (.constantLong RX6 71 (4294967296)) := ⟨List.mem_of_getElem? (i := 865) (by decide +kernel), by decide +kernel⟩
theorem tg866 : TG (.constantLong RX6 73 (10)) := ⟨List.mem_of_getElem? (i := 866) (by decide +kernel), by decide +kernel⟩
theorem tg867 : TG (.constantLong RX6 75 (48)) := ⟨List.mem_of_getElem? (i := 867) (by decide +kernel), by decide +kernel⟩
theorem tg738 : TG (.fieldLink RX6 77 (TX6 20).1 (TX6 20).2.1 (TX6 20).2.2.1) := ⟨List.mem_of_getElem? (i := 738) (by decide +kernel), by decide +kernel⟩
theorem fl_X6_77 : FL RX6 77 7 20 RX6 TX6 30 := ⟨rfl, by decide, tg738, us_X6⟩
theorem tg740 : TG (.fieldLink RX6 81 (TX6 22).1 (TX6 22).2.1 (TX6 22).2.2.1) := ⟨List.mem_of_getElem? (i := 740) (by decide +kernel), by decide +kernel⟩
theorem fl_X6_81 : FL RX6 81 7 22 RX6 TX6 30 := ⟨rfl, by decide, tg740, us_X6⟩
theorem tg868 : TG (.constantLong RX6 84 (-2147483648)) := ⟨List.mem_of_getElem? (i := 868) (by decide +kernel), by decide +kernel⟩
theorem tg869 : TG (.constantLong RX6 86 (2147483647)) := ⟨List.mem_of_getElem? (i := 869) (by decide +kernel), by decide +kernel⟩
theorem tg876 : TG (.code yX6_digit cX6_digit 1 (some .int)) := ⟨List.mem_of_getElem? (i := 876) (by decide +kernel), by decide +kernel⟩
theorem tg874 : TG (.methodLink RX6 88 yX6_digit) := ⟨List.mem_of_getElem? (i := 874) (by decide +kernel), by decide +kernel⟩
theorem tg875 : TG (.static yX6_digit) := ⟨List.mem_of_getElem? (i := 875) (by decide +kernel), by decide +kernel⟩
theorem lk_X6_88 : LSt RX6 88 yX6_digit cX6_digit 1 (some .int) 1 := ⟨tg874, tg875, tg68, tg876, ⟨by decide +kernel, by decide +kernel, by decide +kernel⟩⟩
theorem tg881 : TG (.constantDouble RX6 91 (4621819117588971520)) := ⟨List.mem_of_getElem? (i := 881) (by decide +kernel), by decide +kernel⟩
theorem tg739 : TG (.fieldLink RX6 93 (TX6 21).1 (TX6 21).2.1 (TX6 21).2.2.1) := ⟨List.mem_of_getElem? (i := 739) (by decide +kernel), by decide +kernel⟩
theorem fl_X6_93 : FL RX6 93 7 21 RX6 TX6 30 := ⟨rfl, by decide, tg739, us_X6⟩
theorem tg882 : TG (.constantDouble RX6 97 (9218868437227405311)) := ⟨List.mem_of_getElem? (i := 882) (by decide +kernel), by decide +kernel⟩
theorem tg741 : TG (.fieldLink RX6 99 (TX6 23).1 (TX6 23).2.1 (TX6 23).2.2.1) := ⟨List.mem_of_getElem? (i := 741) (by decide +kernel), by decide +kernel⟩
theorem fl_X6_99 : FL RX6 99 7 23 RX6 TX6 30 := ⟨rfl, by decide, tg741, us_X6⟩
theorem tg723 : TG (.fieldLink RX6 102 (TX6 5).1 (TX6 5).2.1 (TX6 5).2.2.1) := ⟨List.mem_of_getElem? (i := 723) (by decide +kernel), by decide +kernel⟩
theorem fl_X6_102 : FL RX6 102 7 5 RX6 TX6 30 := ⟨rfl, by decide, tg723, us_X6⟩
theorem tg842 : TG (.code yX6_isPlain cX6_isPlain 1 (some .boolean)) := ⟨List.mem_of_getElem? (i := 842) (by decide +kernel), by decide +kernel⟩
theorem tg840 : TG (.methodLink RX6 105 yX6_isPlain) := ⟨List.mem_of_getElem? (i := 840) (by decide +kernel), by decide +kernel⟩
theorem tg841 : TG (.static yX6_isPlain) := ⟨List.mem_of_getElem? (i := 841) (by decide +kernel), by decide +kernel⟩
theorem lk_X6_105 : LSt RX6 105 yX6_isPlain cX6_isPlain 1 (some .boolean) 1 := ⟨tg840, tg841, tg68, tg842, ⟨by decide +kernel, by decide +kernel, by decide +kernel⟩⟩
theorem tg853 : TG (.code yX6_word cX6_word 2 (some .int)) := ⟨List.mem_of_getElem? (i := 853) (by decide +kernel), by decide +kernel⟩
theorem tg850 : TG (.methodLink RX6 108 yX6_word) := ⟨List.mem_of_getElem? (i := 850) (by decide +kernel), by decide +kernel⟩
theorem tg852 : TG (.instanceMethod yX6_word) := ⟨List.mem_of_getElem? (i := 852) (by decide +kernel), by decide +kernel⟩
theorem tg34 : TG (.selects yX6_word.cls yX6_word yX6_word) := ⟨List.mem_of_getElem? (i := 34) (by decide +kernel), by decide +kernel⟩
theorem lk_X6_108 : LV RX6 108 yX6_word cX6_word 2 (some .int) 0 := ⟨tg850, tg852, tg34, tg68, tg853, ⟨by decide +kernel, by decide +kernel, by decide +kernel⟩⟩
theorem tg857 : TG (.code yX6_isInteger cX6_isInteger 7 (some .boolean)) := ⟨List.mem_of_getElem? (i := 857) (by decide +kernel), by decide +kernel⟩
theorem tg854 : TG (.methodLink RX6 112 yX6_isInteger) := ⟨List.mem_of_getElem? (i := 854) (by decide +kernel), by decide +kernel⟩
theorem tg856 : TG (.instanceMethod yX6_isInteger) := ⟨List.mem_of_getElem? (i := 856) (by decide +kernel), by decide +kernel⟩
theorem tg35 : TG (.selects yX6_isInteger.cls yX6_isInteger yX6_isInteger) := ⟨List.mem_of_getElem? (i := 35) (by decide +kernel), by decide +kernel⟩
theorem lk_X6_112 : LV RX6 112 yX6_isInteger cX6_isInteger 7 (some .boolean) 2 := ⟨tg854, tg856, tg35, tg68, tg857, ⟨by decide +kernel, by decide +kernel, by decide +kernel⟩⟩
theorem tg873 : TG (.code yX6_withBase cX6_withBase 9 (some .int)) := ⟨List.mem_of_getElem? (i := 873) (by decide +kernel), by decide +kernel⟩
theorem tg870 : TG (.methodLink RX6 116 yX6_withBase) := ⟨List.mem_of_getElem? (i := 870) (by decide +kernel), by decide +kernel⟩
theorem tg872 : TG (.instanceMethod yX6_withBase) := ⟨List.mem_of_getElem? (i := 872) (by decide +kernel), by decide +kernel⟩
theorem tg37 : TG (.selects yX6_withBase.cls yX6_withBase yX6_withBase) := ⟨List.mem_of_getElem? (i := 37) (by decide +kernel), by decide +kernel⟩
theorem lk_X6_116 : LV RX6 116 yX6_withBase cX6_withBase 9 (some .int) 2 := ⟨tg870, tg872, tg37, tg68, tg873, ⟨by decide +kernel, by decide +kernel, by decide +kernel⟩⟩
theorem tg880 : TG (.code yX6_asReal cX6_asReal 13 (some .int)) := ⟨List.mem_of_getElem? (i := 880) (by decide +kernel), by decide +kernel⟩
theorem tg877 : TG (.methodLink RX6 119 yX6_asReal) := ⟨List.mem_of_getElem? (i := 877) (by decide +kernel), by decide +kernel⟩
theorem tg879 : TG (.instanceMethod yX6_asReal) := ⟨List.mem_of_getElem? (i := 879) (by decide +kernel), by decide +kernel⟩
theorem tg38 : TG (.selects yX6_asReal.cls yX6_asReal yX6_asReal) := ⟨List.mem_of_getElem? (i := 38) (by decide +kernel), by decide +kernel⟩
theorem lk_X6_119 : LV RX6 119 yX6_asReal cX6_asReal 13 (some .int) 2 := ⟨tg877, tg879, tg38, tg68, tg880, ⟨by decide +kernel, by decide +kernel, by decide +kernel⟩⟩
theorem tg898 : TG (.code yX6_putSign cX6_putSign 2 none) := ⟨List.mem_of_getElem? (i := 898) (by decide +kernel), by decide +kernel⟩
theorem tg895 : TG (.methodLink RX6 122 yX6_putSign) := ⟨List.mem_of_getElem? (i := 895) (by decide +kernel), by decide +kernel⟩
theorem tg897 : TG (.instanceMethod yX6_putSign) := ⟨List.mem_of_getElem? (i := 897) (by decide +kernel), by decide +kernel⟩
theorem tg42 : TG (.selects yX6_putSign.cls yX6_putSign yX6_putSign) := ⟨List.mem_of_getElem? (i := 42) (by decide +kernel), by decide +kernel⟩
theorem lk_X6_122 : LV RX6 122 yX6_putSign cX6_putSign 2 none 1 := ⟨tg895, tg897, tg42, tg68, tg898, ⟨by decide +kernel, by decide +kernel, by decide +kernel⟩⟩
theorem tg894 : TG (.code yX6_escape cX6_escape 4 none) := ⟨List.mem_of_getElem? (i := 894) (by decide +kernel), by decide +kernel⟩
theorem tg891 : TG (.methodLink RX6 126 yX6_escape) := ⟨List.mem_of_getElem? (i := 891) (by decide +kernel), by decide +kernel⟩
theorem tg893 : TG (.instanceMethod yX6_escape) := ⟨List.mem_of_getElem? (i := 893) (by decide +kernel), by decide +kernel⟩
theorem tg41 : TG (.selects yX6_escape.cls yX6_escape yX6_escape) := ⟨List.mem_of_getElem? (i := 41) (by decide +kernel), by decide +kernel⟩
theorem lk_X6_126 : LV RX6 126 yX6_escape cX6_escape 4 none 0 := ⟨tg891, tg893, tg41, tg68, tg894, ⟨by decide +kernel, by decide +kernel, by decide +kernel⟩⟩
theorem tg902 : TG (.code yX6_finished cX6_finished 1 (some .int)) := ⟨List.mem_of_getElem? (i := 902) (by decide +kernel), by decide +kernel⟩
theorem tg899 : TG (.methodLink RX6 129 yX6_finished) := ⟨List.mem_of_getElem? (i := 899) (by decide +kernel), by decide +kernel⟩
theorem tg901 : TG (.instanceMethod yX6_finished) := ⟨List.mem_of_getElem? (i := 901) (by decide +kernel), by decide +kernel⟩
theorem tg43 : TG (.selects yX6_finished.cls yX6_finished yX6_finished) := ⟨List.mem_of_getElem? (i := 43) (by decide +kernel), by decide +kernel⟩
theorem lk_X6_129 : LV RX6 129 yX6_finished cX6_finished 1 (some .int) 0 := ⟨tg899, tg901, tg43, tg68, tg902, ⟨by decide +kernel, by decide +kernel, by decide +kernel⟩⟩
theorem tg906 : TG (.code yX6_lacking cX6_lacking 1 (some .int)) := ⟨List.mem_of_getElem? (i := 906) (by decide +kernel), by decide +kernel⟩
theorem tg903 : TG (.methodLink RX6 132 yX6_lacking) := ⟨List.mem_of_getElem? (i := 903) (by decide +kernel), by decide +kernel⟩
theorem tg905 : TG (.instanceMethod yX6_lacking) := ⟨List.mem_of_getElem? (i := 905) (by decide +kernel), by decide +kernel⟩
theorem tg44 : TG (.selects yX6_lacking.cls yX6_lacking yX6_lacking) := ⟨List.mem_of_getElem? (i := 44) (by decide +kernel), by decide +kernel⟩
theorem lk_X6_132 : LV RX6 132 yX6_lacking cX6_lacking 1 (some .int) 0 := ⟨tg903, tg905, tg44, tg68, tg906, ⟨by decide +kernel, by decide +kernel, by decide +kernel⟩⟩
theorem tg737 : TG (.fieldLink RX6 135 (TX6 19).1 (TX6 19).2.1 (TX6 19).2.2.1) := ⟨List.mem_of_getElem? (i := 737) (by decide +kernel), by decide +kernel⟩
theorem fl_X6_135 : FL RX6 135 7 19 RX6 TX6 30 := ⟨rfl, by decide, tg737, us_X6⟩
theorem tg920 : TG (.code yX6_wrongByte cX6_wrongByte 2 (some .int)) := ⟨List.mem_of_getElem? (i := 920) (by decide +kernel), by decide +kernel⟩
theorem tg917 : TG (.methodLink RX6 138 yX6_wrongByte) := ⟨List.mem_of_getElem? (i := 917) (by decide +kernel), by decide +kernel⟩
theorem tg919 : TG (.instanceMethod yX6_wrongByte) := ⟨List.mem_of_getElem? (i := 919) (by decide +kernel), by decide +kernel⟩
theorem tg47 : TG (.selects yX6_wrongByte.cls yX6_wrongByte yX6_wrongByte) := ⟨List.mem_of_getElem? (i := 47) (by decide +kernel), by decide +kernel⟩
theorem lk_X6_138 : LV RX6 138 yX6_wrongByte cX6_wrongByte 2 (some .int) 1 := ⟨tg917, tg919, tg47, tg68, tg920, ⟨by decide +kernel, by decide +kernel, by decide +kernel⟩⟩
theorem tg925 : TG (.constantLong RX6 141 (255)) := ⟨List.mem_of_getElem? (i := 925) (by decide +kernel), by decide +kernel⟩
theorem tg915 : TG (.constantLong RX6 143 (85)) := ⟨List.mem_of_getElem? (i := 915) (by decide +kernel), by decide +kernel⟩
theorem tg916 : TG (.constantLong RX6 145 (84)) := ⟨List.mem_of_getElem? (i := 916) (by decide +kernel), by decide +kernel⟩
theorem tg924 : TG (.code yX6_some cX6_some 5 none) := ⟨List.mem_of_getElem? (i := 924) (by decide +kernel), by decide +kernel⟩
theorem tg921 : TG (.methodLink RX6 147 yX6_some) := ⟨List.mem_of_getElem? (i := 921) (by decide +kernel), by decide +kernel⟩
theorem tg923 : TG (.instanceMethod yX6_some) := ⟨List.mem_of_getElem? (i := 923) (by decide +kernel), by decide +kernel⟩
theorem tg48 : TG (.selects yX6_some.cls yX6_some yX6_some) := ⟨List.mem_of_getElem? (i := 48) (by decide +kernel), by decide +kernel⟩
theorem lk_X6_147 : LV RX6 147 yX6_some cX6_some 5 none 2 := ⟨tg921, tg923, tg48, tg68, tg924, ⟨by decide +kernel, by decide +kernel, by decide +kernel⟩⟩
theorem tg926 : TG (.constantLong RX6 151 (33)) := ⟨List.mem_of_getElem? (i := 926) (by decide +kernel), by decide +kernel⟩
theorem tg914 : TG (.code yX6_eightyFives cX6_eightyFives 8 (some .int)) := ⟨List.mem_of_getElem? (i := 914) (by decide +kernel), by decide +kernel⟩
theorem tg911 : TG (.methodLink RX6 153 yX6_eightyFives) := ⟨List.mem_of_getElem? (i := 911) (by decide +kernel), by decide +kernel⟩
theorem tg913 : TG (.instanceMethod yX6_eightyFives) := ⟨List.mem_of_getElem? (i := 913) (by decide +kernel), by decide +kernel⟩
theorem tg46 : TG (.selects yX6_eightyFives.cls yX6_eightyFives yX6_eightyFives) := ⟨List.mem_of_getElem? (i := 46) (by decide +kernel), by decide +kernel⟩
theorem lk_X6_153 : LV RX6 153 yX6_eightyFives cX6_eightyFives 8 (some .int) 0 := ⟨tg911, tg913, tg46, tg68, tg914, ⟨by decide +kernel, by decide +kernel, by decide +kernel⟩⟩
theorem tg930 : TG (.code yX6_sixteens cX6_sixteens 4 (some .int)) := ⟨List.mem_of_getElem? (i := 930) (by decide +kernel), by decide +kernel⟩
theorem tg927 : TG (.methodLink RX6 156 yX6_sixteens) := ⟨List.mem_of_getElem? (i := 927) (by decide +kernel), by decide +kernel⟩
theorem tg929 : TG (.instanceMethod yX6_sixteens) := ⟨List.mem_of_getElem? (i := 929) (by decide +kernel), by decide +kernel⟩
theorem tg49 : TG (.selects yX6_sixteens.cls yX6_sixteens yX6_sixteens) := ⟨List.mem_of_getElem? (i := 49) (by decide +kernel), by decide +kernel⟩
theorem lk_X6_156 : LV RX6 156 yX6_sixteens cX6_sixteens 4 (some .int) 0 := ⟨tg927, tg929, tg49, tg68, tg930, ⟨by decide +kernel, by decide +kernel, by decide +kernel⟩⟩
theorem tg947 : TG (.constantLong RX6 159 (256)) := ⟨List.mem_of_getElem? (i := 947) (by decide +kernel), by decide +kernel⟩
theorem tg948 : TG (.constantLong RX6 161 (2)) := ⟨List.mem_of_getElem? (i := 948) (by decide +kernel), by decide +kernel⟩
theorem tg959 : TG (.constantDouble RX6 163 (4611686018427387904)) := ⟨List.mem_of_getElem? (i := 959) (by decide +kernel), by decide +kernel⟩
theorem tg946 : TG (.code yX6_signed cX6_signed 9 (some .long)) := ⟨List.mem_of_getElem? (i := 946) (by decide +kernel), by decide +kernel⟩
theorem tg943 : TG (.methodLink RX6 165 yX6_signed) := ⟨List.mem_of_getElem? (i := 943) (by decide +kernel), by decide +kernel⟩
theorem tg945 : TG (.instanceMethod yX6_signed) := ⟨List.mem_of_getElem? (i := 945) (by decide +kernel), by decide +kernel⟩
theorem tg53 : TG (.selects yX6_signed.cls yX6_signed yX6_signed) := ⟨List.mem_of_getElem? (i := 53) (by decide +kernel), by decide +kernel⟩
theorem lk_X6_165 : LV RX6 165 yX6_signed cX6_signed 9 (some .long) 3 := ⟨tg943, tg945, tg53, tg68, tg946, ⟨by decide +kernel, by decide +kernel, by decide +kernel⟩⟩
theorem tg964 : TG (.constantLong RX6 169 (8388607)) := ⟨List.mem_of_getElem? (i := 964) (by decide +kernel), by decide +kernel⟩
theorem tg747 : TG (.fieldLink RX6 171 (TX6 29).1 (TX6 29).2.1 (TX6 29).2.2.1) := ⟨List.mem_of_getElem? (i := 747) (by decide +kernel), by decide +kernel⟩
theorem fl_X6_171 : FL RX6 171 7 29 RX6 TX6 30 := ⟨rfl, by decide, tg747, us_X6⟩
theorem tg958 : TG (.code yX6_power cX6_power 4 (some .double)) := ⟨List.mem_of_getElem? (i := 958) (by decide +kernel), by decide +kernel⟩
theorem tg956 : TG (.methodLink RX6 174 yX6_power) := ⟨List.mem_of_getElem? (i := 956) (by decide +kernel), by decide +kernel⟩
theorem tg957 : TG (.static yX6_power) := ⟨List.mem_of_getElem? (i := 957) (by decide +kernel), by decide +kernel⟩
theorem lk_X6_174 : LSt RX6 174 yX6_power cX6_power 4 (some .double) 1 := ⟨tg956, tg957, tg68, tg958, ⟨by decide +kernel, by decide +kernel, by decide +kernel⟩⟩
theorem tg965 : TG (.constantLong RX6 178 (8388608)) := ⟨List.mem_of_getElem? (i := 965) (by decide +kernel), by decide +kernel⟩
theorem tg942 : TG (.code yX6_came cX6_came 2 (some .boolean)) := ⟨List.mem_of_getElem? (i := 942) (by decide +kernel), by decide +kernel⟩
theorem tg939 : TG (.methodLink RX6 180 yX6_came) := ⟨List.mem_of_getElem? (i := 939) (by decide +kernel), by decide +kernel⟩
theorem tg941 : TG (.instanceMethod yX6_came) := ⟨List.mem_of_getElem? (i := 941) (by decide +kernel), by decide +kernel⟩
theorem tg52 : TG (.selects yX6_came.cls yX6_came yX6_came) := ⟨List.mem_of_getElem? (i := 52) (by decide +kernel), by decide +kernel⟩
theorem lk_X6_180 : LV RX6 180 yX6_came cX6_came 2 (some .boolean) 1 := ⟨tg939, tg941, tg52, tg68, tg942, ⟨by decide +kernel, by decide +kernel, by decide +kernel⟩⟩
theorem tg744 : TG (.fieldLink RX6 183 (TX6 26).1 (TX6 26).2.1 (TX6 26).2.2.1) := ⟨List.mem_of_getElem? (i := 744) (by decide +kernel), by decide +kernel⟩
theorem fl_X6_183 : FL RX6 183 7 26 RX6 TX6 30 := ⟨rfl, by decide, tg744, us_X6⟩
theorem tg963 : TG (.code yX6_four cX6_four 11 (some .double)) := ⟨List.mem_of_getElem? (i := 963) (by decide +kernel), by decide +kernel⟩
theorem tg960 : TG (.methodLink RX6 186 yX6_four) := ⟨List.mem_of_getElem? (i := 960) (by decide +kernel), by decide +kernel⟩
theorem tg962 : TG (.instanceMethod yX6_four) := ⟨List.mem_of_getElem? (i := 962) (by decide +kernel), by decide +kernel⟩
theorem tg55 : TG (.selects yX6_four.cls yX6_four yX6_four) := ⟨List.mem_of_getElem? (i := 55) (by decide +kernel), by decide +kernel⟩
theorem lk_X6_186 : LV RX6 186 yX6_four cX6_four 11 (some .double) 2 := ⟨tg960, tg962, tg55, tg68, tg963, ⟨by decide +kernel, by decide +kernel, by decide +kernel⟩⟩
theorem tg743 : TG (.fieldLink RX6 190 (TX6 25).1 (TX6 25).2.1 (TX6 25).2.2.1) := ⟨List.mem_of_getElem? (i := 743) (by decide +kernel), by decide +kernel⟩
theorem fl_X6_190 : FL RX6 190 7 25 RX6 TX6 30 := ⟨rfl, by decide, tg743, us_X6⟩
theorem tg938 : TG (.code yX6_number cX6_number 3 (some .int)) := ⟨List.mem_of_getElem? (i := 938) (by decide +kernel), by decide +kernel⟩
theorem tg935 : TG (.methodLink RX6 193 yX6_number) := ⟨List.mem_of_getElem? (i := 935) (by decide +kernel), by decide +kernel⟩
theorem tg937 : TG (.instanceMethod yX6_number) := ⟨List.mem_of_getElem? (i := 937) (by decide +kernel), by decide +kernel⟩
theorem tg51 : TG (.selects yX6_number.cls yX6_number yX6_number) := ⟨List.mem_of_getElem? (i := 51) (by decide +kernel), by decide +kernel⟩
theorem lk_X6_193 : LV RX6 193 yX6_number cX6_number 3 (some .int) 2 := ⟨tg935, tg937, tg51, tg68, tg938, ⟨by decide +kernel, by decide +kernel, by decide +kernel⟩⟩
theorem tg951 : TG (.code yX6_asNumber cX6_asNumber 1 (some .int)) := ⟨List.mem_of_getElem? (i := 951) (by decide +kernel), by decide +kernel⟩
theorem tg949 : TG (.methodLink RX6 197 yX6_asNumber) := ⟨List.mem_of_getElem? (i := 949) (by decide +kernel), by decide +kernel⟩
theorem tg950 : TG (.static yX6_asNumber) := ⟨List.mem_of_getElem? (i := 950) (by decide +kernel), by decide +kernel⟩
theorem lk_X6_197 : LSt RX6 197 yX6_asNumber cX6_asNumber 1 (some .int) 1 := ⟨tg949, tg950, tg68, tg951, ⟨by decide +kernel, by decide +kernel, by decide +kernel⟩⟩
theorem tg955 : TG (.code yX6_fixed cX6_fixed 5 (some .int)) := ⟨List.mem_of_getElem? (i := 955) (by decide +kernel), by decide +kernel⟩
theorem tg952 : TG (.methodLink RX6 200 yX6_fixed) := ⟨List.mem_of_getElem? (i := 952) (by decide +kernel), by decide +kernel⟩
theorem tg954 : TG (.instanceMethod yX6_fixed) := ⟨List.mem_of_getElem? (i := 954) (by decide +kernel), by decide +kernel⟩
theorem tg54 : TG (.selects yX6_fixed.cls yX6_fixed yX6_fixed) := ⟨List.mem_of_getElem? (i := 54) (by decide +kernel), by decide +kernel⟩
theorem lk_X6_200 : LV RX6 200 yX6_fixed cX6_fixed 5 (some .int) 0 := ⟨tg952, tg954, tg54, tg68, tg955, ⟨by decide +kernel, by decide +kernel, by decide +kernel⟩⟩
theorem tg969 : TG (.code yX6_one cX6_one 3 (some .int)) := ⟨List.mem_of_getElem? (i := 969) (by decide +kernel), by decide +kernel⟩
theorem tg966 : TG (.methodLink RX6 203 yX6_one) := ⟨List.mem_of_getElem? (i := 966) (by decide +kernel), by decide +kernel⟩
theorem tg968 : TG (.instanceMethod yX6_one) := ⟨List.mem_of_getElem? (i := 968) (by decide +kernel), by decide +kernel⟩
theorem tg56 : TG (.selects yX6_one.cls yX6_one yX6_one) := ⟨List.mem_of_getElem? (i := 56) (by decide +kernel), by decide +kernel⟩
theorem lk_X6_203 : LV RX6 203 yX6_one cX6_one 3 (some .int) 2 := ⟨tg966, tg968, tg56, tg68, tg969, ⟨by decide +kernel, by decide +kernel, by decide +kernel⟩⟩
theorem tg973 : TG (.code yX6_string cX6_string 5 (some .int)) := ⟨List.mem_of_getElem? (i := 973) (by decide +kernel), by decide +kernel⟩
theorem tg970 : TG (.methodLink RX6 206 yX6_string) := ⟨List.mem_of_getElem? (i := 970) (by decide +kernel), by decide +kernel⟩
theorem tg972 : TG (.instanceMethod yX6_string) := ⟨List.mem_of_getElem? (i := 972) (by decide +kernel), by decide +kernel⟩
theorem tg57 : TG (.selects yX6_string.cls yX6_string yX6_string) := ⟨List.mem_of_getElem? (i := 57) (by decide +kernel), by decide +kernel⟩
theorem lk_X6_206 : LV RX6 206 yX6_string cX6_string 5 (some .int) 2 := ⟨tg970, tg972, tg57, tg68, tg973, ⟨by decide +kernel, by decide +kernel, by decide +kernel⟩⟩
theorem tg977 : TG (.code yX6_rows cX6_rows 8 (some .int)) := ⟨List.mem_of_getElem? (i := 977) (by decide +kernel), by decide +kernel⟩
theorem tg974 : TG (.methodLink RX6 209 yX6_rows) := ⟨List.mem_of_getElem? (i := 974) (by decide +kernel), by decide +kernel⟩
theorem tg976 : TG (.instanceMethod yX6_rows) := ⟨List.mem_of_getElem? (i := 976) (by decide +kernel), by decide +kernel⟩
theorem tg58 : TG (.selects yX6_rows.cls yX6_rows yX6_rows) := ⟨List.mem_of_getElem? (i := 58) (by decide +kernel), by decide +kernel⟩
theorem lk_X6_209 : LV RX6 209 yX6_rows cX6_rows 8 (some .int) 0 := ⟨tg974, tg976, tg58, tg68, tg977, ⟨by decide +kernel, by decide +kernel, by decide +kernel⟩⟩
theorem tg724 : TG (.fieldLink RX6 212 (TX6 6).1 (TX6 6).2.1 (TX6 6).2.2.1) := ⟨List.mem_of_getElem? (i := 724) (by decide +kernel), by decide +kernel⟩
theorem fl_X6_212 : FL RX6 212 7 6 RX6 TX6 30 := ⟨rfl, by decide, tg724, us_X6⟩
theorem tg849 : TG (.code yX6_anyWord cX6_anyWord 5 (some .int)) := ⟨List.mem_of_getElem? (i := 849) (by decide +kernel), by decide +kernel⟩
theorem tg846 : TG (.methodLink RX6 215 yX6_anyWord) := ⟨List.mem_of_getElem? (i := 846) (by decide +kernel), by decide +kernel⟩
theorem tg848 : TG (.instanceMethod yX6_anyWord) := ⟨List.mem_of_getElem? (i := 848) (by decide +kernel), by decide +kernel⟩
theorem tg33 : TG (.selects yX6_anyWord.cls yX6_anyWord yX6_anyWord) := ⟨List.mem_of_getElem? (i := 33) (by decide +kernel), by decide +kernel⟩
theorem lk_X6_215 : LV RX6 215 yX6_anyWord cX6_anyWord 5 (some .int) 0 := ⟨tg846, tg848, tg33, tg68, tg849, ⟨by decide +kernel, by decide +kernel, by decide +kernel⟩⟩
theorem tg886 : TG (.code yX6_slashed cX6_slashed 3 (some .int)) := ⟨List.mem_of_getElem? (i := 886) (by decide +kernel), by decide +kernel⟩
theorem tg883 : TG (.methodLink RX6 218 yX6_slashed) := ⟨List.mem_of_getElem? (i := 883) (by decide +kernel), by decide +kernel⟩
theorem tg885 : TG (.instanceMethod yX6_slashed) := ⟨List.mem_of_getElem? (i := 885) (by decide +kernel), by decide +kernel⟩
theorem tg39 : TG (.selects yX6_slashed.cls yX6_slashed yX6_slashed) := ⟨List.mem_of_getElem? (i := 39) (by decide +kernel), by decide +kernel⟩
theorem lk_X6_218 : LV RX6 218 yX6_slashed cX6_slashed 3 (some .int) 0 := ⟨tg883, tg885, tg39, tg68, tg886, ⟨by decide +kernel, by decide +kernel, by decide +kernel⟩⟩
theorem tg890 : TG (.code yX6_round cX6_round 3 (some .int)) := ⟨List.mem_of_getElem? (i := 890) (by decide +kernel), by decide +kernel⟩
theorem tg887 : TG (.methodLink RX6 221 yX6_round) := ⟨List.mem_of_getElem? (i := 887) (by decide +kernel), by decide +kernel⟩
theorem tg889 : TG (.instanceMethod yX6_round) := ⟨List.mem_of_getElem? (i := 889) (by decide +kernel), by decide +kernel⟩
theorem tg40 : TG (.selects yX6_round.cls yX6_round yX6_round) := ⟨List.mem_of_getElem? (i := 40) (by decide +kernel), by decide +kernel⟩
theorem lk_X6_221 : LV RX6 221 yX6_round cX6_round 3 (some .int) 0 := ⟨tg887, tg889, tg40, tg68, tg890, ⟨by decide +kernel, by decide +kernel, by decide +kernel⟩⟩
theorem tg910 : TG (.code yX6_angled cX6_angled 1 (some .int)) := ⟨List.mem_of_getElem? (i := 910) (by decide +kernel), by decide +kernel⟩
theorem tg907 : TG (.methodLink RX6 224 yX6_angled) := ⟨List.mem_of_getElem? (i := 907) (by decide +kernel), by decide +kernel⟩
theorem tg909 : TG (.instanceMethod yX6_angled) := ⟨List.mem_of_getElem? (i := 909) (by decide +kernel), by decide +kernel⟩
theorem tg45 : TG (.selects yX6_angled.cls yX6_angled yX6_angled) := ⟨List.mem_of_getElem? (i := 45) (by decide +kernel), by decide +kernel⟩
theorem lk_X6_224 : LV RX6 224 yX6_angled cX6_angled 1 (some .int) 0 := ⟨tg907, tg909, tg45, tg68, tg910, ⟨by decide +kernel, by decide +kernel, by decide +kernel⟩⟩
theorem tg934 : TG (.code yX6_binaryToken cX6_binaryToken 2 (some .int)) := ⟨List.mem_of_getElem? (i := 934) (by decide +kernel), by decide +kernel⟩
theorem tg931 : TG (.methodLink RX6 227 yX6_binaryToken) := ⟨List.mem_of_getElem? (i := 931) (by decide +kernel), by decide +kernel⟩
theorem tg933 : TG (.instanceMethod yX6_binaryToken) := ⟨List.mem_of_getElem? (i := 933) (by decide +kernel), by decide +kernel⟩
theorem tg50 : TG (.selects yX6_binaryToken.cls yX6_binaryToken yX6_binaryToken) := ⟨List.mem_of_getElem? (i := 50) (by decide +kernel), by decide +kernel⟩
theorem lk_X6_227 : LV RX6 227 yX6_binaryToken cX6_binaryToken 2 (some .int) 1 := ⟨tg931, tg933, tg50, tg68, tg934, ⟨by decide +kernel, by decide +kernel, by decide +kernel⟩⟩
theorem tg981 : TG (.code yX6_bracket cX6_bracket 2 (some .int)) := ⟨List.mem_of_getElem? (i := 981) (by decide +kernel), by decide +kernel⟩
theorem tg978 : TG (.methodLink RX6 230 yX6_bracket) := ⟨List.mem_of_getElem? (i := 978) (by decide +kernel), by decide +kernel⟩
theorem tg980 : TG (.instanceMethod yX6_bracket) := ⟨List.mem_of_getElem? (i := 980) (by decide +kernel), by decide +kernel⟩
theorem tg59 : TG (.selects yX6_bracket.cls yX6_bracket yX6_bracket) := ⟨List.mem_of_getElem? (i := 59) (by decide +kernel), by decide +kernel⟩
theorem lk_X6_230 : LV RX6 230 yX6_bracket cX6_bracket 2 (some .int) 1 := ⟨tg978, tg980, tg59, tg68, tg981, ⟨by decide +kernel, by decide +kernel, by decide +kernel⟩⟩
theorem tg726 : TG (.fieldLink RX6 233 (TX6 8).1 (TX6 8).2.1 (TX6 8).2.2.1) := ⟨List.mem_of_getElem? (i := 726) (by decide +kernel), by decide +kernel⟩
theorem fl_X6_233 : FL RX6 233 7 8 RX6 TX6 30 := ⟨rfl, by decide, tg726, us_X6⟩
theorem tg727 : TG (.fieldLink RX6 236 (TX6 9).1 (TX6 9).2.1 (TX6 9).2.2.1) := ⟨List.mem_of_getElem? (i := 727) (by decide +kernel), by decide +kernel⟩
theorem fl_X6_236 : FL RX6 236 7 9 RX6 TX6 30 := ⟨rfl, by decide, tg727, us_X6⟩
theorem tg728 : TG (.fieldLink RX6 239 (TX6 10).1 (TX6 10).2.1 (TX6 10).2.2.1) := ⟨List.mem_of_getElem? (i := 728) (by decide +kernel), by decide +kernel⟩
theorem fl_X6_239 : FL RX6 239 7 10 RX6 TX6 30 := ⟨rfl, by decide, tg728, us_X6⟩
theorem tg731 : TG (.fieldLink RX6 242 (TX6 13).1 (TX6 13).2.1 (TX6 13).2.2.1) := ⟨List.mem_of_getElem? (i := 731) (by decide +kernel), by decide +kernel⟩
theorem fl_X6_242 : FL RX6 242 7 13 RX6 TX6 30 := ⟨rfl, by decide, tg731, us_X6⟩
theorem tg733 : TG (.fieldLink RX6 245 (TX6 15).1 (TX6 15).2.1 (TX6 15).2.2.1) := ⟨List.mem_of_getElem? (i := 733) (by decide +kernel), by decide +kernel⟩
theorem fl_X6_245 : FL RX6 245 7 15 RX6 TX6 30 := ⟨rfl, by decide, tg733, us_X6⟩
theorem tg734 : TG (.fieldLink RX6 248 (TX6 16).1 (TX6 16).2.1 (TX6 16).2.2.1) := ⟨List.mem_of_getElem? (i := 734) (by decide +kernel), by decide +kernel⟩
theorem fl_X6_248 : FL RX6 248 7 16 RX6 TX6 30 := ⟨rfl, by decide, tg734, us_X6⟩
theorem tg828 : TG (.code yX6_passBlanks cX6_passBlanks 2 none) := ⟨List.mem_of_getElem? (i := 828) (by decide +kernel), by decide +kernel⟩
theorem tg825 : TG (.methodLink RX6 251 yX6_passBlanks) := ⟨List.mem_of_getElem? (i := 825) (by decide +kernel), by decide +kernel⟩
theorem tg827 : TG (.instanceMethod yX6_passBlanks) := ⟨List.mem_of_getElem? (i := 827) (by decide +kernel), by decide +kernel⟩
theorem tg30 : TG (.selects yX6_passBlanks.cls yX6_passBlanks yX6_passBlanks) := ⟨List.mem_of_getElem? (i := 30) (by decide +kernel), by decide +kernel⟩
theorem lk_X6_251 : LV RX6 251 yX6_passBlanks cX6_passBlanks 2 none 0 := ⟨tg825, tg827, tg30, tg68, tg828, ⟨by decide +kernel, by decide +kernel, by decide +kernel⟩⟩
theorem tg729 : TG (.fieldLink RX6 254 (TX6 11).1 (TX6 11).2.1 (TX6 11).2.2.1) := ⟨List.mem_of_getElem? (i := 729) (by decide +kernel), by decide +kernel⟩
theorem fl_X6_254 : FL RX6 254 7 11 RX6 TX6 30 := ⟨rfl, by decide, tg729, us_X6⟩
theorem tg839 : TG (.code yX6_read cX6_read 2 (some .int)) := ⟨List.mem_of_getElem? (i := 839) (by decide +kernel), by decide +kernel⟩
theorem tg836 : TG (.methodLink RX6 257 yX6_read) := ⟨List.mem_of_getElem? (i := 836) (by decide +kernel), by decide +kernel⟩
theorem tg838 : TG (.instanceMethod yX6_read) := ⟨List.mem_of_getElem? (i := 838) (by decide +kernel), by decide +kernel⟩
theorem tg32 : TG (.selects yX6_read.cls yX6_read yX6_read) := ⟨List.mem_of_getElem? (i := 32) (by decide +kernel), by decide +kernel⟩
theorem lk_X6_257 : LV RX6 257 yX6_read cX6_read 2 (some .int) 1 := ⟨tg836, tg838, tg32, tg68, tg839, ⟨by decide +kernel, by decide +kernel, by decide +kernel⟩⟩
theorem tg985 : TG (.code yX6_keep cX6_keep 3 none) := ⟨List.mem_of_getElem? (i := 985) (by decide +kernel), by decide +kernel⟩
theorem tg982 : TG (.methodLink RX6 260 yX6_keep) := ⟨List.mem_of_getElem? (i := 982) (by decide +kernel), by decide +kernel⟩
theorem tg984 : TG (.instanceMethod yX6_keep) := ⟨List.mem_of_getElem? (i := 984) (by decide +kernel), by decide +kernel⟩
theorem tg60 : TG (.selects yX6_keep.cls yX6_keep yX6_keep) := ⟨List.mem_of_getElem? (i := 60) (by decide +kernel), by decide +kernel⟩
theorem lk_X6_260 : LV RX6 260 yX6_keep cX6_keep 3 none 1 := ⟨tg982, tg984, tg60, tg68, tg985, ⟨by decide +kernel, by decide +kernel, by decide +kernel⟩⟩
