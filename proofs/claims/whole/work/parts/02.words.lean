set_option maxRecDepth 20000 in
theorem aw1 : (Cond.initialized "PageTree") ∈ AW := aw_t 1 rfl rfl
set_option maxRecDepth 20000 in
theorem aw2 : (Cond.initialized "PageTree$Items") ∈ AW := aw_t 2 rfl rfl
set_option maxRecDepth 20000 in
theorem aw3 : (Cond.initialized "java/util/Arrays") ∈ AW := aw_t 3 rfl rfl
set_option maxRecDepth 20000 in
theorem aw4 : (Cond.initialized "PageTree$Walk") ∈ AW := aw_t 4 rfl rfl
set_option maxRecDepth 20000 in
theorem aw5 : (Cond.initialized "PageTree$Order") ∈ AW := aw_t 5 rfl rfl
set_option maxRecDepth 20000 in
theorem aw6 : (Cond.initialized "PageTree$Mender") ∈ AW := aw_t 6 rfl rfl
set_option maxRecDepth 20000 in
theorem aw7 : (Cond.initialized "PageTree$Balancer") ∈ AW := aw_t 7 rfl rfl
set_option maxRecDepth 20000 in
theorem aw8 : (Cond.initialized "PageTree$Labels") ∈ AW := aw_t 8 rfl rfl
set_option maxRecDepth 20000 in
theorem aw9 : (Cond.initialized "PageTree$Names") ∈ AW := aw_t 9 rfl rfl
set_option maxRecDepth 20000 in
theorem aw10 : (Cond.initialized "PageTreeModel") ∈ AW := aw_t 10 rfl rfl
set_option maxRecDepth 20000 in
theorem aw11 : (Cond.initialized "java/lang/String") ∈ AW := aw_t 11 rfl rfl
set_option maxRecDepth 20000 in
theorem aw12 : (Cond.initialized "java/lang/StringLatin1") ∈ AW := aw_t 12 rfl rfl
set_option maxRecDepth 20000 in
theorem aw13 : (Cond.initialized "jdk/internal/util/Preconditions") ∈ AW := aw_t 13 rfl rfl
set_option maxRecDepth 20000 in
theorem aw15 : (Cond.initialized "java/lang/Math") ∈ AW := aw_t 15 rfl rfl
set_option maxRecDepth 20000 in
theorem aw16 : (Cond.classLink "PageTreeLaw" 7 "PageTree") ∈ AW := aw_t 16 rfl rfl
set_option maxRecDepth 20000 in
theorem aw17 : (Cond.instantiable "PageTree" 6) ∈ AW := aw_t 17 rfl rfl
set_option maxRecDepth 20000 in
theorem aw18 : (Cond.methodLink "PageTreeLaw" 9 y_PT_init) ∈ AW := aw_t 18 rfl rfl
set_option maxRecDepth 20000 in
theorem aw19 : (Cond.instanceMethod y_PT_init) ∈ AW := aw_t 19 rfl rfl
set_option maxRecDepth 20000 in
theorem aw20 : (Cond.code y_PT_init prog_1_method_1_code 1 none) ∈ AW := aw_t 20 rfl rfl
set_option maxRecDepth 20000 in
theorem aw21 : (Cond.methodLink "PageTree" 1 objectInit) ∈ AW := aw_t 21 rfl rfl
set_option maxRecDepth 20000 in
theorem aw22 : (Cond.instanceMethod objectInit) ∈ AW := aw_t 22 rfl rfl
set_option maxRecDepth 20000 in
theorem aw23 : (Cond.code objectInit object_method_1_code 1 none) ∈ AW := aw_t 23 rfl rfl
set_option maxRecDepth 20000 in
theorem aw24 : (Cond.classLink "PageTree" 7 "PageTree$Items") ∈ AW := aw_t 24 rfl rfl
set_option maxRecDepth 20000 in
theorem aw25 : (Cond.instantiable "PageTree$Items" 8) ∈ AW := aw_t 25 rfl rfl
set_option maxRecDepth 20000 in
theorem aw26 : (Cond.methodLink "PageTree" 9 y_Items_init) ∈ AW := aw_t 26 rfl rfl
set_option maxRecDepth 20000 in
theorem aw27 : (Cond.instanceMethod y_Items_init) ∈ AW := aw_t 27 rfl rfl
set_option maxRecDepth 20000 in
theorem aw28 : (Cond.code y_Items_init prog_3_method_1_code 1 none) ∈ AW := aw_t 28 rfl rfl
set_option maxRecDepth 20000 in
theorem aw29 : (Cond.methodLink "PageTree$Items" 3 objectInit) ∈ AW := aw_t 29 rfl rfl
set_option maxRecDepth 20000 in
theorem aw30 : (Cond.methodLink "PageTree$Items" 31 y_Arr_fill) ∈ AW := aw_t 30 rfl rfl
set_option maxRecDepth 20000 in
theorem aw31 : (Cond.static y_Arr_fill) ∈ AW := aw_t 31 rfl rfl
set_option maxRecDepth 20000 in
theorem aw32 : (Cond.code y_Arr_fill prog_15_method_103_code 4 none) ∈ AW := aw_t 32 rfl rfl
set_option maxRecDepth 20000 in
theorem aw33 : (Cond.fieldLink "PageTree$Items" 9 "PageTree$Items" "pageFlags" "[Z") ∈ AW := aw_t 33 rfl rfl
set_option maxRecDepth 20000 in
theorem aw34 : (Cond.fieldLink "PageTree$Items" 15 "PageTree$Items" "parents" "[I") ∈ AW := aw_t 34 rfl rfl
set_option maxRecDepth 20000 in
theorem aw35 : (Cond.fieldLink "PageTree$Items" 19 "PageTree$Items" "counts" "[I") ∈ AW := aw_t 35 rfl rfl
set_option maxRecDepth 20000 in
theorem aw36 : (Cond.fieldLink "PageTree$Items" 22 "PageTree$Items" "kidCounts" "[I") ∈ AW := aw_t 36 rfl rfl
set_option maxRecDepth 20000 in
theorem aw37 : (Cond.fieldLink "PageTree$Items" 25 "PageTree$Items" "kids" "[I") ∈ AW := aw_t 37 rfl rfl
set_option maxRecDepth 20000 in
theorem aw38 : (Cond.fieldLink "PageTree$Items" 28 "PageTree$Items" "ownValues" "[I") ∈ AW := aw_t 38 rfl rfl
set_option maxRecDepth 20000 in
theorem aw39 : (Cond.fieldLink "PageTree$Items" 37 "PageTree$Items" "size" "I") ∈ AW := aw_t 39 rfl rfl
set_option maxRecDepth 20000 in
theorem aw40 : (Cond.fieldLink "PageTree$Items" 41 "PageTree$Items" "version" "I") ∈ AW := aw_t 40 rfl rfl
set_option maxRecDepth 20000 in
theorem aw41 : (Cond.laysFinal "PageTree$Items" "PageTree$Items" "pageFlags" "[Z") ∈ AW := aw_t 41 rfl rfl
set_option maxRecDepth 20000 in
theorem aw43 : (Cond.laysFinal "PageTree$Items" "PageTree$Items" "parents" "[I") ∈ AW := aw_t 43 rfl rfl
set_option maxRecDepth 20000 in
theorem aw45 : (Cond.laysFinal "PageTree$Items" "PageTree$Items" "counts" "[I") ∈ AW := aw_t 45 rfl rfl
set_option maxRecDepth 20000 in
theorem aw47 : (Cond.laysFinal "PageTree$Items" "PageTree$Items" "kidCounts" "[I") ∈ AW := aw_t 47 rfl rfl
set_option maxRecDepth 20000 in
theorem aw49 : (Cond.laysFinal "PageTree$Items" "PageTree$Items" "kids" "[I") ∈ AW := aw_t 49 rfl rfl
set_option maxRecDepth 20000 in
theorem aw51 : (Cond.laysFinal "PageTree$Items" "PageTree$Items" "ownValues" "[I") ∈ AW := aw_t 51 rfl rfl
set_option maxRecDepth 20000 in
theorem aw53 : (Cond.lays "PageTree$Items" "PageTree$Items" "size" "I") ∈ AW := aw_t 53 rfl rfl
set_option maxRecDepth 20000 in
theorem aw55 : (Cond.lays "PageTree$Items" "PageTree$Items" "version" "I") ∈ AW := aw_t 55 rfl rfl
set_option maxRecDepth 20000 in
theorem aw58 : (Cond.arrayClass .boolean) ∈ AW := aw_t 58 rfl rfl
set_option maxRecDepth 20000 in
theorem aw59 : (Cond.arrayClass .int) ∈ AW := aw_t 59 rfl rfl
set_option maxRecDepth 20000 in
theorem aw60 : (Cond.classLink "PageTree" 16 "PageTree$Order") ∈ AW := aw_t 60 rfl rfl
set_option maxRecDepth 20000 in
theorem aw61 : (Cond.instantiable "PageTree$Order" 11) ∈ AW := aw_t 61 rfl rfl
set_option maxRecDepth 20000 in
theorem aw62 : (Cond.methodLink "PageTree" 18 y_Order_init) ∈ AW := aw_t 62 rfl rfl
set_option maxRecDepth 20000 in
theorem aw63 : (Cond.instanceMethod y_Order_init) ∈ AW := aw_t 63 rfl rfl
set_option maxRecDepth 20000 in
theorem aw64 : (Cond.code y_Order_init prog_7_method_1_code 2 none) ∈ AW := aw_t 64 rfl rfl
set_option maxRecDepth 20000 in
theorem aw65 : (Cond.methodLink "PageTree$Order" 3 y_Walk_init) ∈ AW := aw_t 65 rfl rfl
set_option maxRecDepth 20000 in
theorem aw66 : (Cond.instanceMethod y_Walk_init) ∈ AW := aw_t 66 rfl rfl
set_option maxRecDepth 20000 in
theorem aw67 : (Cond.code y_Walk_init prog_8_method_1_code 2 none) ∈ AW := aw_t 67 rfl rfl
set_option maxRecDepth 20000 in
theorem aw68 : (Cond.methodLink "PageTree$Walk" 3 objectInit) ∈ AW := aw_t 68 rfl rfl
set_option maxRecDepth 20000 in
theorem aw69 : (Cond.fieldLink "PageTree$Order" 9 "PageTree$Order" "taken" "[I") ∈ AW := aw_t 69 rfl rfl
set_option maxRecDepth 20000 in
theorem aw70 : (Cond.fieldLink "PageTree$Order" 15 "PageTree$Order" "places" "[I") ∈ AW := aw_t 70 rfl rfl
set_option maxRecDepth 20000 in
theorem aw71 : (Cond.fieldLink "PageTree$Order" 18 "PageTree$Order" "listers" "[I") ∈ AW := aw_t 71 rfl rfl
set_option maxRecDepth 20000 in
theorem aw72 : (Cond.fieldLink "PageTree$Order" 21 "PageTree$Order" "slots" "[I") ∈ AW := aw_t 72 rfl rfl
set_option maxRecDepth 20000 in
theorem aw73 : (Cond.fieldLink "PageTree$Order" 38 "PageTree$Order" "size" "I") ∈ AW := aw_t 73 rfl rfl
set_option maxRecDepth 20000 in
theorem aw74 : (Cond.fieldLink "PageTree$Order" 24 "PageTree$Order" "versionSeen" "I") ∈ AW := aw_t 74 rfl rfl
set_option maxRecDepth 20000 in
theorem aw75 : (Cond.fieldLink "PageTree$Walk" 22 "PageTree$Walk" "items" "LPageTree$Items;") ∈ AW := aw_t 75 rfl rfl
set_option maxRecDepth 20000 in
theorem aw76 : (Cond.fieldLink "PageTree$Order" 28 "PageTree$Order" "items" "LPageTree$Items;") ∈ AW := aw_t 76 rfl rfl
set_option maxRecDepth 20000 in
theorem aw77 : (Cond.sameField "PageTree$Order" "PageTree$Walk" "items" "LPageTree$Items;") ∈ AW := aw_t 77 rfl rfl
set_option maxRecDepth 20000 in
theorem aw78 : (Cond.fieldLink "PageTree$Mender" 32 "PageTree$Mender" "items" "LPageTree$Items;") ∈ AW := aw_t 78 rfl rfl
set_option maxRecDepth 20000 in
theorem aw79 : (Cond.sameField "PageTree$Mender" "PageTree$Walk" "items" "LPageTree$Items;") ∈ AW := aw_t 79 rfl rfl
set_option maxRecDepth 20000 in
theorem aw80 : (Cond.fieldLink "PageTree$Walk" 9 "PageTree$Walk" "met" "[Z") ∈ AW := aw_t 80 rfl rfl
set_option maxRecDepth 20000 in
theorem aw81 : (Cond.fieldLink "PageTree$Walk" 15 "PageTree$Walk" "way" "[I") ∈ AW := aw_t 81 rfl rfl
set_option maxRecDepth 20000 in
theorem aw82 : (Cond.fieldLink "PageTree$Walk" 19 "PageTree$Walk" "nextSlots" "[I") ∈ AW := aw_t 82 rfl rfl
set_option maxRecDepth 20000 in
theorem aw83 : (Cond.fieldLink "PageTree$Walk" 26 "PageTree$Walk" "depth" "I") ∈ AW := aw_t 83 rfl rfl
set_option maxRecDepth 20000 in
theorem aw84 : (Cond.laysFinal "PageTree$Order" "PageTree$Order" "taken" "[I") ∈ AW := aw_t 84 rfl rfl
set_option maxRecDepth 20000 in
theorem aw86 : (Cond.laysFinal "PageTree$Order" "PageTree$Order" "places" "[I") ∈ AW := aw_t 86 rfl rfl
set_option maxRecDepth 20000 in
theorem aw88 : (Cond.laysFinal "PageTree$Order" "PageTree$Order" "listers" "[I") ∈ AW := aw_t 88 rfl rfl
set_option maxRecDepth 20000 in
theorem aw90 : (Cond.laysFinal "PageTree$Order" "PageTree$Order" "slots" "[I") ∈ AW := aw_t 90 rfl rfl
set_option maxRecDepth 20000 in
theorem aw92 : (Cond.lays "PageTree$Order" "PageTree$Order" "size" "I") ∈ AW := aw_t 92 rfl rfl
set_option maxRecDepth 20000 in
theorem aw94 : (Cond.lays "PageTree$Order" "PageTree$Order" "versionSeen" "I") ∈ AW := aw_t 94 rfl rfl
set_option maxRecDepth 20000 in
theorem aw96 : (Cond.laysFinal "PageTree$Order" "PageTree$Walk" "items" "LPageTree$Items;") ∈ AW := aw_t 96 rfl rfl
set_option maxRecDepth 20000 in
theorem aw98 : (Cond.laysFinal "PageTree$Order" "PageTree$Walk" "met" "[Z") ∈ AW := aw_t 98 rfl rfl
set_option maxRecDepth 20000 in
theorem aw100 : (Cond.laysFinal "PageTree$Order" "PageTree$Walk" "way" "[I") ∈ AW := aw_t 100 rfl rfl
set_option maxRecDepth 20000 in
theorem aw102 : (Cond.laysFinal "PageTree$Order" "PageTree$Walk" "nextSlots" "[I") ∈ AW := aw_t 102 rfl rfl
set_option maxRecDepth 20000 in
theorem aw104 : (Cond.lays "PageTree$Order" "PageTree$Walk" "depth" "I") ∈ AW := aw_t 104 rfl rfl
set_option maxRecDepth 20000 in
theorem aw107 : (Cond.classLink "PageTree" 25 "PageTree$Mender") ∈ AW := aw_t 107 rfl rfl
set_option maxRecDepth 20000 in
theorem aw108 : (Cond.instantiable "PageTree$Mender" 10) ∈ AW := aw_t 108 rfl rfl
set_option maxRecDepth 20000 in
theorem aw109 : (Cond.methodLink "PageTree" 27 y_Mender_init) ∈ AW := aw_t 109 rfl rfl
set_option maxRecDepth 20000 in
theorem aw110 : (Cond.instanceMethod y_Mender_init) ∈ AW := aw_t 110 rfl rfl
set_option maxRecDepth 20000 in
theorem aw111 : (Cond.code y_Mender_init prog_5_method_1_code 2 none) ∈ AW := aw_t 111 rfl rfl
set_option maxRecDepth 20000 in
theorem aw112 : (Cond.methodLink "PageTree$Mender" 3 y_Walk_init) ∈ AW := aw_t 112 rfl rfl
set_option maxRecDepth 20000 in
theorem aw113 : (Cond.fieldLink "PageTree$Mender" 11 "PageTree$Mender" "kinds" "[I") ∈ AW := aw_t 113 rfl rfl
set_option maxRecDepth 20000 in
theorem aw114 : (Cond.fieldLink "PageTree$Mender" 15 "PageTree$Mender" "things" "[I") ∈ AW := aw_t 114 rfl rfl
set_option maxRecDepth 20000 in
theorem aw115 : (Cond.fieldLink "PageTree$Mender" 18 "PageTree$Mender" "pagesBefore" "[I") ∈ AW := aw_t 115 rfl rfl
set_option maxRecDepth 20000 in
theorem aw116 : (Cond.fieldLink "PageTree$Mender" 21 "PageTree$Mender" "toldCount" "I") ∈ AW := aw_t 116 rfl rfl
set_option maxRecDepth 20000 in
theorem aw117 : (Cond.fieldLink "PageTree$Mender" 25 "PageTree$Mender" "pagesSoFar" "I") ∈ AW := aw_t 117 rfl rfl
set_option maxRecDepth 20000 in
theorem aw118 : (Cond.laysFinal "PageTree$Mender" "PageTree$Mender" "kinds" "[I") ∈ AW := aw_t 118 rfl rfl
set_option maxRecDepth 20000 in
theorem aw120 : (Cond.laysFinal "PageTree$Mender" "PageTree$Mender" "things" "[I") ∈ AW := aw_t 120 rfl rfl
set_option maxRecDepth 20000 in
theorem aw122 : (Cond.laysFinal "PageTree$Mender" "PageTree$Mender" "pagesBefore" "[I") ∈ AW := aw_t 122 rfl rfl
set_option maxRecDepth 20000 in
theorem aw124 : (Cond.lays "PageTree$Mender" "PageTree$Mender" "toldCount" "I") ∈ AW := aw_t 124 rfl rfl
set_option maxRecDepth 20000 in
theorem aw126 : (Cond.lays "PageTree$Mender" "PageTree$Mender" "pagesSoFar" "I") ∈ AW := aw_t 126 rfl rfl
set_option maxRecDepth 20000 in
theorem aw128 : (Cond.laysFinal "PageTree$Mender" "PageTree$Walk" "items" "LPageTree$Items;") ∈ AW := aw_t 128 rfl rfl
set_option maxRecDepth 20000 in
theorem aw129 : (Cond.laysFinal "PageTree$Mender" "PageTree$Walk" "met" "[Z") ∈ AW := aw_t 129 rfl rfl
set_option maxRecDepth 20000 in
theorem aw130 : (Cond.laysFinal "PageTree$Mender" "PageTree$Walk" "way" "[I") ∈ AW := aw_t 130 rfl rfl
set_option maxRecDepth 20000 in
theorem aw131 : (Cond.laysFinal "PageTree$Mender" "PageTree$Walk" "nextSlots" "[I") ∈ AW := aw_t 131 rfl rfl
set_option maxRecDepth 20000 in
theorem aw132 : (Cond.lays "PageTree$Mender" "PageTree$Walk" "depth" "I") ∈ AW := aw_t 132 rfl rfl
set_option maxRecDepth 20000 in
theorem aw134 : (Cond.classLink "PageTree" 32 "PageTree$Balancer") ∈ AW := aw_t 134 rfl rfl
set_option maxRecDepth 20000 in
theorem aw135 : (Cond.instantiable "PageTree$Balancer" 3) ∈ AW := aw_t 135 rfl rfl
set_option maxRecDepth 20000 in
theorem aw136 : (Cond.methodLink "PageTree" 34 y_Bal_init) ∈ AW := aw_t 136 rfl rfl
set_option maxRecDepth 20000 in
theorem aw137 : (Cond.instanceMethod y_Bal_init) ∈ AW := aw_t 137 rfl rfl
set_option maxRecDepth 20000 in
theorem aw138 : (Cond.code y_Bal_init prog_2_method_1_code 2 none) ∈ AW := aw_t 138 rfl rfl
set_option maxRecDepth 20000 in
theorem aw139 : (Cond.methodLink "PageTree$Balancer" 3 objectInit) ∈ AW := aw_t 139 rfl rfl
set_option maxRecDepth 20000 in
theorem aw140 : (Cond.fieldLink "PageTree$Balancer" 15 "PageTree$Balancer" "items" "LPageTree$Items;") ∈ AW := aw_t 140 rfl rfl
set_option maxRecDepth 20000 in
theorem aw141 : (Cond.fieldLink "PageTree$Balancer" 9 "PageTree$Balancer" "row" "[I") ∈ AW := aw_t 141 rfl rfl
set_option maxRecDepth 20000 in
theorem aw142 : (Cond.fieldLink "PageTree$Balancer" 25 "PageTree$Balancer" "length" "I") ∈ AW := aw_t 142 rfl rfl
set_option maxRecDepth 20000 in
theorem aw143 : (Cond.laysFinal "PageTree$Balancer" "PageTree$Balancer" "items" "LPageTree$Items;") ∈ AW := aw_t 143 rfl rfl
set_option maxRecDepth 20000 in
theorem aw145 : (Cond.laysFinal "PageTree$Balancer" "PageTree$Balancer" "row" "[I") ∈ AW := aw_t 145 rfl rfl
set_option maxRecDepth 20000 in
theorem aw147 : (Cond.lays "PageTree$Balancer" "PageTree$Balancer" "length" "I") ∈ AW := aw_t 147 rfl rfl
set_option maxRecDepth 20000 in
theorem aw150 : (Cond.classLink "PageTree" 39 "PageTree$Labels") ∈ AW := aw_t 150 rfl rfl
set_option maxRecDepth 20000 in
theorem aw151 : (Cond.instantiable "PageTree$Labels" 6) ∈ AW := aw_t 151 rfl rfl
set_option maxRecDepth 20000 in
theorem aw153 : (Cond.instanceMethod y_Labels_init) ∈ AW := aw_t 153 rfl rfl
set_option maxRecDepth 20000 in
theorem aw154 : (Cond.code y_Labels_init prog_4_method_1_code 1 none) ∈ AW := aw_t 154 rfl rfl
set_option maxRecDepth 20000 in
theorem aw155 : (Cond.methodLink "PageTree$Labels" 3 objectInit) ∈ AW := aw_t 155 rfl rfl
set_option maxRecDepth 20000 in
theorem aw156 : (Cond.fieldLink "PageTree$Labels" 11 "PageTree$Labels" "begins" "[I") ∈ AW := aw_t 156 rfl rfl
set_option maxRecDepth 20000 in
theorem aw157 : (Cond.fieldLink "PageTree$Labels" 15 "PageTree$Labels" "styles" "[I") ∈ AW := aw_t 157 rfl rfl
set_option maxRecDepth 20000 in
theorem aw158 : (Cond.fieldLink "PageTree$Labels" 18 "PageTree$Labels" "firsts" "[I") ∈ AW := aw_t 158 rfl rfl
set_option maxRecDepth 20000 in
theorem aw159 : (Cond.fieldLink "PageTree$Labels" 21 "PageTree$Labels" "signs" "[C") ∈ AW := aw_t 159 rfl rfl
set_option maxRecDepth 20000 in
theorem aw160 : (Cond.fieldLink "PageTree$Labels" 25 "PageTree$Labels" "size" "I") ∈ AW := aw_t 160 rfl rfl
set_option maxRecDepth 20000 in
theorem aw161 : (Cond.fieldLink "PageTree$Labels" 36 "PageTree$Labels" "signCount" "I") ∈ AW := aw_t 161 rfl rfl
set_option maxRecDepth 20000 in
theorem aw162 : (Cond.laysFinal "PageTree$Labels" "PageTree$Labels" "begins" "[I") ∈ AW := aw_t 162 rfl rfl
set_option maxRecDepth 20000 in
theorem aw164 : (Cond.laysFinal "PageTree$Labels" "PageTree$Labels" "styles" "[I") ∈ AW := aw_t 164 rfl rfl
set_option maxRecDepth 20000 in
theorem aw166 : (Cond.laysFinal "PageTree$Labels" "PageTree$Labels" "firsts" "[I") ∈ AW := aw_t 166 rfl rfl
set_option maxRecDepth 20000 in
theorem aw168 : (Cond.laysFinal "PageTree$Labels" "PageTree$Labels" "signs" "[C") ∈ AW := aw_t 168 rfl rfl
set_option maxRecDepth 20000 in
theorem aw170 : (Cond.lays "PageTree$Labels" "PageTree$Labels" "size" "I") ∈ AW := aw_t 170 rfl rfl
set_option maxRecDepth 20000 in
theorem aw172 : (Cond.lays "PageTree$Labels" "PageTree$Labels" "signCount" "I") ∈ AW := aw_t 172 rfl rfl
set_option maxRecDepth 20000 in
theorem aw175 : (Cond.arrayClass .char) ∈ AW := aw_t 175 rfl rfl
set_option maxRecDepth 20000 in
theorem aw176 : (Cond.classLink "PageTree" 46 "PageTree$Names") ∈ AW := aw_t 176 rfl rfl
set_option maxRecDepth 20000 in
theorem aw177 : (Cond.instantiable "PageTree$Names" 3) ∈ AW := aw_t 177 rfl rfl
set_option maxRecDepth 20000 in
theorem aw179 : (Cond.instanceMethod y_Names_init) ∈ AW := aw_t 179 rfl rfl
set_option maxRecDepth 20000 in
theorem aw180 : (Cond.code y_Names_init prog_6_method_1_code 1 none) ∈ AW := aw_t 180 rfl rfl
set_option maxRecDepth 20000 in
theorem aw181 : (Cond.methodLink "PageTree$Names" 3 objectInit) ∈ AW := aw_t 181 rfl rfl
set_option maxRecDepth 20000 in
theorem aw182 : (Cond.fieldLink "PageTree$Names" 11 "PageTree$Names" "keys" "[I") ∈ AW := aw_t 182 rfl rfl
set_option maxRecDepth 20000 in
theorem aw183 : (Cond.fieldLink "PageTree$Names" 15 "PageTree$Names" "targets" "[I") ∈ AW := aw_t 183 rfl rfl
set_option maxRecDepth 20000 in
theorem aw184 : (Cond.fieldLink "PageTree$Names" 18 "PageTree$Names" "size" "I") ∈ AW := aw_t 184 rfl rfl
set_option maxRecDepth 20000 in
theorem aw185 : (Cond.laysFinal "PageTree$Names" "PageTree$Names" "keys" "[I") ∈ AW := aw_t 185 rfl rfl
set_option maxRecDepth 20000 in
theorem aw187 : (Cond.laysFinal "PageTree$Names" "PageTree$Names" "targets" "[I") ∈ AW := aw_t 187 rfl rfl
set_option maxRecDepth 20000 in
theorem aw189 : (Cond.lays "PageTree$Names" "PageTree$Names" "size" "I") ∈ AW := aw_t 189 rfl rfl
set_option maxRecDepth 20000 in
theorem aw192 : (Cond.fieldLink "PageTree" 10 "PageTree" "items" "LPageTree$Items;") ∈ AW := aw_t 192 rfl rfl
set_option maxRecDepth 20000 in
theorem aw193 : (Cond.fieldLink "PageTree" 21 "PageTree" "order" "LPageTree$Order;") ∈ AW := aw_t 193 rfl rfl
set_option maxRecDepth 20000 in
theorem aw194 : (Cond.fieldLink "PageTree" 28 "PageTree" "mender" "LPageTree$Mender;") ∈ AW := aw_t 194 rfl rfl
set_option maxRecDepth 20000 in
theorem aw195 : (Cond.fieldLink "PageTree" 35 "PageTree" "balancer" "LPageTree$Balancer;") ∈ AW := aw_t 195 rfl rfl
set_option maxRecDepth 20000 in
theorem aw196 : (Cond.fieldLink "PageTree" 42 "PageTree" "labels" "LPageTree$Labels;") ∈ AW := aw_t 196 rfl rfl
set_option maxRecDepth 20000 in
theorem aw197 : (Cond.fieldLink "PageTree" 49 "PageTree" "names" "LPageTree$Names;") ∈ AW := aw_t 197 rfl rfl
set_option maxRecDepth 20000 in
theorem aw198 : (Cond.laysFinal "PageTree" "PageTree" "items" "LPageTree$Items;") ∈ AW := aw_t 198 rfl rfl
set_option maxRecDepth 20000 in
theorem aw200 : (Cond.laysFinal "PageTree" "PageTree" "order" "LPageTree$Order;") ∈ AW := aw_t 200 rfl rfl
set_option maxRecDepth 20000 in
theorem aw202 : (Cond.laysFinal "PageTree" "PageTree" "mender" "LPageTree$Mender;") ∈ AW := aw_t 202 rfl rfl
set_option maxRecDepth 20000 in
theorem aw204 : (Cond.laysFinal "PageTree" "PageTree" "balancer" "LPageTree$Balancer;") ∈ AW := aw_t 204 rfl rfl
set_option maxRecDepth 20000 in
theorem aw206 : (Cond.laysFinal "PageTree" "PageTree" "labels" "LPageTree$Labels;") ∈ AW := aw_t 206 rfl rfl
set_option maxRecDepth 20000 in
theorem aw208 : (Cond.laysFinal "PageTree" "PageTree" "names" "LPageTree$Names;") ∈ AW := aw_t 208 rfl rfl
set_option maxRecDepth 20000 in
theorem aw211 : (Cond.methodLink "PageTreeLaw" 13 y_PT_node) ∈ AW := aw_t 211 rfl rfl
set_option maxRecDepth 20000 in
theorem aw212 : (Cond.instanceMethod y_PT_node) ∈ AW := aw_t 212 rfl rfl
set_option maxRecDepth 20000 in
theorem aw213 : (Cond.selects "PageTree" y_PT_node y_PT_node) ∈ AW := aw_t 213 rfl rfl
set_option maxRecDepth 20000 in
theorem aw214 : (Cond.code y_PT_node prog_1_method_2_code 3 (some .int)) ∈ AW := aw_t 214 rfl rfl
set_option maxRecDepth 20000 in
theorem aw215 : (Cond.methodLink "PageTree" 53 y_Items_size) ∈ AW := aw_t 215 rfl rfl
set_option maxRecDepth 20000 in
theorem aw216 : (Cond.instanceMethod y_Items_size) ∈ AW := aw_t 216 rfl rfl
set_option maxRecDepth 20000 in
theorem aw217 : (Cond.selects "PageTree$Items" y_Items_size y_Items_size) ∈ AW := aw_t 217 rfl rfl
set_option maxRecDepth 20000 in
theorem aw218 : (Cond.code y_Items_size prog_3_method_2_code 1 (some .int)) ∈ AW := aw_t 218 rfl rfl
set_option maxRecDepth 20000 in
theorem aw219 : (Cond.methodLink "PageTree" 57 y_Items_add) ∈ AW := aw_t 219 rfl rfl
set_option maxRecDepth 20000 in
theorem aw220 : (Cond.instanceMethod y_Items_add) ∈ AW := aw_t 220 rfl rfl
set_option maxRecDepth 20000 in
theorem aw221 : (Cond.selects "PageTree$Items" y_Items_add y_Items_add) ∈ AW := aw_t 221 rfl rfl
set_option maxRecDepth 20000 in
theorem aw222 : (Cond.code y_Items_add prog_3_method_8_code 5 (some .int)) ∈ AW := aw_t 222 rfl rfl
set_option maxRecDepth 20000 in
theorem aw223 : (Cond.methodLink "PageTree" 61 y_PT_addLast) ∈ AW := aw_t 223 rfl rfl
set_option maxRecDepth 20000 in
theorem aw225 : (Cond.instanceMethod y_PT_addLast) ∈ AW := aw_t 225 rfl rfl
set_option maxRecDepth 20000 in
theorem aw226 : (Cond.code y_PT_addLast prog_1_method_4_code 5 (some .int)) ∈ AW := aw_t 226 rfl rfl
set_option maxRecDepth 20000 in
theorem aw227 : (Cond.methodLink "PageTree" 65 y_Items_isNode) ∈ AW := aw_t 227 rfl rfl
set_option maxRecDepth 20000 in
theorem aw228 : (Cond.instanceMethod y_Items_isNode) ∈ AW := aw_t 228 rfl rfl
set_option maxRecDepth 20000 in
theorem aw229 : (Cond.selects "PageTree$Items" y_Items_isNode y_Items_isNode) ∈ AW := aw_t 229 rfl rfl
set_option maxRecDepth 20000 in
theorem aw230 : (Cond.code y_Items_isNode prog_3_method_7_code 2 (some .boolean)) ∈ AW := aw_t 230 rfl rfl
set_option maxRecDepth 20000 in
theorem aw231 : (Cond.methodLink "PageTree" 69 y_Items_isFull) ∈ AW := aw_t 231 rfl rfl
set_option maxRecDepth 20000 in
theorem aw232 : (Cond.instanceMethod y_Items_isFull) ∈ AW := aw_t 232 rfl rfl
set_option maxRecDepth 20000 in
theorem aw233 : (Cond.selects "PageTree$Items" y_Items_isFull y_Items_isFull) ∈ AW := aw_t 233 rfl rfl
set_option maxRecDepth 20000 in
theorem aw234 : (Cond.code y_Items_isFull prog_3_method_4_code 1 (some .boolean)) ∈ AW := aw_t 234 rfl rfl
set_option maxRecDepth 20000 in
theorem aw235 : (Cond.methodLink "PageTree" 73 y_Items_hasNoSlotLeft) ∈ AW := aw_t 235 rfl rfl
set_option maxRecDepth 20000 in
theorem aw236 : (Cond.instanceMethod y_Items_hasNoSlotLeft) ∈ AW := aw_t 236 rfl rfl
set_option maxRecDepth 20000 in
theorem aw237 : (Cond.selects "PageTree$Items" y_Items_hasNoSlotLeft y_Items_hasNoSlotLeft) ∈ AW := aw_t 237 rfl rfl
set_option maxRecDepth 20000 in
theorem aw238 : (Cond.code y_Items_hasNoSlotLeft prog_3_method_14_code 2 (some .boolean)) ∈ AW := aw_t 238 rfl rfl
set_option maxRecDepth 20000 in
theorem aw239 : (Cond.methodLink "PageTree$Items" 48 y_Items_kidCountOf) ∈ AW := aw_t 239 rfl rfl
set_option maxRecDepth 20000 in
theorem aw240 : (Cond.instanceMethod y_Items_kidCountOf) ∈ AW := aw_t 240 rfl rfl
set_option maxRecDepth 20000 in
theorem aw241 : (Cond.selects "PageTree$Items" y_Items_kidCountOf y_Items_kidCountOf) ∈ AW := aw_t 241 rfl rfl
set_option maxRecDepth 20000 in
theorem aw242 : (Cond.code y_Items_kidCountOf prog_3_method_13_code 2 (some .int)) ∈ AW := aw_t 242 rfl rfl
set_option maxRecDepth 20000 in
theorem aw243 : (Cond.methodLink "PageTree$Items" 44 y_Items_isKnown) ∈ AW := aw_t 243 rfl rfl
set_option maxRecDepth 20000 in
theorem aw244 : (Cond.instanceMethod y_Items_isKnown) ∈ AW := aw_t 244 rfl rfl
set_option maxRecDepth 20000 in
theorem aw245 : (Cond.selects "PageTree$Items" y_Items_isKnown y_Items_isKnown) ∈ AW := aw_t 245 rfl rfl
set_option maxRecDepth 20000 in
theorem aw246 : (Cond.code y_Items_isKnown prog_3_method_5_code 2 (some .boolean)) ∈ AW := aw_t 246 rfl rfl
set_option maxRecDepth 20000 in
theorem aw247 : (Cond.methodLink "PageTree" 76 y_Items_appendKid) ∈ AW := aw_t 247 rfl rfl
set_option maxRecDepth 20000 in
theorem aw248 : (Cond.instanceMethod y_Items_appendKid) ∈ AW := aw_t 248 rfl rfl
set_option maxRecDepth 20000 in
theorem aw249 : (Cond.selects "PageTree$Items" y_Items_appendKid y_Items_appendKid) ∈ AW := aw_t 249 rfl rfl
set_option maxRecDepth 20000 in
theorem aw250 : (Cond.code y_Items_appendKid prog_3_method_18_code 3 none) ∈ AW := aw_t 250 rfl rfl
set_option maxRecDepth 20000 in
theorem aw251 : (Cond.methodLink "PageTree$Items" 56 y_Items_insertKid) ∈ AW := aw_t 251 rfl rfl
set_option maxRecDepth 20000 in
theorem aw252 : (Cond.instanceMethod y_Items_insertKid) ∈ AW := aw_t 252 rfl rfl
set_option maxRecDepth 20000 in
theorem aw253 : (Cond.selects "PageTree$Items" y_Items_insertKid y_Items_insertKid) ∈ AW := aw_t 253 rfl rfl
set_option maxRecDepth 20000 in
theorem aw254 : (Cond.code y_Items_insertKid prog_3_method_19_code 6 none) ∈ AW := aw_t 254 rfl rfl
set_option maxRecDepth 20000 in
theorem aw255 : (Cond.methodLink "PageTree$Items" 60 y_Items_isNode) ∈ AW := aw_t 255 rfl rfl
set_option maxRecDepth 20000 in
theorem aw256 : (Cond.methodLink "PageTreeLaw" 18 y_PT_page) ∈ AW := aw_t 256 rfl rfl
set_option maxRecDepth 20000 in
theorem aw257 : (Cond.instanceMethod y_PT_page) ∈ AW := aw_t 257 rfl rfl
set_option maxRecDepth 20000 in
theorem aw258 : (Cond.selects "PageTree" y_PT_page y_PT_page) ∈ AW := aw_t 258 rfl rfl
set_option maxRecDepth 20000 in
theorem aw259 : (Cond.code y_PT_page prog_1_method_3_code 2 (some .int)) ∈ AW := aw_t 259 rfl rfl
set_option maxRecDepth 20000 in
theorem aw260 : (Cond.methodLink "PageTreeLaw" 23 y_PT_list) ∈ AW := aw_t 260 rfl rfl
set_option maxRecDepth 20000 in
theorem aw261 : (Cond.instanceMethod y_PT_list) ∈ AW := aw_t 261 rfl rfl
set_option maxRecDepth 20000 in
theorem aw262 : (Cond.selects "PageTree" y_PT_list y_PT_list) ∈ AW := aw_t 262 rfl rfl
set_option maxRecDepth 20000 in
theorem aw263 : (Cond.code y_PT_list prog_1_method_5_code 3 (some .int)) ∈ AW := aw_t 263 rfl rfl
set_option maxRecDepth 20000 in
theorem aw264 : (Cond.methodLink "PageTree" 80 y_Items_isKnown) ∈ AW := aw_t 264 rfl rfl
set_option maxRecDepth 20000 in
theorem aw265 : (Cond.methodLink "PageTree" 83 y_Items_kidCountOf) ∈ AW := aw_t 265 rfl rfl
set_option maxRecDepth 20000 in
theorem aw266 : (Cond.methodLink "PageTreeLaw" 27 y_PT_inherit) ∈ AW := aw_t 266 rfl rfl
set_option maxRecDepth 20000 in
theorem aw267 : (Cond.instanceMethod y_PT_inherit) ∈ AW := aw_t 267 rfl rfl
set_option maxRecDepth 20000 in
theorem aw268 : (Cond.selects "PageTree" y_PT_inherit y_PT_inherit) ∈ AW := aw_t 268 rfl rfl
set_option maxRecDepth 20000 in
theorem aw269 : (Cond.code y_PT_inherit prog_1_method_6_code 4 (some .int)) ∈ AW := aw_t 269 rfl rfl
set_option maxRecDepth 20000 in
theorem aw270 : (Cond.methodLink "PageTree" 87 y_PT_isKey) ∈ AW := aw_t 270 rfl rfl
set_option maxRecDepth 20000 in
theorem aw271 : (Cond.static y_PT_isKey) ∈ AW := aw_t 271 rfl rfl
set_option maxRecDepth 20000 in
theorem aw272 : (Cond.code y_PT_isKey prog_1_method_8_code 1 (some .boolean)) ∈ AW := aw_t 272 rfl rfl
set_option maxRecDepth 20000 in
theorem aw273 : (Cond.constant "PageTree" 90 100000) ∈ AW := aw_t 273 rfl rfl
set_option maxRecDepth 20000 in
theorem aw274 : (Cond.methodLink "PageTree" 91 y_Items_setOwnValue) ∈ AW := aw_t 274 rfl rfl
set_option maxRecDepth 20000 in
theorem aw275 : (Cond.instanceMethod y_Items_setOwnValue) ∈ AW := aw_t 275 rfl rfl
set_option maxRecDepth 20000 in
theorem aw276 : (Cond.selects "PageTree$Items" y_Items_setOwnValue y_Items_setOwnValue) ∈ AW := aw_t 276 rfl rfl
set_option maxRecDepth 20000 in
theorem aw277 : (Cond.code y_Items_setOwnValue prog_3_method_25_code 4 none) ∈ AW := aw_t 277 rfl rfl
set_option maxRecDepth 20000 in
theorem aw279 : (Cond.methodLink "PageTreeLaw" 32 y_PT_of) ∈ AW := aw_t 279 rfl rfl
set_option maxRecDepth 20000 in
theorem aw280 : (Cond.instanceMethod y_PT_of) ∈ AW := aw_t 280 rfl rfl
set_option maxRecDepth 20000 in
theorem aw281 : (Cond.selects "PageTree" y_PT_of y_PT_of) ∈ AW := aw_t 281 rfl rfl
set_option maxRecDepth 20000 in
theorem aw282 : (Cond.code y_PT_of prog_1_method_7_code 3 (some .int)) ∈ AW := aw_t 282 rfl rfl
set_option maxRecDepth 20000 in
theorem aw283 : (Cond.methodLink "PageTree" 95 y_Items_isPage) ∈ AW := aw_t 283 rfl rfl
set_option maxRecDepth 20000 in
theorem aw284 : (Cond.instanceMethod y_Items_isPage) ∈ AW := aw_t 284 rfl rfl
set_option maxRecDepth 20000 in
theorem aw285 : (Cond.selects "PageTree$Items" y_Items_isPage y_Items_isPage) ∈ AW := aw_t 285 rfl rfl
set_option maxRecDepth 20000 in
theorem aw286 : (Cond.code y_Items_isPage prog_3_method_6_code 2 (some .boolean)) ∈ AW := aw_t 286 rfl rfl
set_option maxRecDepth 20000 in
theorem aw287 : (Cond.methodLink "PageTree" 98 y_Items_valueOf) ∈ AW := aw_t 287 rfl rfl
set_option maxRecDepth 20000 in
theorem aw288 : (Cond.instanceMethod y_Items_valueOf) ∈ AW := aw_t 288 rfl rfl
set_option maxRecDepth 20000 in
theorem aw289 : (Cond.selects "PageTree$Items" y_Items_valueOf y_Items_valueOf) ∈ AW := aw_t 289 rfl rfl
set_option maxRecDepth 20000 in
theorem aw290 : (Cond.code y_Items_valueOf prog_3_method_26_code 6 (some .int)) ∈ AW := aw_t 290 rfl rfl
set_option maxRecDepth 20000 in
theorem aw291 : (Cond.methodLink "PageTreeLaw" 36 y_PT_pages) ∈ AW := aw_t 291 rfl rfl
set_option maxRecDepth 20000 in
theorem aw292 : (Cond.instanceMethod y_PT_pages) ∈ AW := aw_t 292 rfl rfl
set_option maxRecDepth 20000 in
theorem aw293 : (Cond.selects "PageTree" y_PT_pages y_PT_pages) ∈ AW := aw_t 293 rfl rfl
set_option maxRecDepth 20000 in
theorem aw294 : (Cond.code y_PT_pages prog_1_method_9_code 1 (some .int)) ∈ AW := aw_t 294 rfl rfl
set_option maxRecDepth 20000 in
theorem aw295 : (Cond.methodLink "PageTree" 102 y_Order_size) ∈ AW := aw_t 295 rfl rfl
set_option maxRecDepth 20000 in
theorem aw296 : (Cond.instanceMethod y_Order_size) ∈ AW := aw_t 296 rfl rfl
set_option maxRecDepth 20000 in
theorem aw297 : (Cond.selects "PageTree$Order" y_Order_size y_Order_size) ∈ AW := aw_t 297 rfl rfl
set_option maxRecDepth 20000 in
theorem aw298 : (Cond.code y_Order_size prog_7_method_4_code 1 (some .int)) ∈ AW := aw_t 298 rfl rfl
set_option maxRecDepth 20000 in
theorem aw299 : (Cond.methodLink "PageTree$Order" 55 y_Order_refresh) ∈ AW := aw_t 299 rfl rfl
set_option maxRecDepth 20000 in
theorem aw301 : (Cond.instanceMethod y_Order_refresh) ∈ AW := aw_t 301 rfl rfl
set_option maxRecDepth 20000 in
theorem aw302 : (Cond.code y_Order_refresh prog_7_method_2_code 1 none) ∈ AW := aw_t 302 rfl rfl
set_option maxRecDepth 20000 in
theorem aw303 : (Cond.methodLink "PageTree$Order" 32 y_Items_version) ∈ AW := aw_t 303 rfl rfl
set_option maxRecDepth 20000 in
theorem aw304 : (Cond.instanceMethod y_Items_version) ∈ AW := aw_t 304 rfl rfl
set_option maxRecDepth 20000 in
theorem aw305 : (Cond.selects "PageTree$Items" y_Items_version y_Items_version) ∈ AW := aw_t 305 rfl rfl
set_option maxRecDepth 20000 in
theorem aw306 : (Cond.code y_Items_version prog_3_method_3_code 1 (some .int)) ∈ AW := aw_t 306 rfl rfl
set_option maxRecDepth 20000 in
theorem aw307 : (Cond.methodLink "PageTree$Order" 41 y_Arr_fill) ∈ AW := aw_t 307 rfl rfl
set_option maxRecDepth 20000 in
theorem aw308 : (Cond.methodLink "PageTree$Order" 47 y_Order_walkAll) ∈ AW := aw_t 308 rfl rfl
set_option maxRecDepth 20000 in
theorem aw309 : (Cond.sameMethod "PageTree$Order" "PageTree$Walk" "walkAll" "()V") ∈ AW := aw_t 309 rfl rfl
set_option maxRecDepth 20000 in
theorem aw311 : (Cond.selects "PageTree$Order" y_Order_walkAll y_Walk_walkAll) ∈ AW := aw_t 311 rfl rfl
set_option maxRecDepth 20000 in
theorem aw312 : (Cond.instanceMethod y_Walk_walkAll) ∈ AW := aw_t 312 rfl rfl
set_option maxRecDepth 20000 in
theorem aw313 : (Cond.code y_Walk_walkAll prog_8_method_6_code 6 none) ∈ AW := aw_t 313 rfl rfl
set_option maxRecDepth 20000 in
theorem aw314 : (Cond.methodLink "PageTree$Walk" 30 y_Items_size) ∈ AW := aw_t 314 rfl rfl
set_option maxRecDepth 20000 in
theorem aw315 : (Cond.methodLink "PageTree$Walk" 36 y_Walk_enter) ∈ AW := aw_t 315 rfl rfl
set_option maxRecDepth 20000 in
theorem aw317 : (Cond.instanceMethod y_Walk_enter) ∈ AW := aw_t 317 rfl rfl
set_option maxRecDepth 20000 in
theorem aw318 : (Cond.code y_Walk_enter prog_8_method_8_code 2 none) ∈ AW := aw_t 318 rfl rfl
set_option maxRecDepth 20000 in
theorem aw319 : (Cond.methodLink "PageTree$Walk" 40 y_Items_kidAt) ∈ AW := aw_t 319 rfl rfl
set_option maxRecDepth 20000 in
theorem aw320 : (Cond.instanceMethod y_Items_kidAt) ∈ AW := aw_t 320 rfl rfl
set_option maxRecDepth 20000 in
theorem aw321 : (Cond.selects "PageTree$Items" y_Items_kidAt y_Items_kidAt) ∈ AW := aw_t 321 rfl rfl
set_option maxRecDepth 20000 in
theorem aw322 : (Cond.code y_Items_kidAt prog_3_method_15_code 3 (some .int)) ∈ AW := aw_t 322 rfl rfl
set_option maxRecDepth 20000 in
theorem aw323 : (Cond.methodLink "PageTree$Items" 52 y_Items_hasSlot) ∈ AW := aw_t 323 rfl rfl
set_option maxRecDepth 20000 in
theorem aw325 : (Cond.instanceMethod y_Items_hasSlot) ∈ AW := aw_t 325 rfl rfl
set_option maxRecDepth 20000 in
theorem aw326 : (Cond.code y_Items_hasSlot prog_3_method_16_code 3 (some .boolean)) ∈ AW := aw_t 326 rfl rfl
set_option maxRecDepth 20000 in
theorem aw327 : (Cond.methodLink "PageTree$Walk" 44 y_Items_isKnown) ∈ AW := aw_t 327 rfl rfl
set_option maxRecDepth 20000 in
theorem aw328 : (Cond.methodLink "PageTree$Walk" 48 y_Walk_meet) ∈ AW := aw_t 328 rfl rfl
set_option maxRecDepth 20000 in
theorem aw330 : (Cond.instanceMethod y_Walk_meet) ∈ AW := aw_t 330 rfl rfl
set_option maxRecDepth 20000 in
theorem aw331 : (Cond.code y_Walk_meet prog_8_method_7_code 6 (some .int)) ∈ AW := aw_t 331 rfl rfl
set_option maxRecDepth 20000 in
theorem aw332 : (Cond.methodLink "PageTree$Walk" 55 y_Items_isPage) ∈ AW := aw_t 332 rfl rfl
set_option maxRecDepth 20000 in
theorem aw333 : (Cond.methodLink "PageTree$Walk" 58 y_Walk_meetPageAgain) ∈ AW := aw_t 333 rfl rfl
set_option maxRecDepth 20000 in
theorem aw334 : (Cond.instanceMethod y_Walk_meetPageAgain) ∈ AW := aw_t 334 rfl rfl
set_option maxRecDepth 20000 in
theorem aw335 : (Cond.sameMethod "PageTree$Walk" "PageTree$Walk" "meetPageAgain" "(III)Z") ∈ AW := aw_t 335 rfl rfl
set_option maxRecDepth 20000 in
theorem aw336 : (Cond.selects "PageTree$Mender" y_Walk_meetPageAgain y_Mender_meetPageAgain) ∈ AW := aw_t 336 rfl rfl
set_option maxRecDepth 20000 in
theorem aw337 : (Cond.instanceMethod y_Mender_meetPageAgain) ∈ AW := aw_t 337 rfl rfl
set_option maxRecDepth 20000 in
theorem aw338 : (Cond.code y_Mender_meetPageAgain prog_5_method_7_code 5 (some .boolean)) ∈ AW := aw_t 338 rfl rfl
set_option maxRecDepth 20000 in
theorem aw339 : (Cond.methodLink "PageTree$Mender" 55 y_Items_isFull) ∈ AW := aw_t 339 rfl rfl
set_option maxRecDepth 20000 in
theorem aw340 : (Cond.methodLink "PageTree$Mender" 46 y_Items_dropKid) ∈ AW := aw_t 340 rfl rfl
set_option maxRecDepth 20000 in
theorem aw341 : (Cond.instanceMethod y_Items_dropKid) ∈ AW := aw_t 341 rfl rfl
set_option maxRecDepth 20000 in
theorem aw342 : (Cond.selects "PageTree$Items" y_Items_dropKid y_Items_dropKid) ∈ AW := aw_t 342 rfl rfl
set_option maxRecDepth 20000 in
theorem aw343 : (Cond.code y_Items_dropKid prog_3_method_20_code 5 none) ∈ AW := aw_t 343 rfl rfl
set_option maxRecDepth 20000 in
theorem aw344 : (Cond.methodLink "PageTree$Mender" 52 y_Mender_tell) ∈ AW := aw_t 344 rfl rfl
set_option maxRecDepth 20000 in
theorem aw346 : (Cond.instanceMethod y_Mender_tell) ∈ AW := aw_t 346 rfl rfl
set_option maxRecDepth 20000 in
theorem aw347 : (Cond.code y_Mender_tell prog_5_method_4_code 3 none) ∈ AW := aw_t 347 rfl rfl
set_option maxRecDepth 20000 in
theorem aw348 : (Cond.methodLink "PageTree$Mender" 59 y_Items_add) ∈ AW := aw_t 348 rfl rfl
set_option maxRecDepth 20000 in
theorem aw349 : (Cond.methodLink "PageTree$Mender" 63 y_Items_copyOwnValues) ∈ AW := aw_t 349 rfl rfl
set_option maxRecDepth 20000 in
theorem aw350 : (Cond.instanceMethod y_Items_copyOwnValues) ∈ AW := aw_t 350 rfl rfl
set_option maxRecDepth 20000 in
theorem aw351 : (Cond.selects "PageTree$Items" y_Items_copyOwnValues y_Items_copyOwnValues) ∈ AW := aw_t 351 rfl rfl
set_option maxRecDepth 20000 in
theorem aw352 : (Cond.code y_Items_copyOwnValues prog_3_method_28_code 4 none) ∈ AW := aw_t 352 rfl rfl
set_option maxRecDepth 20000 in
theorem aw353 : (Cond.methodLink "PageTree$Mender" 66 y_Items_replaceKid) ∈ AW := aw_t 353 rfl rfl
set_option maxRecDepth 20000 in
theorem aw354 : (Cond.instanceMethod y_Items_replaceKid) ∈ AW := aw_t 354 rfl rfl
set_option maxRecDepth 20000 in
theorem aw355 : (Cond.selects "PageTree$Items" y_Items_replaceKid y_Items_replaceKid) ∈ AW := aw_t 355 rfl rfl
set_option maxRecDepth 20000 in
theorem aw356 : (Cond.code y_Items_replaceKid prog_3_method_17_code 4 none) ∈ AW := aw_t 356 rfl rfl
set_option maxRecDepth 20000 in
theorem aw357 : (Cond.selects "PageTree$Order" y_Walk_meetPageAgain y_Walk_meetPageAgain) ∈ AW := aw_t 357 rfl rfl
set_option maxRecDepth 20000 in
theorem aw358 : (Cond.code y_Walk_meetPageAgain prog_8_method_4_code 4 (some .boolean)) ∈ AW := aw_t 358 rfl rfl
set_option maxRecDepth 20000 in
theorem aw359 : (Cond.methodLink "PageTree$Walk" 62 y_Walk_meetNodeAgain) ∈ AW := aw_t 359 rfl rfl
set_option maxRecDepth 20000 in
theorem aw360 : (Cond.instanceMethod y_Walk_meetNodeAgain) ∈ AW := aw_t 360 rfl rfl
set_option maxRecDepth 20000 in
theorem aw361 : (Cond.sameMethod "PageTree$Walk" "PageTree$Walk" "meetNodeAgain" "(III)Z") ∈ AW := aw_t 361 rfl rfl
set_option maxRecDepth 20000 in
theorem aw362 : (Cond.selects "PageTree$Mender" y_Walk_meetNodeAgain y_Mender_meetNodeAgain) ∈ AW := aw_t 362 rfl rfl
set_option maxRecDepth 20000 in
theorem aw363 : (Cond.instanceMethod y_Mender_meetNodeAgain) ∈ AW := aw_t 363 rfl rfl
set_option maxRecDepth 20000 in
theorem aw364 : (Cond.code y_Mender_meetNodeAgain prog_5_method_6_code 4 (some .boolean)) ∈ AW := aw_t 364 rfl rfl
set_option maxRecDepth 20000 in
theorem aw365 : (Cond.methodLink "PageTree$Mender" 49 y_Mender_isOnTheWay) ∈ AW := aw_t 365 rfl rfl
set_option maxRecDepth 20000 in
theorem aw366 : (Cond.sameMethod "PageTree$Mender" "PageTree$Walk" "isOnTheWay" "(I)Z") ∈ AW := aw_t 366 rfl rfl
set_option maxRecDepth 20000 in
theorem aw368 : (Cond.selects "PageTree$Mender" y_Mender_isOnTheWay y_Walk_isOnTheWay) ∈ AW := aw_t 368 rfl rfl
set_option maxRecDepth 20000 in
theorem aw369 : (Cond.instanceMethod y_Walk_isOnTheWay) ∈ AW := aw_t 369 rfl rfl
set_option maxRecDepth 20000 in
theorem aw370 : (Cond.code y_Walk_isOnTheWay prog_8_method_9_code 3 (some .boolean)) ∈ AW := aw_t 370 rfl rfl
set_option maxRecDepth 20000 in
theorem aw371 : (Cond.selects "PageTree$Order" y_Walk_meetNodeAgain y_Walk_meetNodeAgain) ∈ AW := aw_t 371 rfl rfl
set_option maxRecDepth 20000 in
theorem aw372 : (Cond.code y_Walk_meetNodeAgain prog_8_method_3_code 4 (some .boolean)) ∈ AW := aw_t 372 rfl rfl
set_option maxRecDepth 20000 in
theorem aw373 : (Cond.methodLink "PageTree$Walk" 65 y_Walk_meetFirst) ∈ AW := aw_t 373 rfl rfl
set_option maxRecDepth 20000 in
theorem aw375 : (Cond.sameMethod "PageTree$Walk" "PageTree$Walk" "meetFirst" "(III)V") ∈ AW := aw_t 375 rfl rfl
set_option maxRecDepth 20000 in
theorem aw376 : (Cond.selects "PageTree$Mender" y_Walk_meetFirst y_Mender_meetFirst) ∈ AW := aw_t 376 rfl rfl
set_option maxRecDepth 20000 in
theorem aw377 : (Cond.instanceMethod y_Mender_meetFirst) ∈ AW := aw_t 377 rfl rfl
set_option maxRecDepth 20000 in
theorem aw378 : (Cond.code y_Mender_meetFirst prog_5_method_5_code 4 none) ∈ AW := aw_t 378 rfl rfl
set_option maxRecDepth 20000 in
theorem aw379 : (Cond.methodLink "PageTree$Mender" 36 y_Items_setParent) ∈ AW := aw_t 379 rfl rfl
set_option maxRecDepth 20000 in
theorem aw380 : (Cond.instanceMethod y_Items_setParent) ∈ AW := aw_t 380 rfl rfl
set_option maxRecDepth 20000 in
theorem aw381 : (Cond.selects "PageTree$Items" y_Items_setParent y_Items_setParent) ∈ AW := aw_t 381 rfl rfl
set_option maxRecDepth 20000 in
theorem aw382 : (Cond.code y_Items_setParent prog_3_method_10_code 3 none) ∈ AW := aw_t 382 rfl rfl
set_option maxRecDepth 20000 in
theorem aw383 : (Cond.methodLink "PageTree$Mender" 42 y_Items_isPage) ∈ AW := aw_t 383 rfl rfl
set_option maxRecDepth 20000 in
theorem aw384 : (Cond.selects "PageTree$Order" y_Walk_meetFirst y_Order_meetFirst) ∈ AW := aw_t 384 rfl rfl
set_option maxRecDepth 20000 in
theorem aw385 : (Cond.instanceMethod y_Order_meetFirst) ∈ AW := aw_t 385 rfl rfl
set_option maxRecDepth 20000 in
theorem aw386 : (Cond.code y_Order_meetFirst prog_7_method_3_code 4 none) ∈ AW := aw_t 386 rfl rfl
set_option maxRecDepth 20000 in
theorem aw387 : (Cond.methodLink "PageTree$Order" 51 y_Items_isPage) ∈ AW := aw_t 387 rfl rfl
set_option maxRecDepth 20000 in
theorem aw388 : (Cond.methodLink "PageTree$Walk" 52 y_Walk_leave) ∈ AW := aw_t 388 rfl rfl
set_option maxRecDepth 20000 in
theorem aw389 : (Cond.instanceMethod y_Walk_leave) ∈ AW := aw_t 389 rfl rfl
set_option maxRecDepth 20000 in
theorem aw390 : (Cond.sameMethod "PageTree$Walk" "PageTree$Walk" "leave" "(I)V") ∈ AW := aw_t 390 rfl rfl
set_option maxRecDepth 20000 in
theorem aw391 : (Cond.selects "PageTree$Mender" y_Walk_leave y_Mender_leave) ∈ AW := aw_t 391 rfl rfl
set_option maxRecDepth 20000 in
theorem aw392 : (Cond.instanceMethod y_Mender_leave) ∈ AW := aw_t 392 rfl rfl
set_option maxRecDepth 20000 in
theorem aw393 : (Cond.code y_Mender_leave prog_5_method_8_code 3 none) ∈ AW := aw_t 393 rfl rfl
set_option maxRecDepth 20000 in
theorem aw394 : (Cond.methodLink "PageTree$Mender" 70 y_Items_countOf) ∈ AW := aw_t 394 rfl rfl
set_option maxRecDepth 20000 in
theorem aw395 : (Cond.instanceMethod y_Items_countOf) ∈ AW := aw_t 395 rfl rfl
set_option maxRecDepth 20000 in
theorem aw396 : (Cond.selects "PageTree$Items" y_Items_countOf y_Items_countOf) ∈ AW := aw_t 396 rfl rfl
set_option maxRecDepth 20000 in
theorem aw397 : (Cond.code y_Items_countOf prog_3_method_11_code 2 (some .int)) ∈ AW := aw_t 397 rfl rfl
set_option maxRecDepth 20000 in
theorem aw398 : (Cond.methodLink "PageTree$Mender" 74 y_Items_setCount) ∈ AW := aw_t 398 rfl rfl
set_option maxRecDepth 20000 in
theorem aw399 : (Cond.instanceMethod y_Items_setCount) ∈ AW := aw_t 399 rfl rfl
set_option maxRecDepth 20000 in
theorem aw400 : (Cond.selects "PageTree$Items" y_Items_setCount y_Items_setCount) ∈ AW := aw_t 400 rfl rfl
set_option maxRecDepth 20000 in
theorem aw401 : (Cond.code y_Items_setCount prog_3_method_12_code 3 none) ∈ AW := aw_t 401 rfl rfl
set_option maxRecDepth 20000 in
theorem aw402 : (Cond.selects "PageTree$Order" y_Walk_leave y_Walk_leave) ∈ AW := aw_t 402 rfl rfl
set_option maxRecDepth 20000 in
theorem aw403 : (Cond.code y_Walk_leave prog_8_method_5_code 2 none) ∈ AW := aw_t 403 rfl rfl
set_option maxRecDepth 20000 in
theorem aw404 : (Cond.methodLink "PageTreeLaw" 41 y_PT_at) ∈ AW := aw_t 404 rfl rfl
set_option maxRecDepth 20000 in
theorem aw405 : (Cond.instanceMethod y_PT_at) ∈ AW := aw_t 405 rfl rfl
set_option maxRecDepth 20000 in
theorem aw406 : (Cond.selects "PageTree" y_PT_at y_PT_at) ∈ AW := aw_t 406 rfl rfl
set_option maxRecDepth 20000 in
theorem aw407 : (Cond.code y_PT_at prog_1_method_10_code 2 (some .int)) ∈ AW := aw_t 407 rfl rfl
set_option maxRecDepth 20000 in
theorem aw408 : (Cond.methodLink "PageTree" 103 y_Order_pageAt) ∈ AW := aw_t 408 rfl rfl
set_option maxRecDepth 20000 in
theorem aw409 : (Cond.instanceMethod y_Order_pageAt) ∈ AW := aw_t 409 rfl rfl
set_option maxRecDepth 20000 in
theorem aw410 : (Cond.selects "PageTree$Order" y_Order_pageAt y_Order_pageAt) ∈ AW := aw_t 410 rfl rfl
set_option maxRecDepth 20000 in
theorem aw411 : (Cond.code y_Order_pageAt prog_7_method_5_code 2 (some .int)) ∈ AW := aw_t 411 rfl rfl
set_option maxRecDepth 20000 in
theorem aw412 : (Cond.methodLink "PageTreeLaw" 45 y_PT_about) ∈ AW := aw_t 412 rfl rfl
set_option maxRecDepth 20000 in
theorem aw413 : (Cond.instanceMethod y_PT_about) ∈ AW := aw_t 413 rfl rfl
set_option maxRecDepth 20000 in
theorem aw414 : (Cond.selects "PageTree" y_PT_about y_PT_about) ∈ AW := aw_t 414 rfl rfl
set_option maxRecDepth 20000 in
theorem aw415 : (Cond.code y_PT_about prog_1_method_11_code 3 (some .int)) ∈ AW := aw_t 415 rfl rfl
set_option maxRecDepth 20000 in
theorem aw416 : (Cond.methodLink "PageTree" 106 y_Items_parentOf) ∈ AW := aw_t 416 rfl rfl
set_option maxRecDepth 20000 in
theorem aw417 : (Cond.instanceMethod y_Items_parentOf) ∈ AW := aw_t 417 rfl rfl
set_option maxRecDepth 20000 in
theorem aw418 : (Cond.selects "PageTree$Items" y_Items_parentOf y_Items_parentOf) ∈ AW := aw_t 418 rfl rfl
set_option maxRecDepth 20000 in
theorem aw419 : (Cond.code y_Items_parentOf prog_3_method_9_code 2 (some .int)) ∈ AW := aw_t 419 rfl rfl
set_option maxRecDepth 20000 in
theorem aw420 : (Cond.methodLink "PageTree" 109 y_Items_countOf) ∈ AW := aw_t 420 rfl rfl
set_option maxRecDepth 20000 in
theorem aw421 : (Cond.methodLink "PageTree" 112 y_Order_placeOf) ∈ AW := aw_t 421 rfl rfl
set_option maxRecDepth 20000 in
theorem aw422 : (Cond.instanceMethod y_Order_placeOf) ∈ AW := aw_t 422 rfl rfl
set_option maxRecDepth 20000 in
theorem aw423 : (Cond.selects "PageTree$Order" y_Order_placeOf y_Order_placeOf) ∈ AW := aw_t 423 rfl rfl
set_option maxRecDepth 20000 in
theorem aw424 : (Cond.code y_Order_placeOf prog_7_method_7_code 2 (some .int)) ∈ AW := aw_t 424 rfl rfl
set_option maxRecDepth 20000 in
theorem aw425 : (Cond.methodLink "PageTree$Order" 58 y_Order_isTaken) ∈ AW := aw_t 425 rfl rfl
set_option maxRecDepth 20000 in
theorem aw427 : (Cond.instanceMethod y_Order_isTaken) ∈ AW := aw_t 427 rfl rfl
set_option maxRecDepth 20000 in
theorem aw428 : (Cond.code y_Order_isTaken prog_7_method_10_code 2 (some .boolean)) ∈ AW := aw_t 428 rfl rfl
set_option maxRecDepth 20000 in
theorem aw429 : (Cond.methodLink "PageTreeLaw" 49 y_PT_kid) ∈ AW := aw_t 429 rfl rfl
set_option maxRecDepth 20000 in
theorem aw430 : (Cond.instanceMethod y_PT_kid) ∈ AW := aw_t 430 rfl rfl
set_option maxRecDepth 20000 in
theorem aw431 : (Cond.selects "PageTree" y_PT_kid y_PT_kid) ∈ AW := aw_t 431 rfl rfl
set_option maxRecDepth 20000 in
theorem aw432 : (Cond.code y_PT_kid prog_1_method_12_code 3 (some .int)) ∈ AW := aw_t 432 rfl rfl
set_option maxRecDepth 20000 in
theorem aw433 : (Cond.methodLink "PageTree" 115 y_Items_kidAt) ∈ AW := aw_t 433 rfl rfl
set_option maxRecDepth 20000 in
theorem aw434 : (Cond.methodLink "PageTreeLaw" 53 y_PT_mend) ∈ AW := aw_t 434 rfl rfl
set_option maxRecDepth 20000 in
theorem aw435 : (Cond.instanceMethod y_PT_mend) ∈ AW := aw_t 435 rfl rfl
set_option maxRecDepth 20000 in
theorem aw436 : (Cond.selects "PageTree" y_PT_mend y_PT_mend) ∈ AW := aw_t 436 rfl rfl
set_option maxRecDepth 20000 in
theorem aw437 : (Cond.code y_PT_mend prog_1_method_13_code 1 (some .int)) ∈ AW := aw_t 437 rfl rfl
set_option maxRecDepth 20000 in
theorem aw438 : (Cond.methodLink "PageTree" 118 y_Mender_putRight) ∈ AW := aw_t 438 rfl rfl
set_option maxRecDepth 20000 in
theorem aw439 : (Cond.instanceMethod y_Mender_putRight) ∈ AW := aw_t 439 rfl rfl
set_option maxRecDepth 20000 in
theorem aw440 : (Cond.selects "PageTree$Mender" y_Mender_putRight y_Mender_putRight) ∈ AW := aw_t 440 rfl rfl
set_option maxRecDepth 20000 in
theorem aw441 : (Cond.code y_Mender_putRight prog_5_method_2_code 1 (some .int)) ∈ AW := aw_t 441 rfl rfl
set_option maxRecDepth 20000 in
theorem aw442 : (Cond.methodLink "PageTree$Mender" 28 y_Mender_walkAll) ∈ AW := aw_t 442 rfl rfl
set_option maxRecDepth 20000 in
theorem aw443 : (Cond.sameMethod "PageTree$Mender" "PageTree$Walk" "walkAll" "()V") ∈ AW := aw_t 443 rfl rfl
set_option maxRecDepth 20000 in
theorem aw444 : (Cond.selects "PageTree$Mender" y_Mender_walkAll y_Walk_walkAll) ∈ AW := aw_t 444 rfl rfl
set_option maxRecDepth 20000 in
theorem aw445 : (Cond.methodLink "PageTreeLaw" 57 y_PT_told) ∈ AW := aw_t 445 rfl rfl
set_option maxRecDepth 20000 in
theorem aw446 : (Cond.instanceMethod y_PT_told) ∈ AW := aw_t 446 rfl rfl
set_option maxRecDepth 20000 in
theorem aw447 : (Cond.selects "PageTree" y_PT_told y_PT_told) ∈ AW := aw_t 447 rfl rfl
set_option maxRecDepth 20000 in
theorem aw448 : (Cond.code y_PT_told prog_1_method_14_code 3 (some .int)) ∈ AW := aw_t 448 rfl rfl
set_option maxRecDepth 20000 in
theorem aw449 : (Cond.methodLink "PageTree" 121 y_Mender_tellingAt) ∈ AW := aw_t 449 rfl rfl
set_option maxRecDepth 20000 in
theorem aw450 : (Cond.instanceMethod y_Mender_tellingAt) ∈ AW := aw_t 450 rfl rfl
set_option maxRecDepth 20000 in
theorem aw451 : (Cond.selects "PageTree$Mender" y_Mender_tellingAt y_Mender_tellingAt) ∈ AW := aw_t 451 rfl rfl
set_option maxRecDepth 20000 in
theorem aw452 : (Cond.code y_Mender_tellingAt prog_5_method_3_code 3 (some .int)) ∈ AW := aw_t 452 rfl rfl
set_option maxRecDepth 20000 in
theorem aw453 : (Cond.methodLink "PageTreeLaw" 61 y_PT_move) ∈ AW := aw_t 453 rfl rfl
set_option maxRecDepth 20000 in
theorem aw454 : (Cond.instanceMethod y_PT_move) ∈ AW := aw_t 454 rfl rfl
set_option maxRecDepth 20000 in
theorem aw455 : (Cond.selects "PageTree" y_PT_move y_PT_move) ∈ AW := aw_t 455 rfl rfl
set_option maxRecDepth 20000 in
theorem aw456 : (Cond.code y_PT_move prog_1_method_15_code 9 (some .int)) ∈ AW := aw_t 456 rfl rfl
set_option maxRecDepth 20000 in
theorem aw457 : (Cond.methodLink "PageTree" 124 y_Order_listerOf) ∈ AW := aw_t 457 rfl rfl
set_option maxRecDepth 20000 in
theorem aw458 : (Cond.instanceMethod y_Order_listerOf) ∈ AW := aw_t 458 rfl rfl
set_option maxRecDepth 20000 in
theorem aw459 : (Cond.selects "PageTree$Order" y_Order_listerOf y_Order_listerOf) ∈ AW := aw_t 459 rfl rfl
set_option maxRecDepth 20000 in
theorem aw460 : (Cond.code y_Order_listerOf prog_7_method_8_code 2 (some .int)) ∈ AW := aw_t 460 rfl rfl
set_option maxRecDepth 20000 in
theorem aw461 : (Cond.methodLink "PageTree" 127 y_Items_kidCountWithout) ∈ AW := aw_t 461 rfl rfl
set_option maxRecDepth 20000 in
theorem aw462 : (Cond.instanceMethod y_Items_kidCountWithout) ∈ AW := aw_t 462 rfl rfl
set_option maxRecDepth 20000 in
theorem aw463 : (Cond.selects "PageTree$Items" y_Items_kidCountWithout y_Items_kidCountWithout) ∈ AW := aw_t 463 rfl rfl
set_option maxRecDepth 20000 in
theorem aw464 : (Cond.code y_Items_kidCountWithout prog_3_method_23_code 5 (some .int)) ∈ AW := aw_t 464 rfl rfl
set_option maxRecDepth 20000 in
theorem aw465 : (Cond.methodLink "PageTree$Items" 67 y_Items_kidAt) ∈ AW := aw_t 465 rfl rfl
set_option maxRecDepth 20000 in
theorem aw466 : (Cond.methodLink "PageTree" 130 y_Items_ownValuesOf) ∈ AW := aw_t 466 rfl rfl
set_option maxRecDepth 20000 in
theorem aw467 : (Cond.instanceMethod y_Items_ownValuesOf) ∈ AW := aw_t 467 rfl rfl
set_option maxRecDepth 20000 in
theorem aw468 : (Cond.selects "PageTree$Items" y_Items_ownValuesOf y_Items_ownValuesOf) ∈ AW := aw_t 468 rfl rfl
set_option maxRecDepth 20000 in
theorem aw469 : (Cond.code y_Items_ownValuesOf prog_3_method_27_code 4 none) ∈ AW := aw_t 469 rfl rfl
set_option maxRecDepth 20000 in
theorem aw470 : (Cond.methodLink "PageTree$Items" 74 y_Items_valueOf) ∈ AW := aw_t 470 rfl rfl
set_option maxRecDepth 20000 in
theorem aw471 : (Cond.methodLink "PageTree$Items" 77 y_Items_setOwnValue) ∈ AW := aw_t 471 rfl rfl
set_option maxRecDepth 20000 in
theorem aw472 : (Cond.methodLink "PageTree" 133 y_Items_dropEverywhere) ∈ AW := aw_t 472 rfl rfl
set_option maxRecDepth 20000 in
theorem aw473 : (Cond.instanceMethod y_Items_dropEverywhere) ∈ AW := aw_t 473 rfl rfl
set_option maxRecDepth 20000 in
theorem aw474 : (Cond.selects "PageTree$Items" y_Items_dropEverywhere y_Items_dropEverywhere) ∈ AW := aw_t 474 rfl rfl
set_option maxRecDepth 20000 in
theorem aw475 : (Cond.code y_Items_dropEverywhere prog_3_method_21_code 3 none) ∈ AW := aw_t 475 rfl rfl
set_option maxRecDepth 20000 in
theorem aw476 : (Cond.methodLink "PageTree$Items" 63 y_Items_dropFromList) ∈ AW := aw_t 476 rfl rfl
set_option maxRecDepth 20000 in
theorem aw478 : (Cond.instanceMethod y_Items_dropFromList) ∈ AW := aw_t 478 rfl rfl
set_option maxRecDepth 20000 in
theorem aw479 : (Cond.code y_Items_dropFromList prog_3_method_22_code 7 none) ∈ AW := aw_t 479 rfl rfl
set_option maxRecDepth 20000 in
theorem aw480 : (Cond.methodLink "PageTree" 137 y_Order_slotOf) ∈ AW := aw_t 480 rfl rfl
set_option maxRecDepth 20000 in
theorem aw481 : (Cond.instanceMethod y_Order_slotOf) ∈ AW := aw_t 481 rfl rfl
set_option maxRecDepth 20000 in
theorem aw482 : (Cond.selects "PageTree$Order" y_Order_slotOf y_Order_slotOf) ∈ AW := aw_t 482 rfl rfl
set_option maxRecDepth 20000 in
theorem aw483 : (Cond.code y_Order_slotOf prog_7_method_9_code 2 (some .int)) ∈ AW := aw_t 483 rfl rfl
set_option maxRecDepth 20000 in
theorem aw484 : (Cond.methodLink "PageTree" 140 y_Items_insertKid) ∈ AW := aw_t 484 rfl rfl
set_option maxRecDepth 20000 in
theorem aw485 : (Cond.methodLink "PageTree" 143 y_Items_setParent) ∈ AW := aw_t 485 rfl rfl
set_option maxRecDepth 20000 in
theorem aw486 : (Cond.methodLink "PageTreeLaw" 65 y_PT_copy) ∈ AW := aw_t 486 rfl rfl
set_option maxRecDepth 20000 in
theorem aw487 : (Cond.instanceMethod y_PT_copy) ∈ AW := aw_t 487 rfl rfl
set_option maxRecDepth 20000 in
theorem aw488 : (Cond.selects "PageTree" y_PT_copy y_PT_copy) ∈ AW := aw_t 488 rfl rfl
set_option maxRecDepth 20000 in
theorem aw489 : (Cond.code y_PT_copy prog_1_method_16_code 5 (some .int)) ∈ AW := aw_t 489 rfl rfl
set_option maxRecDepth 20000 in
theorem aw490 : (Cond.methodLink "PageTreeLaw" 69 y_PT_remove) ∈ AW := aw_t 490 rfl rfl
set_option maxRecDepth 20000 in
theorem aw491 : (Cond.instanceMethod y_PT_remove) ∈ AW := aw_t 491 rfl rfl
set_option maxRecDepth 20000 in
theorem aw492 : (Cond.selects "PageTree" y_PT_remove y_PT_remove) ∈ AW := aw_t 492 rfl rfl
set_option maxRecDepth 20000 in
theorem aw493 : (Cond.code y_PT_remove prog_1_method_17_code 2 (some .int)) ∈ AW := aw_t 493 rfl rfl
set_option maxRecDepth 20000 in
theorem aw494 : (Cond.methodLink "PageTree" 146 y_Names_forget) ∈ AW := aw_t 494 rfl rfl
set_option maxRecDepth 20000 in
theorem aw495 : (Cond.instanceMethod y_Names_forget) ∈ AW := aw_t 495 rfl rfl
set_option maxRecDepth 20000 in
theorem aw496 : (Cond.selects "PageTree$Names" y_Names_forget y_Names_forget) ∈ AW := aw_t 496 rfl rfl
set_option maxRecDepth 20000 in
theorem aw497 : (Cond.code y_Names_forget prog_6_method_6_code 4 (some .int)) ∈ AW := aw_t 497 rfl rfl
set_option maxRecDepth 20000 in
theorem aw498 : (Cond.methodLink "PageTreeLaw" 73 y_PT_label) ∈ AW := aw_t 498 rfl rfl
set_option maxRecDepth 20000 in
theorem aw499 : (Cond.instanceMethod y_PT_label) ∈ AW := aw_t 499 rfl rfl
set_option maxRecDepth 20000 in
theorem aw500 : (Cond.selects "PageTree" y_PT_label y_PT_label) ∈ AW := aw_t 500 rfl rfl
set_option maxRecDepth 20000 in
theorem aw501 : (Cond.code y_PT_label prog_1_method_18_code 4 (some .int)) ∈ AW := aw_t 501 rfl rfl
set_option maxRecDepth 20000 in
theorem aw502 : (Cond.methodLink "PageTree" 149 y_Labels_isRange) ∈ AW := aw_t 502 rfl rfl
set_option maxRecDepth 20000 in
theorem aw503 : (Cond.static y_Labels_isRange) ∈ AW := aw_t 503 rfl rfl
set_option maxRecDepth 20000 in
theorem aw504 : (Cond.code y_Labels_isRange prog_4_method_2_code 3 (some .boolean)) ∈ AW := aw_t 504 rfl rfl
set_option maxRecDepth 20000 in
theorem aw505 : (Cond.methodLink "PageTree" 153 y_Labels_begin) ∈ AW := aw_t 505 rfl rfl
set_option maxRecDepth 20000 in
theorem aw506 : (Cond.instanceMethod y_Labels_begin) ∈ AW := aw_t 506 rfl rfl
set_option maxRecDepth 20000 in
theorem aw507 : (Cond.selects "PageTree$Labels" y_Labels_begin y_Labels_begin) ∈ AW := aw_t 507 rfl rfl
set_option maxRecDepth 20000 in
theorem aw508 : (Cond.code y_Labels_begin prog_4_method_4_code 5 (some .boolean)) ∈ AW := aw_t 508 rfl rfl
set_option maxRecDepth 20000 in
theorem aw509 : (Cond.methodLink "PageTree$Labels" 29 y_Labels_rangeFrom) ∈ AW := aw_t 509 rfl rfl
set_option maxRecDepth 20000 in
theorem aw511 : (Cond.instanceMethod y_Labels_rangeFrom) ∈ AW := aw_t 511 rfl rfl
set_option maxRecDepth 20000 in
theorem aw512 : (Cond.code y_Labels_rangeFrom prog_4_method_5_code 3 (some .int)) ∈ AW := aw_t 512 rfl rfl
set_option maxRecDepth 20000 in
theorem aw513 : (Cond.methodLink "PageTree" 156 y_Labels_size) ∈ AW := aw_t 513 rfl rfl
set_option maxRecDepth 20000 in
theorem aw514 : (Cond.instanceMethod y_Labels_size) ∈ AW := aw_t 514 rfl rfl
set_option maxRecDepth 20000 in
theorem aw515 : (Cond.selects "PageTree$Labels" y_Labels_size y_Labels_size) ∈ AW := aw_t 515 rfl rfl
set_option maxRecDepth 20000 in
theorem aw516 : (Cond.code y_Labels_size prog_4_method_3_code 1 (some .int)) ∈ AW := aw_t 516 rfl rfl
set_option maxRecDepth 20000 in
theorem aw517 : (Cond.methodLink "PageTreeLaw" 77 y_PT_text) ∈ AW := aw_t 517 rfl rfl
set_option maxRecDepth 20000 in
theorem aw518 : (Cond.instanceMethod y_PT_text) ∈ AW := aw_t 518 rfl rfl
set_option maxRecDepth 20000 in
theorem aw519 : (Cond.selects "PageTree" y_PT_text y_PT_text) ∈ AW := aw_t 519 rfl rfl
set_option maxRecDepth 20000 in
theorem aw520 : (Cond.code y_PT_text prog_1_method_19_code 3 (some .int)) ∈ AW := aw_t 520 rfl rfl
set_option maxRecDepth 20000 in
theorem aw521 : (Cond.methodLink "PageTree" 157 y_Labels_signOf) ∈ AW := aw_t 521 rfl rfl
set_option maxRecDepth 20000 in
theorem aw522 : (Cond.instanceMethod y_Labels_signOf) ∈ AW := aw_t 522 rfl rfl
set_option maxRecDepth 20000 in
theorem aw523 : (Cond.selects "PageTree$Labels" y_Labels_signOf y_Labels_signOf) ∈ AW := aw_t 523 rfl rfl
set_option maxRecDepth 20000 in
theorem aw524 : (Cond.code y_Labels_signOf prog_4_method_6_code 4 (some .int)) ∈ AW := aw_t 524 rfl rfl
set_option maxRecDepth 20000 in
theorem aw525 : (Cond.methodLink "PageTree$Labels" 33 y_Labels_rangeAround) ∈ AW := aw_t 525 rfl rfl
set_option maxRecDepth 20000 in
theorem aw527 : (Cond.instanceMethod y_Labels_rangeAround) ∈ AW := aw_t 527 rfl rfl
set_option maxRecDepth 20000 in
theorem aw528 : (Cond.code y_Labels_rangeAround prog_4_method_7_code 5 (some .int)) ∈ AW := aw_t 528 rfl rfl
set_option maxRecDepth 20000 in
theorem aw529 : (Cond.methodLink "PageTree$Labels" 39 y_Labels_writeDigits) ∈ AW := aw_t 529 rfl rfl
set_option maxRecDepth 20000 in
theorem aw531 : (Cond.instanceMethod y_Labels_writeDigits) ∈ AW := aw_t 531 rfl rfl
set_option maxRecDepth 20000 in
theorem aw532 : (Cond.code y_Labels_writeDigits prog_4_method_9_code 3 none) ∈ AW := aw_t 532 rfl rfl
set_option maxRecDepth 20000 in
theorem aw533 : (Cond.methodLink "PageTree$Labels" 53 y_Labels_writeSign) ∈ AW := aw_t 533 rfl rfl
set_option maxRecDepth 20000 in
theorem aw535 : (Cond.instanceMethod y_Labels_writeSign) ∈ AW := aw_t 535 rfl rfl
set_option maxRecDepth 20000 in
theorem aw536 : (Cond.code y_Labels_writeSign prog_4_method_14_code 2 none) ∈ AW := aw_t 536 rfl rfl
set_option maxRecDepth 20000 in
theorem aw537 : (Cond.methodLink "PageTree$Labels" 43 y_Labels_write) ∈ AW := aw_t 537 rfl rfl
set_option maxRecDepth 20000 in
theorem aw539 : (Cond.instanceMethod y_Labels_write) ∈ AW := aw_t 539 rfl rfl
set_option maxRecDepth 20000 in
theorem aw540 : (Cond.code y_Labels_write prog_4_method_8_code 3 none) ∈ AW := aw_t 540 rfl rfl
set_option maxRecDepth 20000 in
theorem aw541 : (Cond.methodLink "PageTree$Labels" 47 y_Labels_writeRoman) ∈ AW := aw_t 541 rfl rfl
set_option maxRecDepth 20000 in
theorem aw543 : (Cond.instanceMethod y_Labels_writeRoman) ∈ AW := aw_t 543 rfl rfl
set_option maxRecDepth 20000 in
theorem aw544 : (Cond.code y_Labels_writeRoman prog_4_method_10_code 7 none) ∈ AW := aw_t 544 rfl rfl
set_option maxRecDepth 20000 in
theorem aw545 : (Cond.fieldLink "PageTree$Labels" 57 "PageTree$Labels" "ROMAN_VALUES" "[I") ∈ AW := aw_t 545 rfl rfl
set_option maxRecDepth 20000 in
theorem aw547 : (Cond.methodLink "PageTree$Labels" 60 y_Labels_romanSigns) ∈ AW := aw_t 547 rfl rfl
set_option maxRecDepth 20000 in
theorem aw548 : (Cond.static y_Labels_romanSigns) ∈ AW := aw_t 548 rfl rfl
set_option maxRecDepth 20000 in
theorem aw549 : (Cond.code y_Labels_romanSigns prog_4_method_11_code 1 (some (.object "java/lang/String"))) ∈ AW := aw_t 549 rfl rfl
set_option maxRecDepth 20000 in
theorem aw563 : (Cond.methodLink "PageTree$Labels" 64 y_Labels_writeSigns) ∈ AW := aw_t 563 rfl rfl
set_option maxRecDepth 20000 in
theorem aw565 : (Cond.instanceMethod y_Labels_writeSigns) ∈ AW := aw_t 565 rfl rfl
set_option maxRecDepth 20000 in
theorem aw566 : (Cond.code y_Labels_writeSigns prog_4_method_13_code 3 none) ∈ AW := aw_t 566 rfl rfl
set_option maxRecDepth 20000 in
theorem aw567 : (Cond.methodLink "PageTree$Labels" 94 y_Str_length) ∈ AW := aw_t 567 rfl rfl
set_option maxRecDepth 20000 in
theorem aw568 : (Cond.instanceMethod y_Str_length) ∈ AW := aw_t 568 rfl rfl
set_option maxRecDepth 20000 in
theorem aw569 : (Cond.selects "java/lang/String" y_Str_length y_Str_length) ∈ AW := aw_t 569 rfl rfl
set_option maxRecDepth 20000 in
theorem aw570 : (Cond.code y_Str_length prog_12_method_54_code 1 (some .int)) ∈ AW := aw_t 570 rfl rfl
set_option maxRecDepth 20000 in
theorem aw571 : (Cond.methodLink "java/lang/String" 335 y_Str_coder) ∈ AW := aw_t 571 rfl rfl
set_option maxRecDepth 20000 in
theorem aw572 : (Cond.instanceMethod y_Str_coder) ∈ AW := aw_t 572 rfl rfl
set_option maxRecDepth 20000 in
theorem aw573 : (Cond.selects "java/lang/String" y_Str_coder y_Str_coder) ∈ AW := aw_t 573 rfl rfl
set_option maxRecDepth 20000 in
theorem aw574 : (Cond.code y_Str_coder prog_12_method_152_code 1 (some .byte)) ∈ AW := aw_t 574 rfl rfl
set_option maxRecDepth 20000 in
theorem aw575 : (Cond.fieldLink "java/lang/String" 38 "java/lang/String" "COMPACT_STRINGS" "Z") ∈ AW := aw_t 575 rfl rfl
set_option maxRecDepth 20000 in
theorem aw577 : (Cond.methodLink "PageTree$Labels" 100 y_Str_charAt) ∈ AW := aw_t 577 rfl rfl
set_option maxRecDepth 20000 in
theorem aw578 : (Cond.instanceMethod y_Str_charAt) ∈ AW := aw_t 578 rfl rfl
set_option maxRecDepth 20000 in
theorem aw579 : (Cond.selects "java/lang/String" y_Str_charAt y_Str_charAt) ∈ AW := aw_t 579 rfl rfl
set_option maxRecDepth 20000 in
theorem aw580 : (Cond.code y_Str_charAt prog_12_method_56_code 2 (some .char)) ∈ AW := aw_t 580 rfl rfl
set_option maxRecDepth 20000 in
theorem aw581 : (Cond.methodLink "java/lang/String" 492 y_Str_isLatin1) ∈ AW := aw_t 581 rfl rfl
set_option maxRecDepth 20000 in
theorem aw582 : (Cond.instanceMethod y_Str_isLatin1) ∈ AW := aw_t 582 rfl rfl
set_option maxRecDepth 20000 in
theorem aw583 : (Cond.selects "java/lang/String" y_Str_isLatin1 y_Str_isLatin1) ∈ AW := aw_t 583 rfl rfl
set_option maxRecDepth 20000 in
theorem aw584 : (Cond.code y_Str_isLatin1 prog_12_method_154_code 1 (some .boolean)) ∈ AW := aw_t 584 rfl rfl
set_option maxRecDepth 20000 in
theorem aw585 : (Cond.methodLink "java/lang/String" 495 y_StrL_charAt) ∈ AW := aw_t 585 rfl rfl
set_option maxRecDepth 20000 in
theorem aw586 : (Cond.static y_StrL_charAt) ∈ AW := aw_t 586 rfl rfl
set_option maxRecDepth 20000 in
theorem aw587 : (Cond.code y_StrL_charAt prog_13_method_2_code 2 (some .char)) ∈ AW := aw_t 587 rfl rfl
set_option maxRecDepth 20000 in
theorem aw588 : (Cond.methodLink "java/lang/StringLatin1" 9 y_Str_checkIndex) ∈ AW := aw_t 588 rfl rfl
set_option maxRecDepth 20000 in
theorem aw589 : (Cond.static y_Str_checkIndex) ∈ AW := aw_t 589 rfl rfl
set_option maxRecDepth 20000 in
theorem aw590 : (Cond.code y_Str_checkIndex prog_12_method_155_code 2 none) ∈ AW := aw_t 590 rfl rfl
set_option maxRecDepth 20000 in
theorem aw591 : (Cond.fieldLink "java/lang/String" 1053 "jdk/internal/util/Preconditions" "SIOOBE_FORMATTER" "Ljava/util/function/BiFunction;") ∈ AW := aw_t 591 rfl rfl
set_option maxRecDepth 20000 in
theorem aw593 : (Cond.methodLink "java/lang/String" 1059 y_Prec_checkIndex) ∈ AW := aw_t 593 rfl rfl
set_option maxRecDepth 20000 in
theorem aw594 : (Cond.static y_Prec_checkIndex) ∈ AW := aw_t 594 rfl rfl
set_option maxRecDepth 20000 in
theorem aw595 : (Cond.code y_Prec_checkIndex prog_16_method_11_code 3 (some .int)) ∈ AW := aw_t 595 rfl rfl
set_option maxRecDepth 20000 in
theorem aw615 : (Cond.methodLink "PageTree$Labels" 50 y_Labels_writeLetters) ∈ AW := aw_t 615 rfl rfl
set_option maxRecDepth 20000 in
theorem aw617 : (Cond.instanceMethod y_Labels_writeLetters) ∈ AW := aw_t 617 rfl rfl
set_option maxRecDepth 20000 in
theorem aw618 : (Cond.code y_Labels_writeLetters prog_4_method_12_code 6 none) ∈ AW := aw_t 618 rfl rfl
set_option maxRecDepth 20000 in
theorem aw620 : (Cond.methodLink "PageTreeLaw" 81 y_PT_name) ∈ AW := aw_t 620 rfl rfl
set_option maxRecDepth 20000 in
theorem aw621 : (Cond.instanceMethod y_PT_name) ∈ AW := aw_t 621 rfl rfl
set_option maxRecDepth 20000 in
theorem aw622 : (Cond.selects "PageTree" y_PT_name y_PT_name) ∈ AW := aw_t 622 rfl rfl
set_option maxRecDepth 20000 in
theorem aw623 : (Cond.code y_PT_name prog_1_method_20_code 3 (some .int)) ∈ AW := aw_t 623 rfl rfl
set_option maxRecDepth 20000 in
theorem aw624 : (Cond.methodLink "PageTree" 160 y_Names_isName) ∈ AW := aw_t 624 rfl rfl
set_option maxRecDepth 20000 in
theorem aw625 : (Cond.static y_Names_isName) ∈ AW := aw_t 625 rfl rfl
set_option maxRecDepth 20000 in
theorem aw626 : (Cond.code y_Names_isName prog_6_method_2_code 1 (some .boolean)) ∈ AW := aw_t 626 rfl rfl
set_option maxRecDepth 20000 in
theorem aw627 : (Cond.methodLink "PageTree" 163 y_Names_pageOf) ∈ AW := aw_t 627 rfl rfl
set_option maxRecDepth 20000 in
theorem aw628 : (Cond.instanceMethod y_Names_pageOf) ∈ AW := aw_t 628 rfl rfl
set_option maxRecDepth 20000 in
theorem aw629 : (Cond.selects "PageTree$Names" y_Names_pageOf y_Names_pageOf) ∈ AW := aw_t 629 rfl rfl
set_option maxRecDepth 20000 in
theorem aw630 : (Cond.code y_Names_pageOf prog_6_method_4_code 3 (some .int)) ∈ AW := aw_t 630 rfl rfl
set_option maxRecDepth 20000 in
theorem aw631 : (Cond.methodLink "PageTree" 166 y_Names_add) ∈ AW := aw_t 631 rfl rfl
set_option maxRecDepth 20000 in
theorem aw632 : (Cond.instanceMethod y_Names_add) ∈ AW := aw_t 632 rfl rfl
set_option maxRecDepth 20000 in
theorem aw633 : (Cond.selects "PageTree$Names" y_Names_add y_Names_add) ∈ AW := aw_t 633 rfl rfl
set_option maxRecDepth 20000 in
theorem aw634 : (Cond.code y_Names_add prog_6_method_5_code 3 (some .boolean)) ∈ AW := aw_t 634 rfl rfl
set_option maxRecDepth 20000 in
theorem aw635 : (Cond.methodLink "PageTree" 169 y_Names_size) ∈ AW := aw_t 635 rfl rfl
set_option maxRecDepth 20000 in
theorem aw636 : (Cond.instanceMethod y_Names_size) ∈ AW := aw_t 636 rfl rfl
set_option maxRecDepth 20000 in
theorem aw637 : (Cond.selects "PageTree$Names" y_Names_size y_Names_size) ∈ AW := aw_t 637 rfl rfl
set_option maxRecDepth 20000 in
theorem aw638 : (Cond.code y_Names_size prog_6_method_3_code 1 (some .int)) ∈ AW := aw_t 638 rfl rfl
set_option maxRecDepth 20000 in
theorem aw639 : (Cond.methodLink "PageTreeLaw" 85 y_PT_look) ∈ AW := aw_t 639 rfl rfl
set_option maxRecDepth 20000 in
theorem aw640 : (Cond.instanceMethod y_PT_look) ∈ AW := aw_t 640 rfl rfl
set_option maxRecDepth 20000 in
theorem aw641 : (Cond.selects "PageTree" y_PT_look y_PT_look) ∈ AW := aw_t 641 rfl rfl
set_option maxRecDepth 20000 in
theorem aw642 : (Cond.code y_PT_look prog_1_method_21_code 2 (some .int)) ∈ AW := aw_t 642 rfl rfl
set_option maxRecDepth 20000 in
theorem aw643 : (Cond.methodLink "PageTreeLaw" 89 y_PT_balance) ∈ AW := aw_t 643 rfl rfl
set_option maxRecDepth 20000 in
theorem aw644 : (Cond.instanceMethod y_PT_balance) ∈ AW := aw_t 644 rfl rfl
set_option maxRecDepth 20000 in
theorem aw645 : (Cond.selects "PageTree" y_PT_balance y_PT_balance) ∈ AW := aw_t 645 rfl rfl
set_option maxRecDepth 20000 in
theorem aw646 : (Cond.code y_PT_balance prog_1_method_22_code 3 (some .int)) ∈ AW := aw_t 646 rfl rfl
set_option maxRecDepth 20000 in
theorem aw647 : (Cond.methodLink "PageTree" 170 y_Bal_nodesFor) ∈ AW := aw_t 647 rfl rfl
set_option maxRecDepth 20000 in
theorem aw648 : (Cond.static y_Bal_nodesFor) ∈ AW := aw_t 648 rfl rfl
set_option maxRecDepth 20000 in
theorem aw649 : (Cond.code y_Bal_nodesFor prog_2_method_2_code 4 (some .int)) ∈ AW := aw_t 649 rfl rfl
set_option maxRecDepth 20000 in
theorem aw650 : (Cond.methodLink "PageTree" 173 y_Order_takenPages) ∈ AW := aw_t 650 rfl rfl
set_option maxRecDepth 20000 in
theorem aw651 : (Cond.instanceMethod y_Order_takenPages) ∈ AW := aw_t 651 rfl rfl
set_option maxRecDepth 20000 in
theorem aw652 : (Cond.selects "PageTree$Order" y_Order_takenPages y_Order_takenPages) ∈ AW := aw_t 652 rfl rfl
set_option maxRecDepth 20000 in
theorem aw653 : (Cond.code y_Order_takenPages prog_7_method_6_code 1 (some (.array .int))) ∈ AW := aw_t 653 rfl rfl
set_option maxRecDepth 20000 in
theorem aw654 : (Cond.methodLink "PageTree" 177 y_Bal_build) ∈ AW := aw_t 654 rfl rfl
set_option maxRecDepth 20000 in
theorem aw655 : (Cond.instanceMethod y_Bal_build) ∈ AW := aw_t 655 rfl rfl
set_option maxRecDepth 20000 in
theorem aw656 : (Cond.selects "PageTree$Balancer" y_Bal_build y_Bal_build) ∈ AW := aw_t 656 rfl rfl
set_option maxRecDepth 20000 in
theorem aw657 : (Cond.code y_Bal_build prog_2_method_3_code 4 none) ∈ AW := aw_t 657 rfl rfl
set_option maxRecDepth 20000 in
theorem aw658 : (Cond.methodLink "PageTree$Balancer" 19 y_Math_min) ∈ AW := aw_t 658 rfl rfl
set_option maxRecDepth 20000 in
theorem aw659 : (Cond.static y_Math_min) ∈ AW := aw_t 659 rfl rfl
set_option maxRecDepth 20000 in
theorem aw660 : (Cond.code y_Math_min prog_11_method_69_code 2 (some .int)) ∈ AW := aw_t 660 rfl rfl
set_option maxRecDepth 20000 in
theorem aw661 : (Cond.methodLink "PageTree$Balancer" 29 y_Items_ownValuesOf) ∈ AW := aw_t 661 rfl rfl
set_option maxRecDepth 20000 in
theorem aw662 : (Cond.methodLink "PageTree$Balancer" 35 y_Items_loosenAll) ∈ AW := aw_t 662 rfl rfl
set_option maxRecDepth 20000 in
theorem aw663 : (Cond.instanceMethod y_Items_loosenAll) ∈ AW := aw_t 663 rfl rfl
set_option maxRecDepth 20000 in
theorem aw664 : (Cond.selects "PageTree$Items" y_Items_loosenAll y_Items_loosenAll) ∈ AW := aw_t 664 rfl rfl
set_option maxRecDepth 20000 in
theorem aw665 : (Cond.code y_Items_loosenAll prog_3_method_24_code 2 none) ∈ AW := aw_t 665 rfl rfl
set_option maxRecDepth 20000 in
theorem aw666 : (Cond.methodLink "PageTree$Balancer" 38 y_Bal_raiseRow) ∈ AW := aw_t 666 rfl rfl
set_option maxRecDepth 20000 in
theorem aw668 : (Cond.instanceMethod y_Bal_raiseRow) ∈ AW := aw_t 668 rfl rfl
set_option maxRecDepth 20000 in
theorem aw669 : (Cond.code y_Bal_raiseRow prog_2_method_4_code 4 none) ∈ AW := aw_t 669 rfl rfl
set_option maxRecDepth 20000 in
theorem aw670 : (Cond.methodLink "PageTree$Balancer" 45 y_Items_add) ∈ AW := aw_t 670 rfl rfl
set_option maxRecDepth 20000 in
theorem aw671 : (Cond.methodLink "PageTree$Balancer" 41 y_Bal_hang) ∈ AW := aw_t 671 rfl rfl
set_option maxRecDepth 20000 in
theorem aw673 : (Cond.instanceMethod y_Bal_hang) ∈ AW := aw_t 673 rfl rfl
set_option maxRecDepth 20000 in
theorem aw674 : (Cond.code y_Bal_hang prog_2_method_5_code 7 none) ∈ AW := aw_t 674 rfl rfl
set_option maxRecDepth 20000 in
theorem aw675 : (Cond.methodLink "PageTree$Balancer" 49 y_Items_appendKid) ∈ AW := aw_t 675 rfl rfl
set_option maxRecDepth 20000 in
theorem aw676 : (Cond.methodLink "PageTree$Balancer" 52 y_Items_setParent) ∈ AW := aw_t 676 rfl rfl
set_option maxRecDepth 20000 in
theorem aw677 : (Cond.methodLink "PageTree$Balancer" 55 y_Items_isPage) ∈ AW := aw_t 677 rfl rfl
set_option maxRecDepth 20000 in
theorem aw678 : (Cond.methodLink "PageTree$Balancer" 59 y_Items_countOf) ∈ AW := aw_t 678 rfl rfl
set_option maxRecDepth 20000 in
theorem aw679 : (Cond.methodLink "PageTree$Balancer" 63 y_Items_setCount) ∈ AW := aw_t 679 rfl rfl
set_option maxRecDepth 20000 in
theorem aw680 : (Cond.methodLink "PageTreeLaw" 93 y_PT_count) ∈ AW := aw_t 680 rfl rfl
set_option maxRecDepth 20000 in
theorem aw681 : (Cond.instanceMethod y_PT_count) ∈ AW := aw_t 681 rfl rfl
set_option maxRecDepth 20000 in
theorem aw682 : (Cond.selects "PageTree" y_PT_count y_PT_count) ∈ AW := aw_t 682 rfl rfl
set_option maxRecDepth 20000 in
theorem aw683 : (Cond.code y_PT_count prog_1_method_23_code 2 (some .int)) ∈ AW := aw_t 683 rfl rfl
set_option maxRecDepth 20000 in
theorem aw684 : (Cond.classLink "PageTreeLaw" 10 "PageTreeModel") ∈ AW := aw_t 684 rfl rfl
set_option maxRecDepth 20000 in
theorem aw685 : (Cond.instantiable "PageTreeModel" 30) ∈ AW := aw_t 685 rfl rfl
set_option maxRecDepth 20000 in
theorem aw686 : (Cond.methodLink "PageTreeLaw" 12 y_Md_init) ∈ AW := aw_t 686 rfl rfl
set_option maxRecDepth 20000 in
theorem aw687 : (Cond.instanceMethod y_Md_init) ∈ AW := aw_t 687 rfl rfl
set_option maxRecDepth 20000 in
theorem aw688 : (Cond.code y_Md_init prog_10_method_1_code 1 none) ∈ AW := aw_t 688 rfl rfl
set_option maxRecDepth 20000 in
theorem aw689 : (Cond.methodLink "PageTreeModel" 1 objectInit) ∈ AW := aw_t 689 rfl rfl
set_option maxRecDepth 20000 in
theorem aw690 : (Cond.fieldLink "PageTreeModel" 77 "PageTreeModel" "items" "I") ∈ AW := aw_t 690 rfl rfl
set_option maxRecDepth 20000 in
theorem aw691 : (Cond.fieldLink "PageTreeModel" 7 "PageTreeModel" "isPage" "[Z") ∈ AW := aw_t 691 rfl rfl
set_option maxRecDepth 20000 in
theorem aw692 : (Cond.fieldLink "PageTreeModel" 13 "PageTreeModel" "parents" "[I") ∈ AW := aw_t 692 rfl rfl
set_option maxRecDepth 20000 in
theorem aw693 : (Cond.fieldLink "PageTreeModel" 17 "PageTreeModel" "counts" "[I") ∈ AW := aw_t 693 rfl rfl
set_option maxRecDepth 20000 in
theorem aw694 : (Cond.fieldLink "PageTreeModel" 20 "PageTreeModel" "kidCounts" "[I") ∈ AW := aw_t 694 rfl rfl
set_option maxRecDepth 20000 in
theorem aw695 : (Cond.fieldLink "PageTreeModel" 23 "PageTreeModel" "kids" "[I") ∈ AW := aw_t 695 rfl rfl
set_option maxRecDepth 20000 in
theorem aw696 : (Cond.fieldLink "PageTreeModel" 26 "PageTreeModel" "values" "[I") ∈ AW := aw_t 696 rfl rfl
set_option maxRecDepth 20000 in
theorem aw697 : (Cond.fieldLink "PageTreeModel" 108 "PageTreeModel" "deep" "I") ∈ AW := aw_t 697 rfl rfl
set_option maxRecDepth 20000 in
theorem aw698 : (Cond.fieldLink "PageTreeModel" 29 "PageTreeModel" "way" "[I") ∈ AW := aw_t 698 rfl rfl
set_option maxRecDepth 20000 in
theorem aw699 : (Cond.fieldLink "PageTreeModel" 32 "PageTreeModel" "nextKid" "[I") ∈ AW := aw_t 699 rfl rfl
set_option maxRecDepth 20000 in
theorem aw700 : (Cond.fieldLink "PageTreeModel" 35 "PageTreeModel" "isMet" "[Z") ∈ AW := aw_t 700 rfl rfl
set_option maxRecDepth 20000 in
theorem aw701 : (Cond.fieldLink "PageTreeModel" 105 "PageTreeModel" "taken" "I") ∈ AW := aw_t 701 rfl rfl
set_option maxRecDepth 20000 in
theorem aw702 : (Cond.fieldLink "PageTreeModel" 38 "PageTreeModel" "order" "[I") ∈ AW := aw_t 702 rfl rfl
set_option maxRecDepth 20000 in
theorem aw703 : (Cond.fieldLink "PageTreeModel" 41 "PageTreeModel" "byNode" "[I") ∈ AW := aw_t 703 rfl rfl
set_option maxRecDepth 20000 in
theorem aw704 : (Cond.fieldLink "PageTreeModel" 44 "PageTreeModel" "byIndex" "[I") ∈ AW := aw_t 704 rfl rfl
set_option maxRecDepth 20000 in
theorem aw705 : (Cond.fieldLink "PageTreeModel" 47 "PageTreeModel" "below" "[I") ∈ AW := aw_t 705 rfl rfl
set_option maxRecDepth 20000 in
theorem aw706 : (Cond.fieldLink "PageTreeModel" 131 "PageTreeModel" "tolds" "I") ∈ AW := aw_t 706 rfl rfl
set_option maxRecDepth 20000 in
theorem aw707 : (Cond.fieldLink "PageTreeModel" 50 "PageTreeModel" "toldWhat" "[I") ∈ AW := aw_t 707 rfl rfl
set_option maxRecDepth 20000 in
theorem aw708 : (Cond.fieldLink "PageTreeModel" 53 "PageTreeModel" "toldItem" "[I") ∈ AW := aw_t 708 rfl rfl
set_option maxRecDepth 20000 in
theorem aw709 : (Cond.fieldLink "PageTreeModel" 163 "PageTreeModel" "ranges" "I") ∈ AW := aw_t 709 rfl rfl
set_option maxRecDepth 20000 in
theorem aw710 : (Cond.fieldLink "PageTreeModel" 56 "PageTreeModel" "rangeFrom" "[I") ∈ AW := aw_t 710 rfl rfl
set_option maxRecDepth 20000 in
theorem aw711 : (Cond.fieldLink "PageTreeModel" 59 "PageTreeModel" "rangeStyle" "[I") ∈ AW := aw_t 711 rfl rfl
set_option maxRecDepth 20000 in
theorem aw712 : (Cond.fieldLink "PageTreeModel" 62 "PageTreeModel" "rangeFirst" "[I") ∈ AW := aw_t 712 rfl rfl
set_option maxRecDepth 20000 in
theorem aw713 : (Cond.fieldLink "PageTreeModel" 160 "PageTreeModel" "names" "I") ∈ AW := aw_t 713 rfl rfl
set_option maxRecDepth 20000 in
theorem aw714 : (Cond.fieldLink "PageTreeModel" 65 "PageTreeModel" "nameKeys" "[I") ∈ AW := aw_t 714 rfl rfl
set_option maxRecDepth 20000 in
theorem aw715 : (Cond.fieldLink "PageTreeModel" 68 "PageTreeModel" "namePages" "[I") ∈ AW := aw_t 715 rfl rfl
set_option maxRecDepth 20000 in
theorem aw716 : (Cond.fieldLink "PageTreeModel" 166 "PageTreeModel" "signs" "I") ∈ AW := aw_t 716 rfl rfl
set_option maxRecDepth 20000 in
theorem aw717 : (Cond.fieldLink "PageTreeModel" 71 "PageTreeModel" "sign" "[I") ∈ AW := aw_t 717 rfl rfl
set_option maxRecDepth 20000 in
theorem aw718 : (Cond.fieldLink "PageTreeModel" 191 "PageTreeModel" "flat" "I") ∈ AW := aw_t 718 rfl rfl
set_option maxRecDepth 20000 in
theorem aw719 : (Cond.fieldLink "PageTreeModel" 74 "PageTreeModel" "flatKids" "[I") ∈ AW := aw_t 719 rfl rfl
set_option maxRecDepth 20000 in
theorem aw720 : (Cond.lays "PageTreeModel" "PageTreeModel" "items" "I") ∈ AW := aw_t 720 rfl rfl
set_option maxRecDepth 20000 in
theorem aw722 : (Cond.laysFinal "PageTreeModel" "PageTreeModel" "isPage" "[Z") ∈ AW := aw_t 722 rfl rfl
set_option maxRecDepth 20000 in
theorem aw724 : (Cond.laysFinal "PageTreeModel" "PageTreeModel" "parents" "[I") ∈ AW := aw_t 724 rfl rfl
set_option maxRecDepth 20000 in
theorem aw726 : (Cond.laysFinal "PageTreeModel" "PageTreeModel" "counts" "[I") ∈ AW := aw_t 726 rfl rfl
set_option maxRecDepth 20000 in
theorem aw728 : (Cond.laysFinal "PageTreeModel" "PageTreeModel" "kidCounts" "[I") ∈ AW := aw_t 728 rfl rfl
set_option maxRecDepth 20000 in
theorem aw730 : (Cond.laysFinal "PageTreeModel" "PageTreeModel" "kids" "[I") ∈ AW := aw_t 730 rfl rfl
set_option maxRecDepth 20000 in
theorem aw732 : (Cond.laysFinal "PageTreeModel" "PageTreeModel" "values" "[I") ∈ AW := aw_t 732 rfl rfl
set_option maxRecDepth 20000 in
theorem aw734 : (Cond.lays "PageTreeModel" "PageTreeModel" "deep" "I") ∈ AW := aw_t 734 rfl rfl
set_option maxRecDepth 20000 in
theorem aw736 : (Cond.laysFinal "PageTreeModel" "PageTreeModel" "way" "[I") ∈ AW := aw_t 736 rfl rfl
set_option maxRecDepth 20000 in
theorem aw738 : (Cond.laysFinal "PageTreeModel" "PageTreeModel" "nextKid" "[I") ∈ AW := aw_t 738 rfl rfl
set_option maxRecDepth 20000 in
theorem aw740 : (Cond.laysFinal "PageTreeModel" "PageTreeModel" "isMet" "[Z") ∈ AW := aw_t 740 rfl rfl
set_option maxRecDepth 20000 in
theorem aw742 : (Cond.lays "PageTreeModel" "PageTreeModel" "taken" "I") ∈ AW := aw_t 742 rfl rfl
set_option maxRecDepth 20000 in
theorem aw744 : (Cond.laysFinal "PageTreeModel" "PageTreeModel" "order" "[I") ∈ AW := aw_t 744 rfl rfl
set_option maxRecDepth 20000 in
theorem aw746 : (Cond.laysFinal "PageTreeModel" "PageTreeModel" "byNode" "[I") ∈ AW := aw_t 746 rfl rfl
set_option maxRecDepth 20000 in
theorem aw748 : (Cond.laysFinal "PageTreeModel" "PageTreeModel" "byIndex" "[I") ∈ AW := aw_t 748 rfl rfl
set_option maxRecDepth 20000 in
theorem aw750 : (Cond.laysFinal "PageTreeModel" "PageTreeModel" "below" "[I") ∈ AW := aw_t 750 rfl rfl
set_option maxRecDepth 20000 in
theorem aw752 : (Cond.lays "PageTreeModel" "PageTreeModel" "tolds" "I") ∈ AW := aw_t 752 rfl rfl
set_option maxRecDepth 20000 in
theorem aw754 : (Cond.laysFinal "PageTreeModel" "PageTreeModel" "toldWhat" "[I") ∈ AW := aw_t 754 rfl rfl
set_option maxRecDepth 20000 in
theorem aw756 : (Cond.laysFinal "PageTreeModel" "PageTreeModel" "toldItem" "[I") ∈ AW := aw_t 756 rfl rfl
set_option maxRecDepth 20000 in
theorem aw758 : (Cond.lays "PageTreeModel" "PageTreeModel" "ranges" "I") ∈ AW := aw_t 758 rfl rfl
set_option maxRecDepth 20000 in
theorem aw760 : (Cond.laysFinal "PageTreeModel" "PageTreeModel" "rangeFrom" "[I") ∈ AW := aw_t 760 rfl rfl
set_option maxRecDepth 20000 in
theorem aw762 : (Cond.laysFinal "PageTreeModel" "PageTreeModel" "rangeStyle" "[I") ∈ AW := aw_t 762 rfl rfl
set_option maxRecDepth 20000 in
theorem aw764 : (Cond.laysFinal "PageTreeModel" "PageTreeModel" "rangeFirst" "[I") ∈ AW := aw_t 764 rfl rfl
set_option maxRecDepth 20000 in
theorem aw766 : (Cond.lays "PageTreeModel" "PageTreeModel" "names" "I") ∈ AW := aw_t 766 rfl rfl
set_option maxRecDepth 20000 in
theorem aw768 : (Cond.laysFinal "PageTreeModel" "PageTreeModel" "nameKeys" "[I") ∈ AW := aw_t 768 rfl rfl
set_option maxRecDepth 20000 in
theorem aw770 : (Cond.laysFinal "PageTreeModel" "PageTreeModel" "namePages" "[I") ∈ AW := aw_t 770 rfl rfl
set_option maxRecDepth 20000 in
theorem aw772 : (Cond.lays "PageTreeModel" "PageTreeModel" "signs" "I") ∈ AW := aw_t 772 rfl rfl
set_option maxRecDepth 20000 in
theorem aw774 : (Cond.laysFinal "PageTreeModel" "PageTreeModel" "sign" "[I") ∈ AW := aw_t 774 rfl rfl
set_option maxRecDepth 20000 in
theorem aw776 : (Cond.lays "PageTreeModel" "PageTreeModel" "flat" "I") ∈ AW := aw_t 776 rfl rfl
set_option maxRecDepth 20000 in
theorem aw778 : (Cond.laysFinal "PageTreeModel" "PageTreeModel" "flatKids" "[I") ∈ AW := aw_t 778 rfl rfl
set_option maxRecDepth 20000 in
theorem aw781 : (Cond.methodLink "PageTreeLaw" 17 y_Md_node) ∈ AW := aw_t 781 rfl rfl
set_option maxRecDepth 20000 in
theorem aw782 : (Cond.instanceMethod y_Md_node) ∈ AW := aw_t 782 rfl rfl
set_option maxRecDepth 20000 in
theorem aw783 : (Cond.selects "PageTreeModel" y_Md_node y_Md_node) ∈ AW := aw_t 783 rfl rfl
set_option maxRecDepth 20000 in
theorem aw784 : (Cond.code y_Md_node prog_10_method_8_code 5 (some .int)) ∈ AW := aw_t 784 rfl rfl
set_option maxRecDepth 20000 in
theorem aw785 : (Cond.methodLink "PageTreeModel" 85 y_Md_isNode) ∈ AW := aw_t 785 rfl rfl
set_option maxRecDepth 20000 in
theorem aw787 : (Cond.instanceMethod y_Md_isNode) ∈ AW := aw_t 787 rfl rfl
set_option maxRecDepth 20000 in
theorem aw788 : (Cond.code y_Md_isNode prog_10_method_4_code 2 (some .boolean)) ∈ AW := aw_t 788 rfl rfl
set_option maxRecDepth 20000 in
theorem aw789 : (Cond.methodLink "PageTreeModel" 81 y_Md_isItem) ∈ AW := aw_t 789 rfl rfl
set_option maxRecDepth 20000 in
theorem aw791 : (Cond.instanceMethod y_Md_isItem) ∈ AW := aw_t 791 rfl rfl
set_option maxRecDepth 20000 in
theorem aw792 : (Cond.code y_Md_isItem prog_10_method_3_code 2 (some .boolean)) ∈ AW := aw_t 792 rfl rfl
set_option maxRecDepth 20000 in
theorem aw793 : (Cond.methodLink "PageTreeModel" 88 y_Md_made) ∈ AW := aw_t 793 rfl rfl
set_option maxRecDepth 20000 in
theorem aw795 : (Cond.instanceMethod y_Md_made) ∈ AW := aw_t 795 rfl rfl
set_option maxRecDepth 20000 in
theorem aw796 : (Cond.code y_Md_made prog_10_method_6_code 5 (some .int)) ∈ AW := aw_t 796 rfl rfl
set_option maxRecDepth 20000 in
theorem aw797 : (Cond.methodLink "PageTreeModel" 92 y_Md_append) ∈ AW := aw_t 797 rfl rfl
set_option maxRecDepth 20000 in
theorem aw799 : (Cond.instanceMethod y_Md_append) ∈ AW := aw_t 799 rfl rfl
set_option maxRecDepth 20000 in
theorem aw800 : (Cond.code y_Md_append prog_10_method_7_code 3 none) ∈ AW := aw_t 800 rfl rfl
set_option maxRecDepth 20000 in
theorem aw801 : (Cond.methodLink "PageTreeLaw" 22 y_Md_page) ∈ AW := aw_t 801 rfl rfl
set_option maxRecDepth 20000 in
theorem aw802 : (Cond.instanceMethod y_Md_page) ∈ AW := aw_t 802 rfl rfl
set_option maxRecDepth 20000 in
theorem aw803 : (Cond.selects "PageTreeModel" y_Md_page y_Md_page) ∈ AW := aw_t 803 rfl rfl
set_option maxRecDepth 20000 in
theorem aw804 : (Cond.code y_Md_page prog_10_method_9_code 3 (some .int)) ∈ AW := aw_t 804 rfl rfl
set_option maxRecDepth 20000 in
theorem aw805 : (Cond.methodLink "PageTreeLaw" 26 y_Md_list) ∈ AW := aw_t 805 rfl rfl
set_option maxRecDepth 20000 in
theorem aw806 : (Cond.instanceMethod y_Md_list) ∈ AW := aw_t 806 rfl rfl
set_option maxRecDepth 20000 in
theorem aw807 : (Cond.selects "PageTreeModel" y_Md_list y_Md_list) ∈ AW := aw_t 807 rfl rfl
set_option maxRecDepth 20000 in
theorem aw808 : (Cond.code y_Md_list prog_10_method_10_code 3 (some .int)) ∈ AW := aw_t 808 rfl rfl
set_option maxRecDepth 20000 in
theorem aw809 : (Cond.methodLink "PageTreeLaw" 31 y_Md_inherit) ∈ AW := aw_t 809 rfl rfl
set_option maxRecDepth 20000 in
theorem aw810 : (Cond.instanceMethod y_Md_inherit) ∈ AW := aw_t 810 rfl rfl
set_option maxRecDepth 20000 in
theorem aw811 : (Cond.selects "PageTreeModel" y_Md_inherit y_Md_inherit) ∈ AW := aw_t 811 rfl rfl
set_option maxRecDepth 20000 in
theorem aw812 : (Cond.code y_Md_inherit prog_10_method_11_code 4 (some .int)) ∈ AW := aw_t 812 rfl rfl
set_option maxRecDepth 20000 in
theorem aw813 : (Cond.methodLink "PageTreeModel" 96 y_Md_within) ∈ AW := aw_t 813 rfl rfl
set_option maxRecDepth 20000 in
theorem aw814 : (Cond.static y_Md_within) ∈ AW := aw_t 814 rfl rfl
set_option maxRecDepth 20000 in
theorem aw815 : (Cond.code y_Md_within prog_10_method_5_code 3 (some .boolean)) ∈ AW := aw_t 815 rfl rfl
set_option maxRecDepth 20000 in
theorem aw816 : (Cond.constant "PageTreeModel" 100 100000) ∈ AW := aw_t 816 rfl rfl
set_option maxRecDepth 20000 in
theorem aw817 : (Cond.methodLink "PageTreeLaw" 35 y_Md_of) ∈ AW := aw_t 817 rfl rfl
set_option maxRecDepth 20000 in
theorem aw818 : (Cond.instanceMethod y_Md_of) ∈ AW := aw_t 818 rfl rfl
set_option maxRecDepth 20000 in
theorem aw819 : (Cond.selects "PageTreeModel" y_Md_of y_Md_of) ∈ AW := aw_t 819 rfl rfl
set_option maxRecDepth 20000 in
theorem aw820 : (Cond.code y_Md_of prog_10_method_13_code 3 (some .int)) ∈ AW := aw_t 820 rfl rfl
set_option maxRecDepth 20000 in
theorem aw821 : (Cond.methodLink "PageTreeModel" 101 y_Md_valueOf) ∈ AW := aw_t 821 rfl rfl
set_option maxRecDepth 20000 in
theorem aw823 : (Cond.instanceMethod y_Md_valueOf) ∈ AW := aw_t 823 rfl rfl
set_option maxRecDepth 20000 in
theorem aw824 : (Cond.code y_Md_valueOf prog_10_method_12_code 5 (some .int)) ∈ AW := aw_t 824 rfl rfl
set_option maxRecDepth 20000 in
theorem aw825 : (Cond.methodLink "PageTreeLaw" 40 y_Md_pages) ∈ AW := aw_t 825 rfl rfl
set_option maxRecDepth 20000 in
theorem aw826 : (Cond.instanceMethod y_Md_pages) ∈ AW := aw_t 826 rfl rfl
set_option maxRecDepth 20000 in
theorem aw827 : (Cond.selects "PageTreeModel" y_Md_pages y_Md_pages) ∈ AW := aw_t 827 rfl rfl
set_option maxRecDepth 20000 in
theorem aw828 : (Cond.code y_Md_pages prog_10_method_20_code 1 (some .int)) ∈ AW := aw_t 828 rfl rfl
set_option maxRecDepth 20000 in
theorem aw829 : (Cond.methodLink "PageTreeModel" 124 y_Md_walk) ∈ AW := aw_t 829 rfl rfl
set_option maxRecDepth 20000 in
theorem aw831 : (Cond.instanceMethod y_Md_walk) ∈ AW := aw_t 831 rfl rfl
set_option maxRecDepth 20000 in
theorem aw832 : (Cond.code y_Md_walk prog_10_method_18_code 4 none) ∈ AW := aw_t 832 rfl rfl
set_option maxRecDepth 20000 in
theorem aw833 : (Cond.methodLink "PageTreeModel" 115 y_Md_begin) ∈ AW := aw_t 833 rfl rfl
set_option maxRecDepth 20000 in
theorem aw835 : (Cond.instanceMethod y_Md_begin) ∈ AW := aw_t 835 rfl rfl
set_option maxRecDepth 20000 in
theorem aw836 : (Cond.code y_Md_begin prog_10_method_14_code 2 none) ∈ AW := aw_t 836 rfl rfl
set_option maxRecDepth 20000 in
theorem aw837 : (Cond.methodLink "PageTreeModel" 111 y_Md_goInto) ∈ AW := aw_t 837 rfl rfl
set_option maxRecDepth 20000 in
theorem aw839 : (Cond.instanceMethod y_Md_goInto) ∈ AW := aw_t 839 rfl rfl
set_option maxRecDepth 20000 in
theorem aw840 : (Cond.code y_Md_goInto prog_10_method_15_code 2 none) ∈ AW := aw_t 840 rfl rfl
set_option maxRecDepth 20000 in
theorem aw841 : (Cond.methodLink "PageTreeModel" 118 y_Md_goUp) ∈ AW := aw_t 841 rfl rfl
set_option maxRecDepth 20000 in
theorem aw843 : (Cond.instanceMethod y_Md_goUp) ∈ AW := aw_t 843 rfl rfl
set_option maxRecDepth 20000 in
theorem aw844 : (Cond.code y_Md_goUp prog_10_method_17_code 1 none) ∈ AW := aw_t 844 rfl rfl
set_option maxRecDepth 20000 in
theorem aw845 : (Cond.methodLink "PageTreeModel" 121 y_Md_takePage) ∈ AW := aw_t 845 rfl rfl
set_option maxRecDepth 20000 in
theorem aw847 : (Cond.instanceMethod y_Md_takePage) ∈ AW := aw_t 847 rfl rfl
set_option maxRecDepth 20000 in
theorem aw848 : (Cond.code y_Md_takePage prog_10_method_16_code 2 none) ∈ AW := aw_t 848 rfl rfl
set_option maxRecDepth 20000 in
theorem aw849 : (Cond.methodLink "PageTreeLaw" 44 y_Md_at) ∈ AW := aw_t 849 rfl rfl
set_option maxRecDepth 20000 in
theorem aw850 : (Cond.instanceMethod y_Md_at) ∈ AW := aw_t 850 rfl rfl
set_option maxRecDepth 20000 in
theorem aw851 : (Cond.selects "PageTreeModel" y_Md_at y_Md_at) ∈ AW := aw_t 851 rfl rfl
set_option maxRecDepth 20000 in
theorem aw852 : (Cond.code y_Md_at prog_10_method_21_code 2 (some .int)) ∈ AW := aw_t 852 rfl rfl
set_option maxRecDepth 20000 in
theorem aw853 : (Cond.methodLink "PageTreeLaw" 48 y_Md_about) ∈ AW := aw_t 853 rfl rfl
set_option maxRecDepth 20000 in
theorem aw854 : (Cond.instanceMethod y_Md_about) ∈ AW := aw_t 854 rfl rfl
set_option maxRecDepth 20000 in
theorem aw855 : (Cond.selects "PageTreeModel" y_Md_about y_Md_about) ∈ AW := aw_t 855 rfl rfl
set_option maxRecDepth 20000 in
theorem aw856 : (Cond.code y_Md_about prog_10_method_22_code 3 (some .int)) ∈ AW := aw_t 856 rfl rfl
set_option maxRecDepth 20000 in
theorem aw857 : (Cond.methodLink "PageTreeModel" 127 y_Md_placeOf) ∈ AW := aw_t 857 rfl rfl
set_option maxRecDepth 20000 in
theorem aw859 : (Cond.instanceMethod y_Md_placeOf) ∈ AW := aw_t 859 rfl rfl
set_option maxRecDepth 20000 in
theorem aw860 : (Cond.code y_Md_placeOf prog_10_method_19_code 4 (some .int)) ∈ AW := aw_t 860 rfl rfl
set_option maxRecDepth 20000 in
theorem aw861 : (Cond.methodLink "PageTreeLaw" 52 y_Md_kid) ∈ AW := aw_t 861 rfl rfl
set_option maxRecDepth 20000 in
theorem aw862 : (Cond.instanceMethod y_Md_kid) ∈ AW := aw_t 862 rfl rfl
set_option maxRecDepth 20000 in
theorem aw863 : (Cond.selects "PageTreeModel" y_Md_kid y_Md_kid) ∈ AW := aw_t 863 rfl rfl
set_option maxRecDepth 20000 in
theorem aw864 : (Cond.code y_Md_kid prog_10_method_23_code 3 (some .int)) ∈ AW := aw_t 864 rfl rfl
set_option maxRecDepth 20000 in
theorem aw865 : (Cond.methodLink "PageTreeLaw" 56 y_Md_mend) ∈ AW := aw_t 865 rfl rfl
set_option maxRecDepth 20000 in
theorem aw866 : (Cond.instanceMethod y_Md_mend) ∈ AW := aw_t 866 rfl rfl
set_option maxRecDepth 20000 in
theorem aw867 : (Cond.selects "PageTreeModel" y_Md_mend y_Md_mend) ∈ AW := aw_t 867 rfl rfl
set_option maxRecDepth 20000 in
theorem aw868 : (Cond.code y_Md_mend prog_10_method_28_code 4 (some .int)) ∈ AW := aw_t 868 rfl rfl
set_option maxRecDepth 20000 in
theorem aw869 : (Cond.methodLink "PageTreeModel" 137 y_Md_tell) ∈ AW := aw_t 869 rfl rfl
set_option maxRecDepth 20000 in
theorem aw871 : (Cond.instanceMethod y_Md_tell) ∈ AW := aw_t 871 rfl rfl
set_option maxRecDepth 20000 in
theorem aw872 : (Cond.code y_Md_tell prog_10_method_24_code 3 none) ∈ AW := aw_t 872 rfl rfl
set_option maxRecDepth 20000 in
theorem aw873 : (Cond.methodLink "PageTreeModel" 143 y_Md_mendKid) ∈ AW := aw_t 873 rfl rfl
set_option maxRecDepth 20000 in
theorem aw875 : (Cond.instanceMethod y_Md_mendKid) ∈ AW := aw_t 875 rfl rfl
set_option maxRecDepth 20000 in
theorem aw876 : (Cond.code y_Md_mendKid prog_10_method_27_code 6 (some .boolean)) ∈ AW := aw_t 876 rfl rfl
set_option maxRecDepth 20000 in
theorem aw877 : (Cond.methodLink "PageTreeModel" 134 y_Md_isOnWay) ∈ AW := aw_t 877 rfl rfl
set_option maxRecDepth 20000 in
theorem aw879 : (Cond.instanceMethod y_Md_isOnWay) ∈ AW := aw_t 879 rfl rfl
set_option maxRecDepth 20000 in
theorem aw880 : (Cond.code y_Md_isOnWay prog_10_method_26_code 4 (some .boolean)) ∈ AW := aw_t 880 rfl rfl
set_option maxRecDepth 20000 in
theorem aw881 : (Cond.methodLink "PageTreeModel" 140 y_Md_takeOff) ∈ AW := aw_t 881 rfl rfl
set_option maxRecDepth 20000 in
theorem aw883 : (Cond.instanceMethod y_Md_takeOff) ∈ AW := aw_t 883 rfl rfl
set_option maxRecDepth 20000 in
theorem aw884 : (Cond.code y_Md_takeOff prog_10_method_25_code 4 none) ∈ AW := aw_t 884 rfl rfl
set_option maxRecDepth 20000 in
theorem aw885 : (Cond.methodLink "PageTreeLaw" 60 y_Md_told) ∈ AW := aw_t 885 rfl rfl
set_option maxRecDepth 20000 in
theorem aw886 : (Cond.instanceMethod y_Md_told) ∈ AW := aw_t 886 rfl rfl
set_option maxRecDepth 20000 in
theorem aw887 : (Cond.selects "PageTreeModel" y_Md_told y_Md_told) ∈ AW := aw_t 887 rfl rfl
set_option maxRecDepth 20000 in
theorem aw888 : (Cond.code y_Md_told prog_10_method_29_code 4 (some .int)) ∈ AW := aw_t 888 rfl rfl
set_option maxRecDepth 20000 in
theorem aw889 : (Cond.methodLink "PageTreeLaw" 64 y_Md_move) ∈ AW := aw_t 889 rfl rfl
set_option maxRecDepth 20000 in
theorem aw890 : (Cond.instanceMethod y_Md_move) ∈ AW := aw_t 890 rfl rfl
set_option maxRecDepth 20000 in
theorem aw891 : (Cond.selects "PageTreeModel" y_Md_move y_Md_move) ∈ AW := aw_t 891 rfl rfl
set_option maxRecDepth 20000 in
theorem aw892 : (Cond.code y_Md_move prog_10_method_34_code 9 (some .int)) ∈ AW := aw_t 892 rfl rfl
set_option maxRecDepth 20000 in
theorem aw893 : (Cond.methodLink "PageTreeModel" 147 y_Md_listed) ∈ AW := aw_t 893 rfl rfl
set_option maxRecDepth 20000 in
theorem aw895 : (Cond.instanceMethod y_Md_listed) ∈ AW := aw_t 895 rfl rfl
set_option maxRecDepth 20000 in
theorem aw896 : (Cond.code y_Md_listed prog_10_method_33_code 5 (some .int)) ∈ AW := aw_t 896 rfl rfl
set_option maxRecDepth 20000 in
theorem aw897 : (Cond.methodLink "PageTreeModel" 150 y_Md_ownAll) ∈ AW := aw_t 897 rfl rfl
set_option maxRecDepth 20000 in
theorem aw899 : (Cond.instanceMethod y_Md_ownAll) ∈ AW := aw_t 899 rfl rfl
set_option maxRecDepth 20000 in
theorem aw900 : (Cond.code y_Md_ownAll prog_10_method_30_code 3 none) ∈ AW := aw_t 900 rfl rfl
set_option maxRecDepth 20000 in
theorem aw901 : (Cond.methodLink "PageTreeModel" 153 y_Md_takeOffAll) ∈ AW := aw_t 901 rfl rfl
set_option maxRecDepth 20000 in
theorem aw903 : (Cond.instanceMethod y_Md_takeOffAll) ∈ AW := aw_t 903 rfl rfl
set_option maxRecDepth 20000 in
theorem aw904 : (Cond.code y_Md_takeOffAll prog_10_method_31_code 4 none) ∈ AW := aw_t 904 rfl rfl
set_option maxRecDepth 20000 in
theorem aw905 : (Cond.methodLink "PageTreeModel" 156 y_Md_putAt) ∈ AW := aw_t 905 rfl rfl
set_option maxRecDepth 20000 in
theorem aw907 : (Cond.instanceMethod y_Md_putAt) ∈ AW := aw_t 907 rfl rfl
set_option maxRecDepth 20000 in
theorem aw908 : (Cond.code y_Md_putAt prog_10_method_32_code 5 none) ∈ AW := aw_t 908 rfl rfl
set_option maxRecDepth 20000 in
theorem aw909 : (Cond.methodLink "PageTreeLaw" 68 y_Md_copy) ∈ AW := aw_t 909 rfl rfl
set_option maxRecDepth 20000 in
theorem aw910 : (Cond.instanceMethod y_Md_copy) ∈ AW := aw_t 910 rfl rfl
set_option maxRecDepth 20000 in
theorem aw911 : (Cond.selects "PageTreeModel" y_Md_copy y_Md_copy) ∈ AW := aw_t 911 rfl rfl
set_option maxRecDepth 20000 in
theorem aw912 : (Cond.code y_Md_copy prog_10_method_35_code 7 (some .int)) ∈ AW := aw_t 912 rfl rfl
set_option maxRecDepth 20000 in
theorem aw913 : (Cond.methodLink "PageTreeLaw" 72 y_Md_remove) ∈ AW := aw_t 913 rfl rfl
set_option maxRecDepth 20000 in
theorem aw914 : (Cond.instanceMethod y_Md_remove) ∈ AW := aw_t 914 rfl rfl
set_option maxRecDepth 20000 in
theorem aw915 : (Cond.selects "PageTreeModel" y_Md_remove y_Md_remove) ∈ AW := aw_t 915 rfl rfl
set_option maxRecDepth 20000 in
theorem aw916 : (Cond.code y_Md_remove prog_10_method_36_code 5 (some .int)) ∈ AW := aw_t 916 rfl rfl
set_option maxRecDepth 20000 in
theorem aw917 : (Cond.methodLink "PageTreeLaw" 76 y_Md_label) ∈ AW := aw_t 917 rfl rfl
set_option maxRecDepth 20000 in
theorem aw918 : (Cond.instanceMethod y_Md_label) ∈ AW := aw_t 918 rfl rfl
set_option maxRecDepth 20000 in
theorem aw919 : (Cond.selects "PageTreeModel" y_Md_label y_Md_label) ∈ AW := aw_t 919 rfl rfl
set_option maxRecDepth 20000 in
theorem aw920 : (Cond.code y_Md_label prog_10_method_37_code 6 (some .int)) ∈ AW := aw_t 920 rfl rfl
set_option maxRecDepth 20000 in
theorem aw921 : (Cond.methodLink "PageTreeLaw" 80 y_Md_text) ∈ AW := aw_t 921 rfl rfl
set_option maxRecDepth 20000 in
theorem aw922 : (Cond.instanceMethod y_Md_text) ∈ AW := aw_t 922 rfl rfl
set_option maxRecDepth 20000 in
theorem aw923 : (Cond.selects "PageTreeModel" y_Md_text y_Md_text) ∈ AW := aw_t 923 rfl rfl
set_option maxRecDepth 20000 in
theorem aw924 : (Cond.code y_Md_text prog_10_method_43_code 3 (some .int)) ∈ AW := aw_t 924 rfl rfl
set_option maxRecDepth 20000 in
theorem aw925 : (Cond.methodLink "PageTreeModel" 182 y_Md_sayLabel) ∈ AW := aw_t 925 rfl rfl
set_option maxRecDepth 20000 in
theorem aw927 : (Cond.instanceMethod y_Md_sayLabel) ∈ AW := aw_t 927 rfl rfl
set_option maxRecDepth 20000 in
theorem aw928 : (Cond.code y_Md_sayLabel prog_10_method_42_code 6 none) ∈ AW := aw_t 928 rfl rfl
set_option maxRecDepth 20000 in
theorem aw929 : (Cond.methodLink "PageTreeModel" 176 y_Md_sayDigits) ∈ AW := aw_t 929 rfl rfl
set_option maxRecDepth 20000 in
theorem aw931 : (Cond.instanceMethod y_Md_sayDigits) ∈ AW := aw_t 931 rfl rfl
set_option maxRecDepth 20000 in
theorem aw932 : (Cond.code y_Md_sayDigits prog_10_method_39_code 3 none) ∈ AW := aw_t 932 rfl rfl
set_option maxRecDepth 20000 in
theorem aw933 : (Cond.methodLink "PageTreeModel" 169 y_Md_say) ∈ AW := aw_t 933 rfl rfl
set_option maxRecDepth 20000 in
theorem aw935 : (Cond.instanceMethod y_Md_say) ∈ AW := aw_t 935 rfl rfl
set_option maxRecDepth 20000 in
theorem aw936 : (Cond.code y_Md_say prog_10_method_38_code 2 none) ∈ AW := aw_t 936 rfl rfl
set_option maxRecDepth 20000 in
theorem aw937 : (Cond.methodLink "PageTreeModel" 179 y_Md_sayRoman) ∈ AW := aw_t 937 rfl rfl
set_option maxRecDepth 20000 in
theorem aw939 : (Cond.instanceMethod y_Md_sayRoman) ∈ AW := aw_t 939 rfl rfl
set_option maxRecDepth 20000 in
theorem aw940 : (Cond.code y_Md_sayRoman prog_10_method_41_code 3 none) ∈ AW := aw_t 940 rfl rfl
set_option maxRecDepth 20000 in
theorem aw941 : (Cond.methodLink "PageTreeModel" 172 y_Md_sayPlace) ∈ AW := aw_t 941 rfl rfl
set_option maxRecDepth 20000 in
theorem aw943 : (Cond.instanceMethod y_Md_sayPlace) ∈ AW := aw_t 943 rfl rfl
set_option maxRecDepth 20000 in
theorem aw944 : (Cond.code y_Md_sayPlace prog_10_method_40_code 6 none) ∈ AW := aw_t 944 rfl rfl
set_option maxRecDepth 20000 in
theorem aw945 : (Cond.methodLink "PageTreeLaw" 84 y_Md_name) ∈ AW := aw_t 945 rfl rfl
set_option maxRecDepth 20000 in
theorem aw946 : (Cond.instanceMethod y_Md_name) ∈ AW := aw_t 946 rfl rfl
set_option maxRecDepth 20000 in
theorem aw947 : (Cond.selects "PageTreeModel" y_Md_name y_Md_name) ∈ AW := aw_t 947 rfl rfl
set_option maxRecDepth 20000 in
theorem aw948 : (Cond.code y_Md_name prog_10_method_45_code 3 (some .int)) ∈ AW := aw_t 948 rfl rfl
set_option maxRecDepth 20000 in
theorem aw949 : (Cond.methodLink "PageTreeModel" 185 y_Md_named) ∈ AW := aw_t 949 rfl rfl
set_option maxRecDepth 20000 in
theorem aw951 : (Cond.instanceMethod y_Md_named) ∈ AW := aw_t 951 rfl rfl
set_option maxRecDepth 20000 in
theorem aw952 : (Cond.code y_Md_named prog_10_method_44_code 4 (some .int)) ∈ AW := aw_t 952 rfl rfl
set_option maxRecDepth 20000 in
theorem aw953 : (Cond.methodLink "PageTreeLaw" 88 y_Md_look) ∈ AW := aw_t 953 rfl rfl
set_option maxRecDepth 20000 in
theorem aw954 : (Cond.instanceMethod y_Md_look) ∈ AW := aw_t 954 rfl rfl
set_option maxRecDepth 20000 in
theorem aw955 : (Cond.selects "PageTreeModel" y_Md_look y_Md_look) ∈ AW := aw_t 955 rfl rfl
set_option maxRecDepth 20000 in
theorem aw956 : (Cond.code y_Md_look prog_10_method_46_code 3 (some .int)) ∈ AW := aw_t 956 rfl rfl
set_option maxRecDepth 20000 in
theorem aw957 : (Cond.methodLink "PageTreeLaw" 92 y_Md_balance) ∈ AW := aw_t 957 rfl rfl
set_option maxRecDepth 20000 in
theorem aw958 : (Cond.instanceMethod y_Md_balance) ∈ AW := aw_t 958 rfl rfl
set_option maxRecDepth 20000 in
theorem aw959 : (Cond.selects "PageTreeModel" y_Md_balance y_Md_balance) ∈ AW := aw_t 959 rfl rfl
set_option maxRecDepth 20000 in
theorem aw960 : (Cond.code y_Md_balance prog_10_method_49_code 4 (some .int)) ∈ AW := aw_t 960 rfl rfl
set_option maxRecDepth 20000 in
theorem aw961 : (Cond.methodLink "PageTreeModel" 188 y_Md_needed) ∈ AW := aw_t 961 rfl rfl
set_option maxRecDepth 20000 in
theorem aw962 : (Cond.static y_Md_needed) ∈ AW := aw_t 962 rfl rfl
set_option maxRecDepth 20000 in
theorem aw963 : (Cond.code y_Md_needed prog_10_method_47_code 3 (some .int)) ∈ AW := aw_t 963 rfl rfl
set_option maxRecDepth 20000 in
theorem aw964 : (Cond.methodLink "PageTreeModel" 194 y_Md_hang) ∈ AW := aw_t 964 rfl rfl
set_option maxRecDepth 20000 in
theorem aw966 : (Cond.instanceMethod y_Md_hang) ∈ AW := aw_t 966 rfl rfl
set_option maxRecDepth 20000 in
theorem aw967 : (Cond.code y_Md_hang prog_10_method_48_code 3 none) ∈ AW := aw_t 967 rfl rfl
set_option maxRecDepth 20000 in
theorem aw968 : (Cond.methodLink "PageTreeLaw" 96 y_Md_count) ∈ AW := aw_t 968 rfl rfl
set_option maxRecDepth 20000 in
theorem aw969 : (Cond.instanceMethod y_Md_count) ∈ AW := aw_t 969 rfl rfl
set_option maxRecDepth 20000 in
theorem aw970 : (Cond.selects "PageTreeModel" y_Md_count y_Md_count) ∈ AW := aw_t 970 rfl rfl
set_option maxRecDepth 20000 in
theorem aw971 : (Cond.code y_Md_count prog_10_method_50_code 2 (some .int)) ∈ AW := aw_t 971 rfl rfl
set_option maxRecDepth 20000 in
theorem aw972 : (Cond.sameMethod "PageTree$Walk" "PageTree$Walk" "enter" "(I)V") ∈ AW := aw_t 972 rfl rfl
set_option maxRecDepth 20000 in
theorem aw973 : (Cond.sameMethod "PageTree$Walk" "PageTree$Walk" "meet" "(III)I") ∈ AW := aw_t 973 rfl rfl
set_option maxRecDepth 20000 in
theorem aw974 : (Cond.fieldLink "java/lang/String" 9 "java/lang/String" "value" "[B") ∈ AW := aw_t 974 rfl rfl
set_option maxRecDepth 20000 in
theorem aw975 : (Cond.fieldLink "java/lang/String" 15 "java/lang/String" "coder" "B") ∈ AW := aw_t 975 rfl rfl
set_option maxRecDepth 20000 in
theorem awp0 : Cond.selects "PageTree" y_PT_addLast y_PT_addLast ∈ AW := aw_p 0 rfl
set_option maxRecDepth 20000 in
theorem awp1 : Cond.selects "PageTree$Order" y_Order_refresh y_Order_refresh ∈ AW := aw_p 1 rfl
set_option maxRecDepth 20000 in
theorem awp2 : Cond.selects "PageTree$Items" y_Items_hasSlot y_Items_hasSlot ∈ AW := aw_p 2 rfl
set_option maxRecDepth 20000 in
theorem awp3 : Cond.selects "PageTree$Mender" y_Mender_tell y_Mender_tell ∈ AW := aw_p 3 rfl
set_option maxRecDepth 20000 in
theorem awp4 : Cond.selects "PageTree$Order" y_Order_isTaken y_Order_isTaken ∈ AW := aw_p 4 rfl
set_option maxRecDepth 20000 in
theorem awp5 : Cond.selects "PageTree$Items" y_Items_dropFromList y_Items_dropFromList ∈ AW := aw_p 5 rfl
set_option maxRecDepth 20000 in
theorem awp6 : Cond.selects "PageTree$Labels" y_Labels_rangeFrom y_Labels_rangeFrom ∈ AW := aw_p 6 rfl
set_option maxRecDepth 20000 in
theorem awp7 : Cond.selects "PageTree$Labels" y_Labels_rangeAround y_Labels_rangeAround ∈ AW := aw_p 7 rfl
set_option maxRecDepth 20000 in
theorem awp8 : Cond.selects "PageTree$Labels" y_Labels_writeDigits y_Labels_writeDigits ∈ AW := aw_p 8 rfl
set_option maxRecDepth 20000 in
theorem awp9 : Cond.selects "PageTree$Labels" y_Labels_writeSign y_Labels_writeSign ∈ AW := aw_p 9 rfl
set_option maxRecDepth 20000 in
theorem awp10 : Cond.selects "PageTree$Labels" y_Labels_write y_Labels_write ∈ AW := aw_p 10 rfl
set_option maxRecDepth 20000 in
theorem awp11 : Cond.selects "PageTree$Labels" y_Labels_writeRoman y_Labels_writeRoman ∈ AW := aw_p 11 rfl
set_option maxRecDepth 20000 in
theorem awp12 : Cond.selects "PageTree$Labels" y_Labels_writeSigns y_Labels_writeSigns ∈ AW := aw_p 12 rfl
set_option maxRecDepth 20000 in
theorem awp13 : Cond.selects "PageTree$Labels" y_Labels_writeLetters y_Labels_writeLetters ∈ AW := aw_p 13 rfl
set_option maxRecDepth 20000 in
theorem awp14 : Cond.selects "PageTree$Balancer" y_Bal_raiseRow y_Bal_raiseRow ∈ AW := aw_p 14 rfl
set_option maxRecDepth 20000 in
theorem awp15 : Cond.selects "PageTree$Balancer" y_Bal_hang y_Bal_hang ∈ AW := aw_p 15 rfl
set_option maxRecDepth 20000 in
theorem awp16 : Cond.selects "PageTreeModel" y_Md_isNode y_Md_isNode ∈ AW := aw_p 16 rfl
set_option maxRecDepth 20000 in
theorem awp17 : Cond.selects "PageTreeModel" y_Md_isItem y_Md_isItem ∈ AW := aw_p 17 rfl
set_option maxRecDepth 20000 in
theorem awp18 : Cond.selects "PageTreeModel" y_Md_made y_Md_made ∈ AW := aw_p 18 rfl
set_option maxRecDepth 20000 in
theorem awp19 : Cond.selects "PageTreeModel" y_Md_append y_Md_append ∈ AW := aw_p 19 rfl
set_option maxRecDepth 20000 in
theorem awp20 : Cond.selects "PageTreeModel" y_Md_valueOf y_Md_valueOf ∈ AW := aw_p 20 rfl
set_option maxRecDepth 20000 in
theorem awp21 : Cond.selects "PageTreeModel" y_Md_walk y_Md_walk ∈ AW := aw_p 21 rfl
set_option maxRecDepth 20000 in
theorem awp22 : Cond.selects "PageTreeModel" y_Md_begin y_Md_begin ∈ AW := aw_p 22 rfl
set_option maxRecDepth 20000 in
theorem awp23 : Cond.selects "PageTreeModel" y_Md_goInto y_Md_goInto ∈ AW := aw_p 23 rfl
set_option maxRecDepth 20000 in
theorem awp24 : Cond.selects "PageTreeModel" y_Md_goUp y_Md_goUp ∈ AW := aw_p 24 rfl
set_option maxRecDepth 20000 in
theorem awp25 : Cond.selects "PageTreeModel" y_Md_takePage y_Md_takePage ∈ AW := aw_p 25 rfl
set_option maxRecDepth 20000 in
theorem awp26 : Cond.selects "PageTreeModel" y_Md_placeOf y_Md_placeOf ∈ AW := aw_p 26 rfl
set_option maxRecDepth 20000 in
theorem awp27 : Cond.selects "PageTreeModel" y_Md_tell y_Md_tell ∈ AW := aw_p 27 rfl
set_option maxRecDepth 20000 in
theorem awp28 : Cond.selects "PageTreeModel" y_Md_mendKid y_Md_mendKid ∈ AW := aw_p 28 rfl
set_option maxRecDepth 20000 in
theorem awp29 : Cond.selects "PageTreeModel" y_Md_isOnWay y_Md_isOnWay ∈ AW := aw_p 29 rfl
set_option maxRecDepth 20000 in
theorem awp30 : Cond.selects "PageTreeModel" y_Md_takeOff y_Md_takeOff ∈ AW := aw_p 30 rfl
set_option maxRecDepth 20000 in
theorem awp31 : Cond.selects "PageTreeModel" y_Md_listed y_Md_listed ∈ AW := aw_p 31 rfl
set_option maxRecDepth 20000 in
theorem awp32 : Cond.selects "PageTreeModel" y_Md_ownAll y_Md_ownAll ∈ AW := aw_p 32 rfl
set_option maxRecDepth 20000 in
theorem awp33 : Cond.selects "PageTreeModel" y_Md_takeOffAll y_Md_takeOffAll ∈ AW := aw_p 33 rfl
set_option maxRecDepth 20000 in
theorem awp34 : Cond.selects "PageTreeModel" y_Md_putAt y_Md_putAt ∈ AW := aw_p 34 rfl
set_option maxRecDepth 20000 in
theorem awp35 : Cond.selects "PageTreeModel" y_Md_sayLabel y_Md_sayLabel ∈ AW := aw_p 35 rfl
set_option maxRecDepth 20000 in
theorem awp36 : Cond.selects "PageTreeModel" y_Md_sayDigits y_Md_sayDigits ∈ AW := aw_p 36 rfl
set_option maxRecDepth 20000 in
theorem awp37 : Cond.selects "PageTreeModel" y_Md_say y_Md_say ∈ AW := aw_p 37 rfl
set_option maxRecDepth 20000 in
theorem awp38 : Cond.selects "PageTreeModel" y_Md_sayRoman y_Md_sayRoman ∈ AW := aw_p 38 rfl
set_option maxRecDepth 20000 in
theorem awp39 : Cond.selects "PageTreeModel" y_Md_sayPlace y_Md_sayPlace ∈ AW := aw_p 39 rfl
set_option maxRecDepth 20000 in
theorem awp40 : Cond.selects "PageTreeModel" y_Md_named y_Md_named ∈ AW := aw_p 40 rfl
set_option maxRecDepth 20000 in
theorem awp41 : Cond.selects "PageTreeModel" y_Md_hang y_Md_hang ∈ AW := aw_p 41 rfl
set_option maxRecDepth 20000 in
theorem awx_Order_enter : Cond.selects "PageTree$Order" y_Walk_enter y_Walk_enter ∈ AW := aw_x 0 rfl
set_option maxRecDepth 20000 in
theorem awx_Mender_enter : Cond.selects "PageTree$Mender" y_Walk_enter y_Walk_enter ∈ AW := aw_x 1 rfl
set_option maxRecDepth 20000 in
theorem awx_Order_meet : Cond.selects "PageTree$Order" y_Walk_meet y_Walk_meet ∈ AW := aw_x 2 rfl
set_option maxRecDepth 20000 in
theorem awx_Mender_meet : Cond.selects "PageTree$Mender" y_Walk_meet y_Walk_meet ∈ AW := aw_x 3 rfl
def T_Bal : u_T := fun k => match k with
  | 0 => ("PageTree$Balancer", "items", "LPageTree$Items;", true)
  | 1 => ("PageTree$Balancer", "row", "[I", true)
  | _ => ("PageTree$Balancer", "length", "I", false)
def ty_Bal : Nat → FieldType := fun k => match k with
  | 0 => .object "PageTree$Items"
  | 1 => .array .int
  | _ => .int
theorem nm_Bal : ∀ a, a < 3 → ∀ b, b < 3 → a ≠ b → (T_Bal a).2.1 ≠ (T_Bal b).2.1 := by decide +kernel
theorem ty_Bal_ok : ∀ k, k < 3 → parseFieldDescriptor (T_Bal k).2.2.1 = some (ty_Bal k) := by decide +kernel
theorem in_Bal : ∀ w ∈ u_ws R_Bal T_Bal 3, w ∈ AW := by
  intro w hw
  obtain ⟨k, hk, rfl⟩ := List.mem_map.mp hw
  have hk := List.mem_range.mp hk
  match k, hk with
  | 0, _ => exact aw143
  | 1, _ => exact aw145
  | 2, _ => exact aw147
  | k + 3, h => exact absurd h (by omega)
def T_Items : u_T := fun k => match k with
  | 0 => ("PageTree$Items", "pageFlags", "[Z", true)
  | 1 => ("PageTree$Items", "parents", "[I", true)
  | 2 => ("PageTree$Items", "counts", "[I", true)
  | 3 => ("PageTree$Items", "kidCounts", "[I", true)
  | 4 => ("PageTree$Items", "kids", "[I", true)
  | 5 => ("PageTree$Items", "ownValues", "[I", true)
  | 6 => ("PageTree$Items", "size", "I", false)
  | _ => ("PageTree$Items", "version", "I", false)
def ty_Items : Nat → FieldType := fun k => match k with
  | 0 => .array .boolean
  | 1 => .array .int
  | 2 => .array .int
  | 3 => .array .int
  | 4 => .array .int
  | 5 => .array .int
  | 6 => .int
  | _ => .int
theorem nm_Items : ∀ a, a < 8 → ∀ b, b < 8 → a ≠ b → (T_Items a).2.1 ≠ (T_Items b).2.1 := by decide +kernel
theorem ty_Items_ok : ∀ k, k < 8 → parseFieldDescriptor (T_Items k).2.2.1 = some (ty_Items k) := by decide +kernel
theorem in_Items : ∀ w ∈ u_ws R_Items T_Items 8, w ∈ AW := by
  intro w hw
  obtain ⟨k, hk, rfl⟩ := List.mem_map.mp hw
  have hk := List.mem_range.mp hk
  match k, hk with
  | 0, _ => exact aw41
  | 1, _ => exact aw43
  | 2, _ => exact aw45
  | 3, _ => exact aw47
  | 4, _ => exact aw49
  | 5, _ => exact aw51
  | 6, _ => exact aw53
  | 7, _ => exact aw55
  | k + 8, h => exact absurd h (by omega)
def T_Labels : u_T := fun k => match k with
  | 0 => ("PageTree$Labels", "begins", "[I", true)
  | 1 => ("PageTree$Labels", "styles", "[I", true)
  | 2 => ("PageTree$Labels", "firsts", "[I", true)
  | 3 => ("PageTree$Labels", "signs", "[C", true)
  | 4 => ("PageTree$Labels", "size", "I", false)
  | _ => ("PageTree$Labels", "signCount", "I", false)
def ty_Labels : Nat → FieldType := fun k => match k with
  | 0 => .array .int
  | 1 => .array .int
  | 2 => .array .int
  | 3 => .array .char
  | 4 => .int
  | _ => .int
theorem nm_Labels : ∀ a, a < 6 → ∀ b, b < 6 → a ≠ b → (T_Labels a).2.1 ≠ (T_Labels b).2.1 := by decide +kernel
theorem ty_Labels_ok : ∀ k, k < 6 → parseFieldDescriptor (T_Labels k).2.2.1 = some (ty_Labels k) := by decide +kernel
theorem in_Labels : ∀ w ∈ u_ws R_Labels T_Labels 6, w ∈ AW := by
  intro w hw
  obtain ⟨k, hk, rfl⟩ := List.mem_map.mp hw
  have hk := List.mem_range.mp hk
  match k, hk with
  | 0, _ => exact aw162
  | 1, _ => exact aw164
  | 2, _ => exact aw166
  | 3, _ => exact aw168
  | 4, _ => exact aw170
  | 5, _ => exact aw172
  | k + 6, h => exact absurd h (by omega)
def T_Mender : u_T := fun k => match k with
  | 0 => ("PageTree$Mender", "kinds", "[I", true)
  | 1 => ("PageTree$Mender", "things", "[I", true)
  | 2 => ("PageTree$Mender", "pagesBefore", "[I", true)
  | 3 => ("PageTree$Mender", "toldCount", "I", false)
  | 4 => ("PageTree$Mender", "pagesSoFar", "I", false)
  | 5 => ("PageTree$Walk", "items", "LPageTree$Items;", true)
  | 6 => ("PageTree$Walk", "met", "[Z", true)
  | 7 => ("PageTree$Walk", "way", "[I", true)
  | 8 => ("PageTree$Walk", "nextSlots", "[I", true)
  | _ => ("PageTree$Walk", "depth", "I", false)
def ty_Mender : Nat → FieldType := fun k => match k with
  | 0 => .array .int
  | 1 => .array .int
  | 2 => .array .int
  | 3 => .int
  | 4 => .int
  | 5 => .object "PageTree$Items"
  | 6 => .array .boolean
  | 7 => .array .int
  | 8 => .array .int
  | _ => .int
theorem nm_Mender : ∀ a, a < 10 → ∀ b, b < 10 → a ≠ b → (T_Mender a).2.1 ≠ (T_Mender b).2.1 := by decide +kernel
theorem ty_Mender_ok : ∀ k, k < 10 → parseFieldDescriptor (T_Mender k).2.2.1 = some (ty_Mender k) := by decide +kernel
theorem in_Mender : ∀ w ∈ u_ws R_Mender T_Mender 10, w ∈ AW := by
  intro w hw
  obtain ⟨k, hk, rfl⟩ := List.mem_map.mp hw
  have hk := List.mem_range.mp hk
  match k, hk with
  | 0, _ => exact aw118
  | 1, _ => exact aw120
  | 2, _ => exact aw122
  | 3, _ => exact aw124
  | 4, _ => exact aw126
  | 5, _ => exact aw128
  | 6, _ => exact aw129
  | 7, _ => exact aw130
  | 8, _ => exact aw131
  | 9, _ => exact aw132
  | k + 10, h => exact absurd h (by omega)
def T_Names : u_T := fun k => match k with
  | 0 => ("PageTree$Names", "keys", "[I", true)
  | 1 => ("PageTree$Names", "targets", "[I", true)
  | _ => ("PageTree$Names", "size", "I", false)
def ty_Names : Nat → FieldType := fun k => match k with
  | 0 => .array .int
  | 1 => .array .int
  | _ => .int
theorem nm_Names : ∀ a, a < 3 → ∀ b, b < 3 → a ≠ b → (T_Names a).2.1 ≠ (T_Names b).2.1 := by decide +kernel
theorem ty_Names_ok : ∀ k, k < 3 → parseFieldDescriptor (T_Names k).2.2.1 = some (ty_Names k) := by decide +kernel
theorem in_Names : ∀ w ∈ u_ws R_Names T_Names 3, w ∈ AW := by
  intro w hw
  obtain ⟨k, hk, rfl⟩ := List.mem_map.mp hw
  have hk := List.mem_range.mp hk
  match k, hk with
  | 0, _ => exact aw185
  | 1, _ => exact aw187
  | 2, _ => exact aw189
  | k + 3, h => exact absurd h (by omega)
def T_Order : u_T := fun k => match k with
  | 0 => ("PageTree$Order", "taken", "[I", true)
  | 1 => ("PageTree$Order", "places", "[I", true)
  | 2 => ("PageTree$Order", "listers", "[I", true)
  | 3 => ("PageTree$Order", "slots", "[I", true)
  | 4 => ("PageTree$Order", "size", "I", false)
  | 5 => ("PageTree$Order", "versionSeen", "I", false)
  | 6 => ("PageTree$Walk", "items", "LPageTree$Items;", true)
  | 7 => ("PageTree$Walk", "met", "[Z", true)
  | 8 => ("PageTree$Walk", "way", "[I", true)
  | 9 => ("PageTree$Walk", "nextSlots", "[I", true)
  | _ => ("PageTree$Walk", "depth", "I", false)
def ty_Order : Nat → FieldType := fun k => match k with
  | 0 => .array .int
  | 1 => .array .int
  | 2 => .array .int
  | 3 => .array .int
  | 4 => .int
  | 5 => .int
  | 6 => .object "PageTree$Items"
  | 7 => .array .boolean
  | 8 => .array .int
  | 9 => .array .int
  | _ => .int
theorem nm_Order : ∀ a, a < 11 → ∀ b, b < 11 → a ≠ b → (T_Order a).2.1 ≠ (T_Order b).2.1 := by decide +kernel
theorem ty_Order_ok : ∀ k, k < 11 → parseFieldDescriptor (T_Order k).2.2.1 = some (ty_Order k) := by decide +kernel
theorem in_Order : ∀ w ∈ u_ws R_Order T_Order 11, w ∈ AW := by
  intro w hw
  obtain ⟨k, hk, rfl⟩ := List.mem_map.mp hw
  have hk := List.mem_range.mp hk
  match k, hk with
  | 0, _ => exact aw84
  | 1, _ => exact aw86
  | 2, _ => exact aw88
  | 3, _ => exact aw90
  | 4, _ => exact aw92
  | 5, _ => exact aw94
  | 6, _ => exact aw96
  | 7, _ => exact aw98
  | 8, _ => exact aw100
  | 9, _ => exact aw102
  | 10, _ => exact aw104
  | k + 11, h => exact absurd h (by omega)
def T_PT : u_T := fun k => match k with
  | 0 => ("PageTree", "items", "LPageTree$Items;", true)
  | 1 => ("PageTree", "order", "LPageTree$Order;", true)
  | 2 => ("PageTree", "mender", "LPageTree$Mender;", true)
  | 3 => ("PageTree", "balancer", "LPageTree$Balancer;", true)
  | 4 => ("PageTree", "labels", "LPageTree$Labels;", true)
  | _ => ("PageTree", "names", "LPageTree$Names;", true)
def ty_PT : Nat → FieldType := fun k => match k with
  | 0 => .object "PageTree$Items"
  | 1 => .object "PageTree$Order"
  | 2 => .object "PageTree$Mender"
  | 3 => .object "PageTree$Balancer"
  | 4 => .object "PageTree$Labels"
  | _ => .object "PageTree$Names"
theorem nm_PT : ∀ a, a < 6 → ∀ b, b < 6 → a ≠ b → (T_PT a).2.1 ≠ (T_PT b).2.1 := by decide +kernel
theorem ty_PT_ok : ∀ k, k < 6 → parseFieldDescriptor (T_PT k).2.2.1 = some (ty_PT k) := by decide +kernel
theorem in_PT : ∀ w ∈ u_ws R_PT T_PT 6, w ∈ AW := by
  intro w hw
  obtain ⟨k, hk, rfl⟩ := List.mem_map.mp hw
  have hk := List.mem_range.mp hk
  match k, hk with
  | 0, _ => exact aw198
  | 1, _ => exact aw200
  | 2, _ => exact aw202
  | 3, _ => exact aw204
  | 4, _ => exact aw206
  | 5, _ => exact aw208
  | k + 6, h => exact absurd h (by omega)
def T_Md : u_T := fun k => match k with
  | 0 => ("PageTreeModel", "items", "I", false)
  | 1 => ("PageTreeModel", "isPage", "[Z", true)
  | 2 => ("PageTreeModel", "parents", "[I", true)
  | 3 => ("PageTreeModel", "counts", "[I", true)
  | 4 => ("PageTreeModel", "kidCounts", "[I", true)
  | 5 => ("PageTreeModel", "kids", "[I", true)
  | 6 => ("PageTreeModel", "values", "[I", true)
  | 7 => ("PageTreeModel", "deep", "I", false)
  | 8 => ("PageTreeModel", "way", "[I", true)
  | 9 => ("PageTreeModel", "nextKid", "[I", true)
  | 10 => ("PageTreeModel", "isMet", "[Z", true)
  | 11 => ("PageTreeModel", "taken", "I", false)
  | 12 => ("PageTreeModel", "order", "[I", true)
  | 13 => ("PageTreeModel", "byNode", "[I", true)
  | 14 => ("PageTreeModel", "byIndex", "[I", true)
  | 15 => ("PageTreeModel", "below", "[I", true)
  | 16 => ("PageTreeModel", "tolds", "I", false)
  | 17 => ("PageTreeModel", "toldWhat", "[I", true)
  | 18 => ("PageTreeModel", "toldItem", "[I", true)
  | 19 => ("PageTreeModel", "ranges", "I", false)
  | 20 => ("PageTreeModel", "rangeFrom", "[I", true)
  | 21 => ("PageTreeModel", "rangeStyle", "[I", true)
  | 22 => ("PageTreeModel", "rangeFirst", "[I", true)
  | 23 => ("PageTreeModel", "names", "I", false)
  | 24 => ("PageTreeModel", "nameKeys", "[I", true)
  | 25 => ("PageTreeModel", "namePages", "[I", true)
  | 26 => ("PageTreeModel", "signs", "I", false)
  | 27 => ("PageTreeModel", "sign", "[I", true)
  | 28 => ("PageTreeModel", "flat", "I", false)
  | _ => ("PageTreeModel", "flatKids", "[I", true)
def ty_Md : Nat → FieldType := fun k => match k with
  | 0 => .int
  | 1 => .array .boolean
  | 2 => .array .int
  | 3 => .array .int
  | 4 => .array .int
  | 5 => .array .int
  | 6 => .array .int
  | 7 => .int
  | 8 => .array .int
  | 9 => .array .int
  | 10 => .array .boolean
  | 11 => .int
  | 12 => .array .int
  | 13 => .array .int
  | 14 => .array .int
  | 15 => .array .int
  | 16 => .int
  | 17 => .array .int
  | 18 => .array .int
  | 19 => .int
  | 20 => .array .int
  | 21 => .array .int
  | 22 => .array .int
  | 23 => .int
  | 24 => .array .int
  | 25 => .array .int
  | 26 => .int
  | 27 => .array .int
  | 28 => .int
  | _ => .array .int
theorem nm_Md : ∀ a, a < 30 → ∀ b, b < 30 → a ≠ b → (T_Md a).2.1 ≠ (T_Md b).2.1 := by decide +kernel
theorem ty_Md_ok : ∀ k, k < 30 → parseFieldDescriptor (T_Md k).2.2.1 = some (ty_Md k) := by decide +kernel
theorem in_Md : ∀ w ∈ u_ws R_Md T_Md 30, w ∈ AW := by
  intro w hw
  obtain ⟨k, hk, rfl⟩ := List.mem_map.mp hw
  have hk := List.mem_range.mp hk
  match k, hk with
  | 0, _ => exact aw720
  | 1, _ => exact aw722
  | 2, _ => exact aw724
  | 3, _ => exact aw726
  | 4, _ => exact aw728
  | 5, _ => exact aw730
  | 6, _ => exact aw732
  | 7, _ => exact aw734
  | 8, _ => exact aw736
  | 9, _ => exact aw738
  | 10, _ => exact aw740
  | 11, _ => exact aw742
  | 12, _ => exact aw744
  | 13, _ => exact aw746
  | 14, _ => exact aw748
  | 15, _ => exact aw750
  | 16, _ => exact aw752
  | 17, _ => exact aw754
  | 18, _ => exact aw756
  | 19, _ => exact aw758
  | 20, _ => exact aw760
  | 21, _ => exact aw762
  | 22, _ => exact aw764
  | 23, _ => exact aw766
  | 24, _ => exact aw768
  | 25, _ => exact aw770
  | 26, _ => exact aw772
  | 27, _ => exact aw774
  | 28, _ => exact aw776
  | 29, _ => exact aw778
  | k + 30, h => exact absurd h (by omega)
abbrev vwCl : List vw_C := [(R_Bal, T_Bal, 3), (R_Items, T_Items, 8), (R_Labels, T_Labels, 6), (R_Mender, T_Mender, 10), (R_Names, T_Names, 3), (R_Order, T_Order, 11), (R_PT, T_PT, 6), (R_Md, T_Md, 30)]
