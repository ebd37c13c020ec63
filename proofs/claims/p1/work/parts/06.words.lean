/-! words of the tables that the walks use -/
abbrev wsX0_init : List Cond := Cond.code yX0_init cX0_init 2 none :: WW
abbrev wsX0_holds : List Cond := Cond.code yX0_holds cX0_holds 5 (some .boolean) :: WW
abbrev wsX0_at : List Cond := Cond.code yX0_at cX0_at 3 (some .int) :: WW
abbrev wsX0_put : List Cond := Cond.code yX0_put cX0_put 4 none :: WW
abbrev wsX0_number : List Cond := Cond.code yX0_number cX0_number 7 (some .long) :: WW
abbrev wsX0_putNumber : List Cond := Cond.code yX0_putNumber cX0_putNumber 9 none :: WW
abbrev wsX0_copyTo : List Cond := Cond.code yX0_copyTo cX0_copyTo 7 none :: WW
abbrev wsX1_blockPlace : List Cond := Cond.code yX1_blockPlace cX1_blockPlace 2 (some .long) :: WW
abbrev wsX1_offerPlace : List Cond := Cond.code yX1_offerPlace cX1_offerPlace 1 (some .long) :: WW
abbrev wsX1_answerPlace : List Cond := Cond.code yX1_answerPlace cX1_answerPlace 1 (some .long) :: WW
abbrev wsX1_answerCountPlace : List Cond := Cond.code yX1_answerCountPlace cX1_answerCountPlace 1 (some .long) :: WW
abbrev wsX1_canAnswer : List Cond := Cond.code yX1_canAnswer cX1_canAnswer 2 (some .boolean) :: WW
abbrev wsX1_answer : List Cond := Cond.code yX1_answer cX1_answer 6 none :: WW
abbrev wsX1_init : List Cond := Cond.code yX1_init cX1_init 1 none :: WW
abbrev wsX1_forget : List Cond := Cond.code yX1_forget cX1_forget 1 none :: WW
abbrev wsX1_set : List Cond := Cond.code yX1_set cX1_set 3 none :: WW
abbrev wsX1_setUp : List Cond := Cond.code yX1_setUp cX1_setUp 3 none :: WW
abbrev wsX1_withLower : List Cond := Cond.code yX1_withLower cX1_withLower 3 (some .long) :: WW
abbrev wsX1_withUpper : List Cond := Cond.code yX1_withUpper cX1_withUpper 3 (some .long) :: WW
abbrev wsX1_lookAtOffers : List Cond := Cond.code yX1_lookAtOffers cX1_lookAtOffers 4 (some .boolean) :: WW
abbrev wsX1_ahead : List Cond := Cond.code yX1_ahead cX1_ahead 1 (some .int) :: WW
abbrev wsX1_slot : List Cond := Cond.code yX1_slot cX1_slot 2 (some .int) :: WW
abbrev wsX2_resultPlace : List Cond := Cond.code yX2_resultPlace cX2_resultPlace 1 (some .long) :: WW
abbrev wsX2_closedData : List Cond := Cond.code yX2_closedData cX2_closedData 3 (some .int) :: WW
abbrev wsX2_openData : List Cond := Cond.code yX2_openData cX2_openData 3 (some .int) :: WW
abbrev wsX2_putName : List Cond := Cond.code yX2_putName cX2_putName 5 none :: WW
abbrev wsX2_nameByte : List Cond := Cond.code yX2_nameByte cX2_nameByte 1 (some .int) :: WW
abbrev wsX2_init : List Cond := Cond.code yX2_init cX2_init 1 none :: WW
abbrev wsX2_gather : List Cond := Cond.code yX2_gather cX2_gather 14 (some .boolean) :: WW
abbrev wsX2_take : List Cond := Cond.code yX2_take cX2_take 8 (some .boolean) :: WW
abbrev wsX2_endsFit : List Cond := Cond.code yX2_endsFit cX2_endsFit 1 (some .boolean) :: WW
abbrev wsX2_placeOf : List Cond := Cond.code yX2_placeOf cX2_placeOf 2 (some .long) :: WW
abbrev wsX2_lengthOf : List Cond := Cond.code yX2_lengthOf cX2_lengthOf 2 (some .int) :: WW
abbrev wsX2_openLengthOf : List Cond := Cond.code yX2_openLengthOf cX2_openLengthOf 2 (some .int) :: WW
abbrev wsX2_kind : List Cond := Cond.code yX2_kind cX2_kind 2 (some .int) :: WW
abbrev wsX2_sector : List Cond := Cond.code yX2_sector cX2_sector 2 (some .long) :: WW
abbrev wsX3_changed : List Cond := Cond.code yX3_changed cX3_changed 1 (some .int) :: WW
abbrev wsX3_refuseOutsideMemory : List Cond := Cond.code yX3_refuseOutsideMemory cX3_refuseOutsideMemory 4 none :: WW
abbrev wsX3_refuseNoRegister : List Cond := Cond.code yX3_refuseNoRegister cX3_refuseNoRegister 2 none :: WW
abbrev wsX3_refuseOutsideDisk : List Cond := Cond.code yX3_refuseOutsideDisk cX3_refuseOutsideDisk 2 none :: WW
abbrev wsX3_offeredWord : List Cond := Cond.code yX3_offeredWord cX3_offeredWord 1 (some .int) :: WW
abbrev wsX3_changeState : List Cond := Cond.code yX3_changeState cX3_changeState 2 none :: WW
abbrev wsX3_work : List Cond := Cond.code yX3_work cX3_work 3 none :: WW
abbrev wsX3_serve : List Cond := Cond.code yX3_serve cX3_serve 5 (some .boolean) :: WW
abbrev wsX3_perform : List Cond := Cond.code yX3_perform cX3_perform 4 (some .int) :: WW
abbrev wsX3_readSectors : List Cond := Cond.code yX3_readSectors cX3_readSectors 7 (some .int) :: WW
abbrev wsX3_init : List Cond := Cond.code yX3_init cX3_init 2 none :: WW
abbrev wsX3_writeSectors : List Cond := Cond.code yX3_writeSectors cX3_writeSectors 8 (some .int) :: WW
abbrev wsX3_onDisk : List Cond := Cond.code yX3_onDisk cX3_onDisk 5 (some .boolean) :: WW
abbrev wsX3_load : List Cond := Cond.code yX3_load cX3_load 4 (some .long) :: WW
abbrev wsX3_store : List Cond := Cond.code yX3_store cX3_store 6 none :: WW
abbrev wsX3_read : List Cond := Cond.code yX3_read cX3_read 2 (some .int) :: WW
abbrev wsX3_write : List Cond := Cond.code yX3_write cX3_write 3 none :: WW
abbrev wsX3_line : List Cond := Cond.code yX3_line cX3_line 1 (some .boolean) :: WW
abbrev wsX3_disk : List Cond := Cond.code yX3_disk cX3_disk 2 (some .int) :: WW
abbrev wsX3_setDisk : List Cond := Cond.code yX3_setDisk cX3_setDisk 3 none :: WW
abbrev wsX3_answered : List Cond := Cond.code yX3_answered cX3_answered 1 (some .int) :: WW
abbrev wsX4_store : List Cond := Cond.code yX4_store cX4_store 6 none :: WW
abbrev wsX4_noPlace : List Cond := Cond.code yX4_noPlace cX4_noPlace 2 (some .boolean) :: WW
abbrev wsX4_disk : List Cond := Cond.code yX4_disk cX4_disk 2 (some .int) :: WW
abbrev wsX4_setDisk : List Cond := Cond.code yX4_setDisk cX4_setDisk 3 none :: WW
abbrev wsX4_noOffset : List Cond := Cond.code yX4_noOffset cX4_noOffset 2 (some .boolean) :: WW
abbrev wsX4_read : List Cond := Cond.code yX4_read cX4_read 2 (some .int) :: WW
abbrev wsX4_begin : List Cond := Cond.code yX4_begin cX4_begin 2 none :: WW
abbrev wsX4_setQueue : List Cond := Cond.code yX4_setQueue cX4_setQueue 8 none :: WW
abbrev wsX4_write : List Cond := Cond.code yX4_write cX4_write 3 none :: WW
abbrev wsX4_line : List Cond := Cond.code yX4_line cX4_line 1 (some .boolean) :: WW
abbrev wsX4_init : List Cond := Cond.code yX4_init cX4_init 2 none :: WW
abbrev wsX4_answered : List Cond := Cond.code yX4_answered cX4_answered 1 (some .int) :: WW
abbrev wsX4_changed : List Cond := Cond.code yX4_changed cX4_changed 1 (some .int) :: WW
abbrev wsX4_gather : List Cond := Cond.code yX4_gather cX4_gather 8 (some .boolean) :: WW
abbrev wsX4_data : List Cond := Cond.code yX4_data cX4_data 5 (some .long) :: WW
abbrev wsX4_beginData : List Cond := Cond.code yX4_beginData cX4_beginData 2 none :: WW
abbrev wsX4_nextByte : List Cond := Cond.code yX4_nextByte cX4_nextByte 1 (some .long) :: WW
abbrev wsX4_areSectors : List Cond := Cond.code yX4_areSectors cX4_areSectors 5 (some .boolean) :: WW
abbrev wsX4_request : List Cond := Cond.code yX4_request cX4_request 14 (some .long) :: WW
abbrev wsX4_breakDown : List Cond := Cond.code yX4_breakDown cX4_breakDown 1 none :: WW
abbrev wsX4_work : List Cond := Cond.code yX4_work cX4_work 7 none :: WW
abbrev wsX4_thrown : List Cond := Cond.code yX4_thrown cX4_thrown 1 (some .int) :: WW
abbrev wsX4_oneMore : List Cond := Cond.code yX4_oneMore cX4_oneMore 8 (some .boolean) :: WW
abbrev wsX4_byteOf : List Cond := Cond.code yX4_byteOf cX4_byteOf 2 (some .int) :: WW
abbrev wsX4_putByte : List Cond := Cond.code yX4_putByte cX4_putByte 4 none :: WW
abbrev wsX4_isThere : List Cond := Cond.code yX4_isThere cX4_isThere 4 (some .boolean) :: WW
abbrev wsX4_number : List Cond := Cond.code yX4_number cX4_number 7 (some .long) :: WW
abbrev wsX4_put : List Cond := Cond.code yX4_put cX4_put 7 none :: WW
abbrev wsX4_isSize : List Cond := Cond.code yX4_isSize cX4_isSize 1 (some .boolean) :: WW
abbrev wsX4_load : List Cond := Cond.code yX4_load cX4_load 4 (some .long) :: WW
abbrev wsL_cell : List Cond := Cond.code yL_cell cL_cell 2 (some .int) :: WW
set_option maxRecDepth 20000 in
theorem w_0 : Cond.fieldLink RX0 7 "QueueDisk$Bytes" "row" "[B" ∈ WW := ww_1 (List.mem_of_getElem? (i := 28) rfl) rfl
set_option maxRecDepth 20000 in
theorem w_1 : Cond.code yX0_holds cX0_holds 5 (some .boolean) ∈ WW := ww_1 (List.mem_of_getElem? (i := 230) rfl) rfl
set_option maxRecDepth 20000 in
theorem w_2 : Cond.initialized RX0 ∈ WW := ww_1 (List.mem_of_getElem? (i := 2) rfl) rfl
set_option maxRecDepth 20000 in
theorem w_3 : Cond.methodLink RX0 13 yX0_holds ∈ WW := ww_2 (List.mem_of_getElem? (i := 15) rfl) rfl
set_option maxRecDepth 20000 in
theorem w_4 : Cond.instanceMethod yX0_holds ∈ WW := ww_1 (List.mem_of_getElem? (i := 228) rfl) rfl
set_option maxRecDepth 20000 in
theorem w_5 : Cond.selects RX0 yX0_holds yX0_holds ∈ WW := ww_1 (List.mem_of_getElem? (i := 229) rfl) rfl
set_option maxRecDepth 20000 in
theorem w_6 : Cond.code yX0_at cX0_at 3 (some .int) ∈ WW := ww_2 (List.mem_of_getElem? (i := 14) rfl) rfl
set_option maxRecDepth 20000 in
theorem w_7 : Cond.methodLink RX0 17 yX0_at ∈ WW := ww_2 (List.mem_of_getElem? (i := 11) rfl) rfl
set_option maxRecDepth 20000 in
theorem w_8 : Cond.instanceMethod yX0_at ∈ WW := ww_2 (List.mem_of_getElem? (i := 12) rfl) rfl
set_option maxRecDepth 20000 in
theorem w_9 : Cond.selects RX0 yX0_at yX0_at ∈ WW := ww_2 (List.mem_of_getElem? (i := 13) rfl) rfl
set_option maxRecDepth 20000 in
theorem w_10 : Cond.laysFinal RX0 "QueueDisk$Bytes" "row" "[B" ∈ WW := ww_1 (List.mem_of_getElem? (i := 29) rfl) rfl
set_option maxRecDepth 20000 in
theorem w_11 : Cond.lays RX1 "QueueDisk$Queue" "size" "I" ∈ WW := ww_1 (List.mem_of_getElem? (i := 52) rfl) rfl
set_option maxRecDepth 20000 in
theorem w_12 : Cond.lays RX1 "QueueDisk$Queue" "ready" "Z" ∈ WW := ww_1 (List.mem_of_getElem? (i := 54) rfl) rfl
set_option maxRecDepth 20000 in
theorem w_13 : Cond.lays RX1 "QueueDisk$Queue" "blocks" "J" ∈ WW := ww_1 (List.mem_of_getElem? (i := 56) rfl) rfl
set_option maxRecDepth 20000 in
theorem w_14 : Cond.lays RX1 "QueueDisk$Queue" "offers" "J" ∈ WW := ww_1 (List.mem_of_getElem? (i := 58) rfl) rfl
set_option maxRecDepth 20000 in
theorem w_15 : Cond.lays RX1 "QueueDisk$Queue" "answers" "J" ∈ WW := ww_1 (List.mem_of_getElem? (i := 60) rfl) rfl
set_option maxRecDepth 20000 in
theorem w_16 : Cond.lays RX1 "QueueDisk$Queue" "taken" "I" ∈ WW := ww_1 (List.mem_of_getElem? (i := 62) rfl) rfl
set_option maxRecDepth 20000 in
theorem w_17 : Cond.lays RX1 "QueueDisk$Queue" "told" "I" ∈ WW := ww_1 (List.mem_of_getElem? (i := 64) rfl) rfl
set_option maxRecDepth 20000 in
theorem w_18 : Cond.lays RX1 "QueueDisk$Queue" "offerMarks" "I" ∈ WW := ww_1 (List.mem_of_getElem? (i := 66) rfl) rfl
set_option maxRecDepth 20000 in
theorem w_19 : Cond.lays RX1 "QueueDisk$Queue" "offerCount" "I" ∈ WW := ww_1 (List.mem_of_getElem? (i := 68) rfl) rfl
set_option maxRecDepth 20000 in
theorem w_20 : Cond.laysFinal RX2 "QueueDisk$Request" "places" "[J" ∈ WW := ww_1 (List.mem_of_getElem? (i := 85) rfl) rfl
set_option maxRecDepth 20000 in
theorem w_21 : Cond.laysFinal RX2 "QueueDisk$Request" "lengths" "[I" ∈ WW := ww_1 (List.mem_of_getElem? (i := 87) rfl) rfl
set_option maxRecDepth 20000 in
theorem w_22 : Cond.lays RX2 "QueueDisk$Request" "count" "I" ∈ WW := ww_1 (List.mem_of_getElem? (i := 89) rfl) rfl
set_option maxRecDepth 20000 in
theorem w_23 : Cond.lays RX2 "QueueDisk$Request" "closed" "I" ∈ WW := ww_1 (List.mem_of_getElem? (i := 91) rfl) rfl
set_option maxRecDepth 20000 in
theorem w_24 : Cond.lays RX2 "QueueDisk$Request" "written" "I" ∈ WW := ww_1 (List.mem_of_getElem? (i := 93) rfl) rfl
set_option maxRecDepth 20000 in
theorem w_25 : Cond.laysFinal RX3 "QueueDisk" "sectorCount" "I" ∈ WW := ww_1 (List.mem_of_getElem? (i := 109) rfl) rfl
set_option maxRecDepth 20000 in
theorem w_26 : Cond.laysFinal RX3 "QueueDisk" "memory" "LQueueDisk$Bytes;" ∈ WW := ww_1 (List.mem_of_getElem? (i := 111) rfl) rfl
set_option maxRecDepth 20000 in
theorem w_27 : Cond.laysFinal RX3 "QueueDisk" "diskBytes" "LQueueDisk$Bytes;" ∈ WW := ww_1 (List.mem_of_getElem? (i := 113) rfl) rfl
set_option maxRecDepth 20000 in
theorem w_28 : Cond.laysFinal RX3 "QueueDisk" "queue" "LQueueDisk$Queue;" ∈ WW := ww_1 (List.mem_of_getElem? (i := 115) rfl) rfl
set_option maxRecDepth 20000 in
theorem w_29 : Cond.laysFinal RX3 "QueueDisk" "request" "LQueueDisk$Request;" ∈ WW := ww_1 (List.mem_of_getElem? (i := 117) rfl) rfl
set_option maxRecDepth 20000 in
theorem w_30 : Cond.lays RX3 "QueueDisk" "offeredChoice" "I" ∈ WW := ww_1 (List.mem_of_getElem? (i := 119) rfl) rfl
set_option maxRecDepth 20000 in
theorem w_31 : Cond.lays RX3 "QueueDisk" "queueChoice" "I" ∈ WW := ww_1 (List.mem_of_getElem? (i := 121) rfl) rfl
set_option maxRecDepth 20000 in
theorem w_32 : Cond.lays RX3 "QueueDisk" "causes" "I" ∈ WW := ww_1 (List.mem_of_getElem? (i := 123) rfl) rfl
set_option maxRecDepth 20000 in
theorem w_33 : Cond.lays RX3 "QueueDisk" "state" "I" ∈ WW := ww_1 (List.mem_of_getElem? (i := 125) rfl) rfl
set_option maxRecDepth 20000 in
theorem w_34 : Cond.lays RX3 "QueueDisk" "answeredInAll" "I" ∈ WW := ww_1 (List.mem_of_getElem? (i := 127) rfl) rfl
set_option maxRecDepth 20000 in
theorem w_35 : Cond.lays RX3 "QueueDisk" "changedInAll" "I" ∈ WW := ww_1 (List.mem_of_getElem? (i := 129) rfl) rfl
set_option maxRecDepth 20000 in
theorem w_36 : Cond.lays RX4 "QueueDiskModel" "code" "I" ∈ WW := ww_3 (List.mem_of_getElem? (i := 33) rfl) rfl
set_option maxRecDepth 20000 in
theorem w_37 : Cond.laysFinal RX4 "QueueDiskModel" "sectors" "I" ∈ WW := ww_3 (List.mem_of_getElem? (i := 35) rfl) rfl
set_option maxRecDepth 20000 in
theorem w_38 : Cond.laysFinal RX4 "QueueDiskModel" "memory" "[J" ∈ WW := ww_3 (List.mem_of_getElem? (i := 37) rfl) rfl
set_option maxRecDepth 20000 in
theorem w_39 : Cond.laysFinal RX4 "QueueDiskModel" "disk" "[J" ∈ WW := ww_3 (List.mem_of_getElem? (i := 39) rfl) rfl
set_option maxRecDepth 20000 in
theorem w_40 : Cond.lays RX4 "QueueDiskModel" "chosen" "I" ∈ WW := ww_3 (List.mem_of_getElem? (i := 41) rfl) rfl
set_option maxRecDepth 20000 in
theorem w_41 : Cond.lays RX4 "QueueDiskModel" "features" "I" ∈ WW := ww_3 (List.mem_of_getElem? (i := 43) rfl) rfl
set_option maxRecDepth 20000 in
theorem w_42 : Cond.lays RX4 "QueueDiskModel" "size" "I" ∈ WW := ww_3 (List.mem_of_getElem? (i := 45) rfl) rfl
set_option maxRecDepth 20000 in
theorem w_43 : Cond.lays RX4 "QueueDiskModel" "ready" "Z" ∈ WW := ww_3 (List.mem_of_getElem? (i := 47) rfl) rfl
set_option maxRecDepth 20000 in
theorem w_44 : Cond.lays RX4 "QueueDiskModel" "causes" "I" ∈ WW := ww_3 (List.mem_of_getElem? (i := 49) rfl) rfl
set_option maxRecDepth 20000 in
theorem w_45 : Cond.lays RX4 "QueueDiskModel" "state" "I" ∈ WW := ww_3 (List.mem_of_getElem? (i := 51) rfl) rfl
set_option maxRecDepth 20000 in
theorem w_46 : Cond.laysFinal RX4 "QueueDiskModel" "places" "[J" ∈ WW := ww_3 (List.mem_of_getElem? (i := 53) rfl) rfl
set_option maxRecDepth 20000 in
theorem w_47 : Cond.lays RX4 "QueueDiskModel" "come" "I" ∈ WW := ww_3 (List.mem_of_getElem? (i := 55) rfl) rfl
set_option maxRecDepth 20000 in
theorem w_48 : Cond.lays RX4 "QueueDiskModel" "given" "I" ∈ WW := ww_3 (List.mem_of_getElem? (i := 57) rfl) rfl
set_option maxRecDepth 20000 in
theorem w_49 : Cond.lays RX4 "QueueDiskModel" "answered" "I" ∈ WW := ww_3 (List.mem_of_getElem? (i := 59) rfl) rfl
set_option maxRecDepth 20000 in
theorem w_50 : Cond.lays RX4 "QueueDiskModel" "changed" "I" ∈ WW := ww_3 (List.mem_of_getElem? (i := 61) rfl) rfl
set_option maxRecDepth 20000 in
theorem w_51 : Cond.lays RX4 "QueueDiskModel" "blocks" "I" ∈ WW := ww_3 (List.mem_of_getElem? (i := 63) rfl) rfl
set_option maxRecDepth 20000 in
theorem w_52 : Cond.laysFinal RX4 "QueueDiskModel" "starts" "[J" ∈ WW := ww_3 (List.mem_of_getElem? (i := 65) rfl) rfl
set_option maxRecDepth 20000 in
theorem w_53 : Cond.laysFinal RX4 "QueueDiskModel" "lengths" "[J" ∈ WW := ww_3 (List.mem_of_getElem? (i := 67) rfl) rfl
set_option maxRecDepth 20000 in
theorem w_54 : Cond.laysFinal RX4 "QueueDiskModel" "opens" "[Z" ∈ WW := ww_3 (List.mem_of_getElem? (i := 69) rfl) rfl
set_option maxRecDepth 20000 in
theorem w_55 : Cond.lays RX4 "QueueDiskModel" "at" "I" ∈ WW := ww_3 (List.mem_of_getElem? (i := 71) rfl) rfl
set_option maxRecDepth 20000 in
theorem w_56 : Cond.lays RX4 "QueueDiskModel" "within" "J" ∈ WW := ww_3 (List.mem_of_getElem? (i := 73) rfl) rfl
set_option maxRecDepth 20000 in
theorem inX0 : ∀ w ∈ u_ws RX0 TX0 1, w ∈ WW := fun w h => by
  obtain ⟨k, hk, rfl⟩ := List.mem_map.mp h
  have hk := List.mem_range.mp hk
  match k, hk with
  | 0, _ => exact w_10
  | k + 1, h => exact absurd h (by omega)
set_option maxRecDepth 20000 in
theorem inX1 : ∀ w ∈ u_ws RX1 TX1 9, w ∈ WW := fun w h => by
  obtain ⟨k, hk, rfl⟩ := List.mem_map.mp h
  have hk := List.mem_range.mp hk
  match k, hk with
  | 0, _ => exact w_11
  | 1, _ => exact w_12
  | 2, _ => exact w_13
  | 3, _ => exact w_14
  | 4, _ => exact w_15
  | 5, _ => exact w_16
  | 6, _ => exact w_17
  | 7, _ => exact w_18
  | 8, _ => exact w_19
  | k + 9, h => exact absurd h (by omega)
set_option maxRecDepth 20000 in
theorem inX2 : ∀ w ∈ u_ws RX2 TX2 5, w ∈ WW := fun w h => by
  obtain ⟨k, hk, rfl⟩ := List.mem_map.mp h
  have hk := List.mem_range.mp hk
  match k, hk with
  | 0, _ => exact w_20
  | 1, _ => exact w_21
  | 2, _ => exact w_22
  | 3, _ => exact w_23
  | 4, _ => exact w_24
  | k + 5, h => exact absurd h (by omega)
set_option maxRecDepth 20000 in
theorem inX3 : ∀ w ∈ u_ws RX3 TX3 11, w ∈ WW := fun w h => by
  obtain ⟨k, hk, rfl⟩ := List.mem_map.mp h
  have hk := List.mem_range.mp hk
  match k, hk with
  | 0, _ => exact w_25
  | 1, _ => exact w_26
  | 2, _ => exact w_27
  | 3, _ => exact w_28
  | 4, _ => exact w_29
  | 5, _ => exact w_30
  | 6, _ => exact w_31
  | 7, _ => exact w_32
  | 8, _ => exact w_33
  | 9, _ => exact w_34
  | 10, _ => exact w_35
  | k + 11, h => exact absurd h (by omega)
set_option maxRecDepth 20000 in
theorem inX4 : ∀ w ∈ u_ws RX4 TX4 21, w ∈ WW := fun w h => by
  obtain ⟨k, hk, rfl⟩ := List.mem_map.mp h
  have hk := List.mem_range.mp hk
  match k, hk with
  | 0, _ => exact w_36
  | 1, _ => exact w_37
  | 2, _ => exact w_38
  | 3, _ => exact w_39
  | 4, _ => exact w_40
  | 5, _ => exact w_41
  | 6, _ => exact w_42
  | 7, _ => exact w_43
  | 8, _ => exact w_44
  | 9, _ => exact w_45
  | 10, _ => exact w_46
  | 11, _ => exact w_47
  | 12, _ => exact w_48
  | 13, _ => exact w_49
  | 14, _ => exact w_50
  | 15, _ => exact w_51
  | 16, _ => exact w_52
  | 17, _ => exact w_53
  | 18, _ => exact w_54
  | 19, _ => exact w_55
  | 20, _ => exact w_56
  | k + 21, h => exact absurd h (by omega)
