/-! the words of a method: its code, and the tables' words that stay -/
abbrev wsX0_init : List Cond := Cond.code yX0_init cX0_init 2 none :: WW
abbrev wsX0_holds : List Cond := Cond.code yX0_holds cX0_holds 5 (some .boolean) :: WW
abbrev wsX0_at : List Cond := Cond.code yX0_at cX0_at 3 (some .int) :: WW
abbrev wsX0_put : List Cond := Cond.code yX0_put cX0_put 4 none :: WW
abbrev wsX0_number : List Cond := Cond.code yX0_number cX0_number 7 (some .long) :: WW
abbrev wsX0_putNumber : List Cond := Cond.code yX0_putNumber cX0_putNumber 9 none :: WW
abbrev wsX0_copyTo : List Cond := Cond.code yX0_copyTo cX0_copyTo 7 none :: WW
abbrev wsX1_blockPlace : List Cond := Cond.code yX1_blockPlace cX1_blockPlace 2 (some .long) :: WW
abbrev wsX1_offerPlace : List Cond := Cond.code yX1_offerPlace cX1_offerPlace 1 (some .long) :: WW
abbrev wsX1_answerPlace : List Cond := Cond.code yX1_answerPlace cX1_answerPlace 1 (some .long) :: WW
abbrev wsX1_answerCountPlace : List Cond := Cond.code yX1_answerCountPlace cX1_answerCountPlace 1 (some .long) :: WW
abbrev wsX1_canAnswer : List Cond := Cond.code yX1_canAnswer cX1_canAnswer 2 (some .boolean) :: WW
abbrev wsX1_answer : List Cond := Cond.code yX1_answer cX1_answer 6 none :: WW
abbrev wsX1_init : List Cond := Cond.code yX1_init cX1_init 1 none :: WW
abbrev wsX1_forget : List Cond := Cond.code yX1_forget cX1_forget 1 none :: WW
abbrev wsX1_set : List Cond := Cond.code yX1_set cX1_set 3 none :: WW
abbrev wsX1_setUp : List Cond := Cond.code yX1_setUp cX1_setUp 3 none :: WW
abbrev wsX1_withLower : List Cond := Cond.code yX1_withLower cX1_withLower 3 (some .long) :: WW
abbrev wsX1_withUpper : List Cond := Cond.code yX1_withUpper cX1_withUpper 3 (some .long) :: WW
abbrev wsX1_lookAtOffers : List Cond := Cond.code yX1_lookAtOffers cX1_lookAtOffers 4 (some .boolean) :: WW
abbrev wsX1_ahead : List Cond := Cond.code yX1_ahead cX1_ahead 1 (some .int) :: WW
abbrev wsX1_slot : List Cond := Cond.code yX1_slot cX1_slot 2 (some .int) :: WW
abbrev wsX2_resultPlace : List Cond := Cond.code yX2_resultPlace cX2_resultPlace 1 (some .long) :: WW
abbrev wsX2_closedData : List Cond := Cond.code yX2_closedData cX2_closedData 3 (some .int) :: WW
abbrev wsX2_openData : List Cond := Cond.code yX2_openData cX2_openData 3 (some .int) :: WW
abbrev wsX2_putName : List Cond := Cond.code yX2_putName cX2_putName 5 none :: WW
abbrev wsX2_nameByte : List Cond := Cond.code yX2_nameByte cX2_nameByte 1 (some .int) :: WW
abbrev wsX2_init : List Cond := Cond.code yX2_init cX2_init 1 none :: WW
abbrev wsX2_gather : List Cond := Cond.code yX2_gather cX2_gather 14 (some .boolean) :: WW
abbrev wsX2_take : List Cond := Cond.code yX2_take cX2_take 8 (some .boolean) :: WW
abbrev wsX2_endsFit : List Cond := Cond.code yX2_endsFit cX2_endsFit 1 (some .boolean) :: WW
abbrev wsX2_placeOf : List Cond := Cond.code yX2_placeOf cX2_placeOf 2 (some .long) :: WW
abbrev wsX2_lengthOf : List Cond := Cond.code yX2_lengthOf cX2_lengthOf 2 (some .int) :: WW
abbrev wsX2_openLengthOf : List Cond := Cond.code yX2_openLengthOf cX2_openLengthOf 2 (some .int) :: WW
abbrev wsX2_kind : List Cond := Cond.code yX2_kind cX2_kind 2 (some .int) :: WW
abbrev wsX2_sector : List Cond := Cond.code yX2_sector cX2_sector 2 (some .long) :: WW
abbrev wsX3_changed : List Cond := Cond.code yX3_changed cX3_changed 1 (some .int) :: WW
abbrev wsX3_refuseOutsideMemory : List Cond := Cond.code yX3_refuseOutsideMemory cX3_refuseOutsideMemory 4 none :: WW
abbrev wsX3_refuseNoRegister : List Cond := Cond.code yX3_refuseNoRegister cX3_refuseNoRegister 2 none :: WW
abbrev wsX3_refuseOutsideDisk : List Cond := Cond.code yX3_refuseOutsideDisk cX3_refuseOutsideDisk 2 none :: WW
abbrev wsX3_offeredWord : List Cond := Cond.code yX3_offeredWord cX3_offeredWord 1 (some .int) :: WW
abbrev wsX3_changeState : List Cond := Cond.code yX3_changeState cX3_changeState 2 none :: WW
abbrev wsX3_work : List Cond := Cond.code yX3_work cX3_work 3 none :: WW
abbrev wsX3_serve : List Cond := Cond.code yX3_serve cX3_serve 5 (some .boolean) :: WW
abbrev wsX3_perform : List Cond := Cond.code yX3_perform cX3_perform 4 (some .int) :: WW
abbrev wsX3_readSectors : List Cond := Cond.code yX3_readSectors cX3_readSectors 7 (some .int) :: WW
abbrev wsX3_init : List Cond := Cond.code yX3_init cX3_init 2 none :: WW
abbrev wsX3_writeSectors : List Cond := Cond.code yX3_writeSectors cX3_writeSectors 8 (some .int) :: WW
abbrev wsX3_onDisk : List Cond := Cond.code yX3_onDisk cX3_onDisk 5 (some .boolean) :: WW
abbrev wsX3_load : List Cond := Cond.code yX3_load cX3_load 4 (some .long) :: WW
abbrev wsX3_store : List Cond := Cond.code yX3_store cX3_store 6 none :: WW
abbrev wsX3_read : List Cond := Cond.code yX3_read cX3_read 2 (some .int) :: WW
abbrev wsX3_write : List Cond := Cond.code yX3_write cX3_write 3 none :: WW
abbrev wsX3_line : List Cond := Cond.code yX3_line cX3_line 1 (some .boolean) :: WW
abbrev wsX3_disk : List Cond := Cond.code yX3_disk cX3_disk 2 (some .int) :: WW
abbrev wsX3_setDisk : List Cond := Cond.code yX3_setDisk cX3_setDisk 3 none :: WW
abbrev wsX3_answered : List Cond := Cond.code yX3_answered cX3_answered 1 (some .int) :: WW
abbrev wsX4_store : List Cond := Cond.code yX4_store cX4_store 6 none :: WW
abbrev wsX4_noPlace : List Cond := Cond.code yX4_noPlace cX4_noPlace 2 (some .boolean) :: WW
abbrev wsX4_disk : List Cond := Cond.code yX4_disk cX4_disk 2 (some .int) :: WW
abbrev wsX4_setDisk : List Cond := Cond.code yX4_setDisk cX4_setDisk 3 none :: WW
abbrev wsX4_noOffset : List Cond := Cond.code yX4_noOffset cX4_noOffset 2 (some .boolean) :: WW
abbrev wsX4_read : List Cond := Cond.code yX4_read cX4_read 2 (some .int) :: WW
abbrev wsX4_begin : List Cond := Cond.code yX4_begin cX4_begin 2 none :: WW
abbrev wsX4_setQueue : List Cond := Cond.code yX4_setQueue cX4_setQueue 8 none :: WW
abbrev wsX4_write : List Cond := Cond.code yX4_write cX4_write 3 none :: WW
abbrev wsX4_line : List Cond := Cond.code yX4_line cX4_line 1 (some .boolean) :: WW
abbrev wsX4_init : List Cond := Cond.code yX4_init cX4_init 2 none :: WW
abbrev wsX4_answered : List Cond := Cond.code yX4_answered cX4_answered 1 (some .int) :: WW
abbrev wsX4_changed : List Cond := Cond.code yX4_changed cX4_changed 1 (some .int) :: WW
abbrev wsX4_gather : List Cond := Cond.code yX4_gather cX4_gather 8 (some .boolean) :: WW
abbrev wsX4_data : List Cond := Cond.code yX4_data cX4_data 5 (some .long) :: WW
abbrev wsX4_beginData : List Cond := Cond.code yX4_beginData cX4_beginData 2 none :: WW
abbrev wsX4_nextByte : List Cond := Cond.code yX4_nextByte cX4_nextByte 1 (some .long) :: WW
abbrev wsX4_areSectors : List Cond := Cond.code yX4_areSectors cX4_areSectors 5 (some .boolean) :: WW
abbrev wsX4_request : List Cond := Cond.code yX4_request cX4_request 14 (some .long) :: WW
abbrev wsX4_breakDown : List Cond := Cond.code yX4_breakDown cX4_breakDown 1 none :: WW
abbrev wsX4_work : List Cond := Cond.code yX4_work cX4_work 7 none :: WW
abbrev wsX4_oneMore : List Cond := Cond.code yX4_oneMore cX4_oneMore 8 (some .boolean) :: WW
abbrev wsX4_byteOf : List Cond := Cond.code yX4_byteOf cX4_byteOf 2 (some .int) :: WW
abbrev wsX4_putByte : List Cond := Cond.code yX4_putByte cX4_putByte 4 none :: WW
abbrev wsX4_isThere : List Cond := Cond.code yX4_isThere cX4_isThere 4 (some .boolean) :: WW
abbrev wsX4_number : List Cond := Cond.code yX4_number cX4_number 7 (some .long) :: WW
abbrev wsX4_put : List Cond := Cond.code yX4_put cX4_put 7 none :: WW
abbrev wsX4_isSize : List Cond := Cond.code yX4_isSize cX4_isSize 1 (some .boolean) :: WW
abbrev wsX4_load : List Cond := Cond.code yX4_load cX4_load 4 (some .long) :: WW
abbrev wsL_cell : List Cond := Cond.code yL_cell cL_cell 2 (some .int) :: WW
set_option maxRecDepth 20000 in
theorem w_2e7274a931 : Cond.laysFinal RX0 "QueueDisk$Bytes" "row" "[B" ∈ WW := ww_1 (List.mem_of_getElem? (i := 29) rfl) rfl
set_option maxRecDepth 20000 in
theorem w_f3d642471f : Cond.lays RX1 "QueueDisk$Queue" "size" "I" ∈ WW := ww_1 (List.mem_of_getElem? (i := 52) rfl) rfl
set_option maxRecDepth 20000 in
theorem w_b91fa1c44b : Cond.lays RX1 "QueueDisk$Queue" "ready" "Z" ∈ WW := ww_1 (List.mem_of_getElem? (i := 54) rfl) rfl
set_option maxRecDepth 20000 in
theorem w_0a3176965a : Cond.lays RX1 "QueueDisk$Queue" "blocks" "J" ∈ WW := ww_1 (List.mem_of_getElem? (i := 56) rfl) rfl
set_option maxRecDepth 20000 in
theorem w_472c201481 : Cond.lays RX1 "QueueDisk$Queue" "offers" "J" ∈ WW := ww_1 (List.mem_of_getElem? (i := 58) rfl) rfl
set_option maxRecDepth 20000 in
theorem w_16fcbf10a9 : Cond.lays RX1 "QueueDisk$Queue" "answers" "J" ∈ WW := ww_1 (List.mem_of_getElem? (i := 60) rfl) rfl
set_option maxRecDepth 20000 in
theorem w_be03e911cf : Cond.lays RX1 "QueueDisk$Queue" "taken" "I" ∈ WW := ww_1 (List.mem_of_getElem? (i := 62) rfl) rfl
set_option maxRecDepth 20000 in
theorem w_44fcb62ee2 : Cond.lays RX1 "QueueDisk$Queue" "told" "I" ∈ WW := ww_1 (List.mem_of_getElem? (i := 64) rfl) rfl
set_option maxRecDepth 20000 in
theorem w_7ab87c6a2c : Cond.lays RX1 "QueueDisk$Queue" "offerMarks" "I" ∈ WW := ww_1 (List.mem_of_getElem? (i := 66) rfl) rfl
set_option maxRecDepth 20000 in
theorem w_89979aca03 : Cond.lays RX1 "QueueDisk$Queue" "offerCount" "I" ∈ WW := ww_1 (List.mem_of_getElem? (i := 68) rfl) rfl
set_option maxRecDepth 20000 in
theorem w_4addfac221 : Cond.laysFinal RX2 "QueueDisk$Request" "places" "[J" ∈ WW := ww_1 (List.mem_of_getElem? (i := 85) rfl) rfl
set_option maxRecDepth 20000 in
theorem w_ab3bf8ecf6 : Cond.laysFinal RX2 "QueueDisk$Request" "lengths" "[I" ∈ WW := ww_1 (List.mem_of_getElem? (i := 87) rfl) rfl
set_option maxRecDepth 20000 in
theorem w_622224a652 : Cond.lays RX2 "QueueDisk$Request" "count" "I" ∈ WW := ww_1 (List.mem_of_getElem? (i := 89) rfl) rfl
set_option maxRecDepth 20000 in
theorem w_7678896bdb : Cond.lays RX2 "QueueDisk$Request" "closed" "I" ∈ WW := ww_1 (List.mem_of_getElem? (i := 91) rfl) rfl
set_option maxRecDepth 20000 in
theorem w_c812139005 : Cond.lays RX2 "QueueDisk$Request" "written" "I" ∈ WW := ww_1 (List.mem_of_getElem? (i := 93) rfl) rfl
set_option maxRecDepth 20000 in
theorem w_dc9c5df97a : Cond.laysFinal RX3 "QueueDisk" "sectorCount" "I" ∈ WW := ww_1 (List.mem_of_getElem? (i := 109) rfl) rfl
set_option maxRecDepth 20000 in
theorem w_590962c7bd : Cond.laysFinal RX3 "QueueDisk" "memory" "LQueueDisk$Bytes;" ∈ WW := ww_1 (List.mem_of_getElem? (i := 111) rfl) rfl
set_option maxRecDepth 20000 in
theorem w_2b2c79c0ca : Cond.laysFinal RX3 "QueueDisk" "diskBytes" "LQueueDisk$Bytes;" ∈ WW := ww_1 (List.mem_of_getElem? (i := 113) rfl) rfl
set_option maxRecDepth 20000 in
theorem w_7714f98337 : Cond.laysFinal RX3 "QueueDisk" "queue" "LQueueDisk$Queue;" ∈ WW := ww_1 (List.mem_of_getElem? (i := 115) rfl) rfl
set_option maxRecDepth 20000 in
theorem w_935668b1d4 : Cond.laysFinal RX3 "QueueDisk" "request" "LQueueDisk$Request;" ∈ WW := ww_1 (List.mem_of_getElem? (i := 117) rfl) rfl
set_option maxRecDepth 20000 in
theorem w_480d5d14eb : Cond.lays RX3 "QueueDisk" "offeredChoice" "I" ∈ WW := ww_1 (List.mem_of_getElem? (i := 119) rfl) rfl
set_option maxRecDepth 20000 in
theorem w_51d2fc8560 : Cond.lays RX3 "QueueDisk" "queueChoice" "I" ∈ WW := ww_1 (List.mem_of_getElem? (i := 121) rfl) rfl
set_option maxRecDepth 20000 in
theorem w_69bf64187d : Cond.lays RX3 "QueueDisk" "causes" "I" ∈ WW := ww_1 (List.mem_of_getElem? (i := 123) rfl) rfl
set_option maxRecDepth 20000 in
theorem w_d9d0893249 : Cond.lays RX3 "QueueDisk" "state" "I" ∈ WW := ww_1 (List.mem_of_getElem? (i := 125) rfl) rfl
set_option maxRecDepth 20000 in
theorem w_93878d483f : Cond.lays RX3 "QueueDisk" "answeredInAll" "I" ∈ WW := ww_1 (List.mem_of_getElem? (i := 127) rfl) rfl
set_option maxRecDepth 20000 in
theorem w_6396578d5b : Cond.lays RX3 "QueueDisk" "changedInAll" "I" ∈ WW := ww_1 (List.mem_of_getElem? (i := 129) rfl) rfl
set_option maxRecDepth 20000 in
theorem w_9c7b971309 : Cond.lays RX4 "QueueDiskModel" "code" "I" ∈ WW := ww_3 (List.mem_of_getElem? (i := 33) rfl) rfl
set_option maxRecDepth 20000 in
theorem w_26da7c41a6 : Cond.laysFinal RX4 "QueueDiskModel" "sectors" "I" ∈ WW := ww_3 (List.mem_of_getElem? (i := 35) rfl) rfl
set_option maxRecDepth 20000 in
theorem w_f919f56705 : Cond.laysFinal RX4 "QueueDiskModel" "memory" "[J" ∈ WW := ww_3 (List.mem_of_getElem? (i := 37) rfl) rfl
set_option maxRecDepth 20000 in
theorem w_d5dbe08693 : Cond.laysFinal RX4 "QueueDiskModel" "disk" "[J" ∈ WW := ww_3 (List.mem_of_getElem? (i := 39) rfl) rfl
set_option maxRecDepth 20000 in
theorem w_9a20d05dca : Cond.lays RX4 "QueueDiskModel" "chosen" "I" ∈ WW := ww_3 (List.mem_of_getElem? (i := 41) rfl) rfl
set_option maxRecDepth 20000 in
theorem w_fec1f0ba4b : Cond.lays RX4 "QueueDiskModel" "features" "I" ∈ WW := ww_3 (List.mem_of_getElem? (i := 43) rfl) rfl
set_option maxRecDepth 20000 in
theorem w_0eae35f8cd : Cond.lays RX4 "QueueDiskModel" "size" "I" ∈ WW := ww_3 (List.mem_of_getElem? (i := 45) rfl) rfl
set_option maxRecDepth 20000 in
theorem w_ea2fb727ca : Cond.lays RX4 "QueueDiskModel" "ready" "Z" ∈ WW := ww_3 (List.mem_of_getElem? (i := 47) rfl) rfl
set_option maxRecDepth 20000 in
theorem w_28b14db4db : Cond.lays RX4 "QueueDiskModel" "causes" "I" ∈ WW := ww_3 (List.mem_of_getElem? (i := 49) rfl) rfl
set_option maxRecDepth 20000 in
theorem w_d0ab4351af : Cond.lays RX4 "QueueDiskModel" "state" "I" ∈ WW := ww_3 (List.mem_of_getElem? (i := 51) rfl) rfl
set_option maxRecDepth 20000 in
theorem w_91d7440d74 : Cond.laysFinal RX4 "QueueDiskModel" "places" "[J" ∈ WW := ww_3 (List.mem_of_getElem? (i := 53) rfl) rfl
set_option maxRecDepth 20000 in
theorem w_c76bc5e142 : Cond.lays RX4 "QueueDiskModel" "come" "I" ∈ WW := ww_3 (List.mem_of_getElem? (i := 55) rfl) rfl
set_option maxRecDepth 20000 in
theorem w_f83780299c : Cond.lays RX4 "QueueDiskModel" "given" "I" ∈ WW := ww_3 (List.mem_of_getElem? (i := 57) rfl) rfl
set_option maxRecDepth 20000 in
theorem w_04815ea8bc : Cond.lays RX4 "QueueDiskModel" "answered" "I" ∈ WW := ww_3 (List.mem_of_getElem? (i := 59) rfl) rfl
set_option maxRecDepth 20000 in
theorem w_560a48718a : Cond.lays RX4 "QueueDiskModel" "changed" "I" ∈ WW := ww_3 (List.mem_of_getElem? (i := 61) rfl) rfl
set_option maxRecDepth 20000 in
theorem w_389cf5b508 : Cond.lays RX4 "QueueDiskModel" "blocks" "I" ∈ WW := ww_3 (List.mem_of_getElem? (i := 63) rfl) rfl
set_option maxRecDepth 20000 in
theorem w_b1cf071386 : Cond.laysFinal RX4 "QueueDiskModel" "starts" "[J" ∈ WW := ww_3 (List.mem_of_getElem? (i := 65) rfl) rfl
set_option maxRecDepth 20000 in
theorem w_056314cd34 : Cond.laysFinal RX4 "QueueDiskModel" "lengths" "[J" ∈ WW := ww_3 (List.mem_of_getElem? (i := 67) rfl) rfl
set_option maxRecDepth 20000 in
theorem w_5a723e8a95 : Cond.laysFinal RX4 "QueueDiskModel" "opens" "[Z" ∈ WW := ww_3 (List.mem_of_getElem? (i := 69) rfl) rfl
set_option maxRecDepth 20000 in
theorem w_bf31e57bec : Cond.lays RX4 "QueueDiskModel" "at" "I" ∈ WW := ww_3 (List.mem_of_getElem? (i := 71) rfl) rfl
set_option maxRecDepth 20000 in
theorem w_19921edd7e : Cond.lays RX4 "QueueDiskModel" "within" "J" ∈ WW := ww_3 (List.mem_of_getElem? (i := 73) rfl) rfl
theorem inX0 : ∀ w ∈ u_ws RX0 TX0 1, w ∈ WW := fun w h => by
  obtain ⟨k, hk, rfl⟩ := List.mem_map.mp h
  have hk := List.mem_range.mp hk
  match k, hk with
  | 0, _ => exact w_2e7274a931
  | k + 1, h => exact absurd h (by omega)
theorem inX1 : ∀ w ∈ u_ws RX1 TX1 9, w ∈ WW := fun w h => by
  obtain ⟨k, hk, rfl⟩ := List.mem_map.mp h
  have hk := List.mem_range.mp hk
  match k, hk with
  | 0, _ => exact w_f3d642471f
  | 1, _ => exact w_b91fa1c44b
  | 2, _ => exact w_0a3176965a
  | 3, _ => exact w_472c201481
  | 4, _ => exact w_16fcbf10a9
  | 5, _ => exact w_be03e911cf
  | 6, _ => exact w_44fcb62ee2
  | 7, _ => exact w_7ab87c6a2c
  | 8, _ => exact w_89979aca03
  | k + 9, h => exact absurd h (by omega)
theorem inX2 : ∀ w ∈ u_ws RX2 TX2 5, w ∈ WW := fun w h => by
  obtain ⟨k, hk, rfl⟩ := List.mem_map.mp h
  have hk := List.mem_range.mp hk
  match k, hk with
  | 0, _ => exact w_4addfac221
  | 1, _ => exact w_ab3bf8ecf6
  | 2, _ => exact w_622224a652
  | 3, _ => exact w_7678896bdb
  | 4, _ => exact w_c812139005
  | k + 5, h => exact absurd h (by omega)
theorem inX3 : ∀ w ∈ u_ws RX3 TX3 11, w ∈ WW := fun w h => by
  obtain ⟨k, hk, rfl⟩ := List.mem_map.mp h
  have hk := List.mem_range.mp hk
  match k, hk with
  | 0, _ => exact w_dc9c5df97a
  | 1, _ => exact w_590962c7bd
  | 2, _ => exact w_2b2c79c0ca
  | 3, _ => exact w_7714f98337
  | 4, _ => exact w_935668b1d4
  | 5, _ => exact w_480d5d14eb
  | 6, _ => exact w_51d2fc8560
  | 7, _ => exact w_69bf64187d
  | 8, _ => exact w_d9d0893249
  | 9, _ => exact w_93878d483f
  | 10, _ => exact w_6396578d5b
  | k + 11, h => exact absurd h (by omega)
theorem inX4 : ∀ w ∈ u_ws RX4 TX4 21, w ∈ WW := fun w h => by
  obtain ⟨k, hk, rfl⟩ := List.mem_map.mp h
  have hk := List.mem_range.mp hk
  match k, hk with
  | 0, _ => exact w_9c7b971309
  | 1, _ => exact w_26da7c41a6
  | 2, _ => exact w_f919f56705
  | 3, _ => exact w_d5dbe08693
  | 4, _ => exact w_9a20d05dca
  | 5, _ => exact w_fec1f0ba4b
  | 6, _ => exact w_0eae35f8cd
  | 7, _ => exact w_ea2fb727ca
  | 8, _ => exact w_28b14db4db
  | 9, _ => exact w_d0ab4351af
  | 10, _ => exact w_91d7440d74
  | 11, _ => exact w_c76bc5e142
  | 12, _ => exact w_f83780299c
  | 13, _ => exact w_04815ea8bc
  | 14, _ => exact w_560a48718a
  | 15, _ => exact w_389cf5b508
  | 16, _ => exact w_b1cf071386
  | 17, _ => exact w_056314cd34
  | 18, _ => exact w_5a723e8a95
  | 19, _ => exact w_bf31e57bec
  | 20, _ => exact w_19921edd7e
  | k + 21, h => exact absurd h (by omega)
