theorem cwj34 : Cond.selects RJx4a65c yJx4a65c_add_72be8 yJx4a65c_add_72be8 ∈ en_cw := cw_at 34 (by decide +kernel) (by decide +kernel)
theorem cwj35 : Cond.selects RJx4a65c yJx4a65c_grow_d5877 yJx4a65c_grow_d5877 ∈ en_cw := cw_at 35 (by decide +kernel) (by decide +kernel)
theorem cwj36 : Cond.selects RJx4a65c yJx4a65c_grow_92f84 yJx4a65c_grow_92f84 ∈ en_cw := cw_at 36 (by decide +kernel) (by decide +kernel)
theorem cwj37 : Cond.selects RX7 yX7_isThrown yX7_isThrown ∈ en_cw := cw_at 37 (by decide +kernel) (by decide +kernel)
theorem cwj39 : Cond.selects RX7 yX7_isNoPlayer yX7_isNoPlayer ∈ en_cw := cw_at 39 (by decide +kernel) (by decide +kernel)
theorem cwj40 : Cond.selects RX7 yX7_strokesFor yX7_strokesFor ∈ en_cw := cw_at 40 (by decide +kernel) (by decide +kernel)
theorem cwj69 : Cond.selects RX7 yX7_isRanked yX7_isRanked ∈ en_cw := cw_at 69 (by decide +kernel) (by decide +kernel)
theorem cwj71 : Cond.selects RJx4a65c yJx4a65c_fastRemove_b59b0 yJx4a65c_fastRemove_b59b0 ∈ en_cw := cw_at 71 (by decide +kernel) (by decide +kernel)
theorem cwj72 : Cond.selects RJx4a65c yJx4a65c_rangeCheckForAdd_d00df yJx4a65c_rangeCheckForAdd_d00df ∈ en_cw := cw_at 72 (by decide +kernel) (by decide +kernel)
theorem cwj82 : Cond.initialized RX7 ∈ en_cw := cw_at 82 (by decide +kernel) (by decide +kernel)
theorem cwj83 : Cond.initialized RJxa1e45 ∈ en_cw := cw_at 83 (by decide +kernel) (by decide +kernel)
theorem cwj84 : Cond.initialized RJxc12de ∈ en_cw := cw_at 84 (by decide +kernel) (by decide +kernel)
theorem cwj85 : Cond.initialized RJx4a65c ∈ en_cw := cw_at 85 (by decide +kernel) (by decide +kernel)
theorem cwj86 : Cond.initialized RJ8 ∈ en_cw := cw_at 86 (by decide +kernel) (by decide +kernel)
theorem cwj87 : Cond.initialized "java/lang/Math" ∈ en_cw := cw_at 87 (by decide +kernel) (by decide +kernel)
theorem cwj88 : Cond.initialized RJ7 ∈ en_cw := cw_at 88 (by decide +kernel) (by decide +kernel)
theorem cwj89 : Cond.initialized "java/lang/System" ∈ en_cw := cw_at 89 (by decide +kernel) (by decide +kernel)
theorem cwj100 : Cond.initialized RJxd2413 ∈ en_cw := cw_at 100 (by decide +kernel) (by decide +kernel)
theorem cwj101 : Cond.initialized RJ6 ∈ en_cw := cw_at 101 (by decide +kernel) (by decide +kernel)
theorem cwj102 : Cond.initialized RJ15 ∈ en_cw := cw_at 102 (by decide +kernel) (by decide +kernel)
theorem cwj103 : Cond.initialized RJ3 ∈ en_cw := cw_at 103 (by decide +kernel) (by decide +kernel)
theorem cwj105 : Cond.initialized RJx35411 ∈ en_cw := cw_at 105 (by decide +kernel) (by decide +kernel)
theorem cwj117 : Cond.instanceMethod objectInit ∈ en_cw := cw_at 117 (by decide +kernel) (by decide +kernel)
theorem cwj118 : Cond.code objectInit ⟨#[0xb1]⟩ 1 none ∈ en_cw := cw_at 118 (by decide +kernel) (by decide +kernel)
theorem cwj256 : Cond.arrayClass .int ∈ en_cw := cw_at 256 (by decide +kernel) (by decide +kernel)
theorem cwj413 : Cond.static yJ9_floorDiv_7cf53 ∈ en_cw := cw_at 413 (by decide +kernel) (by decide +kernel)
theorem cwj414 : Cond.code yJ9_floorDiv_7cf53 cJ9_floorDiv_7cf53 3 (some .int) ∈ en_cw := cw_at 414 (by decide +kernel) (by decide +kernel)
theorem cwj420 : Cond.static Lib.Math.min.name ∈ en_cw := cw_at 420 (by decide +kernel) (by decide +kernel)
theorem cwj421 : Cond.code Lib.Math.min.name Lib.Math.min.code 2 (some .int) ∈ en_cw := cw_at 421 (by decide +kernel) (by decide +kernel)
theorem cwj1234 : Cond.static Lib.Math.max.name ∈ en_cw := cw_at 1234 (by decide +kernel) (by decide +kernel)
theorem cwj1235 : Cond.code Lib.Math.max.name Lib.Math.max.code 2 (some .int) ∈ en_cw := cw_at 1235 (by decide +kernel) (by decide +kernel)
theorem cwj1405 : Cond.classLink RX7 51 RJx4a65c ∈ en_cw := cw_at 1405 (by decide +kernel) (by decide +kernel)
theorem cwj1406 : Cond.instantiable RJx4a65c 3 ∈ en_cw := cw_at 1406 (by decide +kernel) (by decide +kernel)
theorem cwj1407 : Cond.methodLink RX7 53 yJx4a65c_init_da8c8 ∈ en_cw := cw_at 1407 (by decide +kernel) (by decide +kernel)
theorem cwj1408 : Cond.instanceMethod yJx4a65c_init_da8c8 ∈ en_cw := cw_at 1408 (by decide +kernel) (by decide +kernel)
theorem cwj1409 : Cond.code yJx4a65c_init_da8c8 cJx4a65c_init_da8c8 1 none ∈ en_cw := cw_at 1409 (by decide +kernel) (by decide +kernel)
theorem cwj1410 : Cond.methodLink RJx4a65c 1 yJxc12de_init_da8c8 ∈ en_cw := cw_at 1410 (by decide +kernel) (by decide +kernel)
theorem cwj1411 : Cond.instanceMethod yJxc12de_init_da8c8 ∈ en_cw := cw_at 1411 (by decide +kernel) (by decide +kernel)
theorem cwj1412 : Cond.code yJxc12de_init_da8c8 cJxc12de_init_da8c8 1 none ∈ en_cw := cw_at 1412 (by decide +kernel) (by decide +kernel)
theorem cwj1413 : Cond.methodLink RJxc12de 1 yJxa1e45_init_da8c8 ∈ en_cw := cw_at 1413 (by decide +kernel) (by decide +kernel)
theorem cwj1414 : Cond.instanceMethod yJxa1e45_init_da8c8 ∈ en_cw := cw_at 1414 (by decide +kernel) (by decide +kernel)
theorem cwj1415 : Cond.code yJxa1e45_init_da8c8 cJxa1e45_init_da8c8 1 none ∈ en_cw := cw_at 1415 (by decide +kernel) (by decide +kernel)
theorem cwj1416 : Cond.methodLink RJxa1e45 1 objectInit ∈ en_cw := cw_at 1416 (by decide +kernel) (by decide +kernel)
theorem cwj1417 : Cond.fieldLink RJx4a65c 39 "java/util/ArrayList" "DEFAULTCAPACITY_EMPTY_ELEMENTDATA" "[Ljava/lang/Object;" ∈ en_cw := cw_at 1417 (by decide +kernel) (by decide +kernel)
theorem cwj1419 : Cond.fieldLink RJx4a65c 9 "java/util/ArrayList" "elementData" "[Ljava/lang/Object;" ∈ en_cw := cw_at 1419 (by decide +kernel) (by decide +kernel)
theorem cwj1420 : Cond.fieldLink RJx35411 37 "java/util/ArrayList" "elementData" "[Ljava/lang/Object;" ∈ en_cw := cw_at 1420 (by decide +kernel) (by decide +kernel)
theorem cwj1422 : Cond.fieldLink RJx4a65c 48 "java/util/ArrayList" "size" "I" ∈ en_cw := cw_at 1422 (by decide +kernel) (by decide +kernel)
theorem cwj1423 : Cond.fieldLink RJxc12de 7 "java/util/AbstractList" "modCount" "I" ∈ en_cw := cw_at 1423 (by decide +kernel) (by decide +kernel)
theorem cwj1424 : Cond.fieldLink RJx35411 17 "java/util/ArrayList" "modCount" "I" ∈ en_cw := cw_at 1424 (by decide +kernel) (by decide +kernel)
theorem cwj1425 : Cond.sameField "java/util/ArrayList" "java/util/AbstractList" "modCount" "I" ∈ en_cw := cw_at 1425 (by decide +kernel) (by decide +kernel)
theorem cwj1426 : Cond.fieldLink RJx4a65c 63 "java/util/ArrayList" "modCount" "I" ∈ en_cw := cw_at 1426 (by decide +kernel) (by decide +kernel)
theorem cwj1435 : Cond.methodLink RX7 75 yJx4a65c_add_9ea2d ∈ en_cw := cw_at 1435 (by decide +kernel) (by decide +kernel)
theorem cwj1436 : Cond.instanceMethod yJx4a65c_add_9ea2d ∈ en_cw := cw_at 1436 (by decide +kernel) (by decide +kernel)
theorem cwj1437 : Cond.selects RJx4a65c yJx4a65c_add_9ea2d yJx4a65c_add_9ea2d ∈ en_cw := cw_at 1437 (by decide +kernel) (by decide +kernel)
theorem cwj1438 : Cond.code yJx4a65c_add_9ea2d cJx4a65c_add_9ea2d 2 (some .boolean) ∈ en_cw := cw_at 1438 (by decide +kernel) (by decide +kernel)
theorem cwj1439 : Cond.methodLink RJx4a65c 131 yJx4a65c_add_72be8 ∈ en_cw := cw_at 1439 (by decide +kernel) (by decide +kernel)
theorem cwj1441 : Cond.instanceMethod yJx4a65c_add_72be8 ∈ en_cw := cw_at 1441 (by decide +kernel) (by decide +kernel)
theorem cwj1442 : Cond.code yJx4a65c_add_72be8 cJx4a65c_add_72be8 4 none ∈ en_cw := cw_at 1442 (by decide +kernel) (by decide +kernel)
theorem cwj1443 : Cond.methodLink RJx4a65c 129 yJx4a65c_grow_d5877 ∈ en_cw := cw_at 1443 (by decide +kernel) (by decide +kernel)
theorem cwj1445 : Cond.instanceMethod yJx4a65c_grow_d5877 ∈ en_cw := cw_at 1445 (by decide +kernel) (by decide +kernel)
theorem cwj1446 : Cond.code yJx4a65c_grow_d5877 cJx4a65c_grow_d5877 1 (some (.array (.object "java/lang/Object"))) ∈ en_cw := cw_at 1446 (by decide +kernel) (by decide +kernel)
theorem cwj1447 : Cond.methodLink RJx4a65c 69 yJx4a65c_grow_92f84 ∈ en_cw := cw_at 1447 (by decide +kernel) (by decide +kernel)
theorem cwj1449 : Cond.instanceMethod yJx4a65c_grow_92f84 ∈ en_cw := cw_at 1449 (by decide +kernel) (by decide +kernel)
theorem cwj1450 : Cond.code yJx4a65c_grow_92f84 cJx4a65c_grow_92f84 4 (some (.array (.object "java/lang/Object"))) ∈ en_cw := cw_at 1450 (by decide +kernel) (by decide +kernel)
theorem cwj1451 : Cond.methodLink RJx4a65c 73 yJ8_newLength_cabcc ∈ en_cw := cw_at 1451 (by decide +kernel) (by decide +kernel)
theorem cwj1452 : Cond.static yJ8_newLength_cabcc ∈ en_cw := cw_at 1452 (by decide +kernel) (by decide +kernel)
theorem cwj1453 : Cond.code yJ8_newLength_cabcc cJ8_newLength_cabcc 4 (some .int) ∈ en_cw := cw_at 1453 (by decide +kernel) (by decide +kernel)
theorem cwj1454 : Cond.methodLink RJ8 194 Lib.Math.max.name ∈ en_cw := cw_at 1454 (by decide +kernel) (by decide +kernel)
theorem cwj1455 : Cond.constant RJ8 200 2147483639 ∈ en_cw := cw_at 1455 (by decide +kernel) (by decide +kernel)
theorem cwj1459 : Cond.methodLink RJx4a65c 66 yJ7_copyOf_1904c ∈ en_cw := cw_at 1459 (by decide +kernel) (by decide +kernel)
theorem cwj1460 : Cond.static yJ7_copyOf_1904c ∈ en_cw := cw_at 1460 (by decide +kernel) (by decide +kernel)
theorem cwj1461 : Cond.code yJ7_copyOf_1904c cJ7_copyOf_1904c 2 (some (.array (.object "java/lang/Object"))) ∈ en_cw := cw_at 1461 (by decide +kernel) (by decide +kernel)
theorem cwj1462 : Cond.methodLink RJ7 86 ⟨"java/lang/Object", "getClass", "()Ljava/lang/Class;"⟩ ∈ en_cw := cw_at 1462 (by decide +kernel) (by decide +kernel)
theorem cwj1463 : Cond.instanceMethod ⟨"java/lang/Object", "getClass", "()Ljava/lang/Class;"⟩ ∈ en_cw := cw_at 1463 (by decide +kernel) (by decide +kernel)
theorem cwj1485 : Cond.native ⟨"java/lang/Object", "getClass", "()Ljava/lang/Class;"⟩ ∈ en_cw := cw_at 1485 (by decide +kernel) (by decide +kernel)
theorem cwj1486 : Cond.methodLink RJ7 300 yJ7_copyOf_6403c ∈ en_cw := cw_at 1486 (by decide +kernel) (by decide +kernel)
theorem cwj1487 : Cond.static yJ7_copyOf_6403c ∈ en_cw := cw_at 1487 (by decide +kernel) (by decide +kernel)
theorem cwj1488 : Cond.code yJ7_copyOf_6403c cJ7_copyOf_6403c 4 (some (.array (.object "java/lang/Object"))) ∈ en_cw := cw_at 1488 (by decide +kernel) (by decide +kernel)
theorem cwj1489 : Cond.classLink RJ7 110 "[Ljava/lang/Object;" ∈ en_cw := cw_at 1489 (by decide +kernel) (by decide +kernel)
theorem cwj1491 : Cond.classLink RJ7 2 "java/lang/Object" ∈ en_cw := cw_at 1491 (by decide +kernel) (by decide +kernel)
theorem cwj1492 : Cond.methodLink RJ7 304 Lib.Math.min.name ∈ en_cw := cw_at 1492 (by decide +kernel) (by decide +kernel)
theorem cwj1493 : Cond.methodLink RJ7 150 arraycopyName ∈ en_cw := cw_at 1493 (by decide +kernel) (by decide +kernel)
theorem cwj1494 : Cond.static arraycopyName ∈ en_cw := cw_at 1494 (by decide +kernel) (by decide +kernel)
theorem cwj1495 : Cond.native arraycopyName ∈ en_cw := cw_at 1495 (by decide +kernel) (by decide +kernel)
theorem cwj1496 : Cond.methodLink RJx4a65c 79 Lib.Math.max.name ∈ en_cw := cw_at 1496 (by decide +kernel) (by decide +kernel)
theorem cwj1497 : Cond.classLink RJx4a65c 7 "java/lang/Object" ∈ en_cw := cw_at 1497 (by decide +kernel) (by decide +kernel)
theorem cwj1498 : Cond.fieldLink RX7 11 "FairwayChanceryModel" "course" "[[I" ∈ en_cw := cw_at 1498 (by decide +kernel) (by decide +kernel)
theorem cwj1500 : Cond.fieldLink RX7 19 "FairwayChanceryModel" "handicaps" "[I" ∈ en_cw := cw_at 1500 (by decide +kernel) (by decide +kernel)
theorem cwj1505 : Cond.fieldLink RX7 35 "FairwayChanceryModel" "written" "[[I" ∈ en_cw := cw_at 1505 (by decide +kernel) (by decide +kernel)
theorem cwj1506 : Cond.fieldLink RX7 38 "FairwayChanceryModel" "isSigned" "[Z" ∈ en_cw := cw_at 1506 (by decide +kernel) (by decide +kernel)
theorem cwj1507 : Cond.fieldLink RX7 42 "FairwayChanceryModel" "isOut" "[Z" ∈ en_cw := cw_at 1507 (by decide +kernel) (by decide +kernel)
theorem cwj1508 : Cond.fieldLink RX7 45 "FairwayChanceryModel" "isPosted" "[Z" ∈ en_cw := cw_at 1508 (by decide +kernel) (by decide +kernel)
theorem cwj1510 : Cond.fieldLink RX7 54 "FairwayChanceryModel" "differences" "Ljava/util/ArrayList;" ∈ en_cw := cw_at 1510 (by decide +kernel) (by decide +kernel)
theorem cwj1511 : Cond.fieldLink RX7 58 "FairwayChanceryModel" "indexes" "[I" ∈ en_cw := cw_at 1511 (by decide +kernel) (by decide +kernel)
theorem cwj1512 : Cond.fieldLink RX7 61 "FairwayChanceryModel" "lows" "[I" ∈ en_cw := cw_at 1512 (by decide +kernel) (by decide +kernel)
theorem cwj1514 : Cond.fieldLink RX7 86 "FairwayChanceryModel" "holes" "I" ∈ en_cw := cw_at 1514 (by decide +kernel) (by decide +kernel)
theorem cwj1515 : Cond.fieldLink RX7 89 "FairwayChanceryModel" "players" "I" ∈ en_cw := cw_at 1515 (by decide +kernel) (by decide +kernel)
theorem cwj1527 : Cond.fieldLink RX7 278 "FairwayChanceryModel" "conditions" "I" ∈ en_cw := cw_at 1527 (by decide +kernel) (by decide +kernel)
theorem cwj1528 : Cond.fieldLink RX7 79 "FairwayChanceryModel" "thrown" "I" ∈ en_cw := cw_at 1528 (by decide +kernel) (by decide +kernel)
theorem cwj1596 : Cond.methodLink RX7 82 yX7_isIn ∈ en_cw := cw_at 1596 (by decide +kernel) (by decide +kernel)
theorem cwj1597 : Cond.static yX7_isIn ∈ en_cw := cw_at 1597 (by decide +kernel) (by decide +kernel)
theorem cwj1598 : Cond.code yX7_isIn cX7_isIn 3 (some .boolean) ∈ en_cw := cw_at 1598 (by decide +kernel) (by decide +kernel)
theorem cwj1602 : Cond.methodLink RX7 110 yX7_isThrown ∈ en_cw := cw_at 1602 (by decide +kernel) (by decide +kernel)
theorem cwj1604 : Cond.instanceMethod yX7_isThrown ∈ en_cw := cw_at 1604 (by decide +kernel) (by decide +kernel)
theorem cwj1605 : Cond.code yX7_isThrown cX7_isThrown 3 (some .boolean) ∈ en_cw := cw_at 1605 (by decide +kernel) (by decide +kernel)
theorem cwj1630 : Cond.methodLink RX7 132 yX7_isNoPlayer ∈ en_cw := cw_at 1630 (by decide +kernel) (by decide +kernel)
theorem cwj1632 : Cond.instanceMethod yX7_isNoPlayer ∈ en_cw := cw_at 1632 (by decide +kernel) (by decide +kernel)
theorem cwj1633 : Cond.code yX7_isNoPlayer cX7_isNoPlayer 2 (some .boolean) ∈ en_cw := cw_at 1633 (by decide +kernel) (by decide +kernel)
theorem cwj1638 : Cond.methodLink RX7 138 yX7_strokesFor ∈ en_cw := cw_at 1638 (by decide +kernel) (by decide +kernel)
theorem cwj1640 : Cond.instanceMethod yX7_strokesFor ∈ en_cw := cw_at 1640 (by decide +kernel) (by decide +kernel)
theorem cwj1641 : Cond.code yX7_strokesFor cX7_strokesFor 5 (some .int) ∈ en_cw := cw_at 1641 (by decide +kernel) (by decide +kernel)
theorem cwj1918 : Cond.methodLink RX7 269 Lib.Math.min.name ∈ en_cw := cw_at 1918 (by decide +kernel) (by decide +kernel)
theorem cwj1927 : Cond.methodLink RX7 272 yX7_isRanked ∈ en_cw := cw_at 1927 (by decide +kernel) (by decide +kernel)
theorem cwj1929 : Cond.instanceMethod yX7_isRanked ∈ en_cw := cw_at 1929 (by decide +kernel) (by decide +kernel)
theorem cwj1930 : Cond.code yX7_isRanked cX7_isRanked 2 (some .boolean) ∈ en_cw := cw_at 1930 (by decide +kernel) (by decide +kernel)
theorem cwj1951 : Cond.methodLink RX7 314 yJ9_floorDiv_7cf53 ∈ en_cw := cw_at 1951 (by decide +kernel) (by decide +kernel)
theorem cwj1952 : Cond.methodLink RX7 300 yJx4a65c_get_915e3 ∈ en_cw := cw_at 1952 (by decide +kernel) (by decide +kernel)
theorem cwj1953 : Cond.instanceMethod yJx4a65c_get_915e3 ∈ en_cw := cw_at 1953 (by decide +kernel) (by decide +kernel)
theorem cwj1954 : Cond.selects RJx4a65c yJx4a65c_get_915e3 yJx4a65c_get_915e3 ∈ en_cw := cw_at 1954 (by decide +kernel) (by decide +kernel)
theorem cwj1955 : Cond.code yJx4a65c_get_915e3 cJx4a65c_get_915e3 2 (some (.object "java/lang/Object")) ∈ en_cw := cw_at 1955 (by decide +kernel) (by decide +kernel)
theorem cwj1956 : Cond.methodLink RJx4a65c 118 yJ15_checkIndex_7cf53 ∈ en_cw := cw_at 1956 (by decide +kernel) (by decide +kernel)
theorem cwj1957 : Cond.static yJ15_checkIndex_7cf53 ∈ en_cw := cw_at 1957 (by decide +kernel) (by decide +kernel)
theorem cwj1958 : Cond.code yJ15_checkIndex_7cf53 cJ15_checkIndex_7cf53 2 (some .int) ∈ en_cw := cw_at 1958 (by decide +kernel) (by decide +kernel)
theorem cwj1959 : Cond.methodLink RJ15 105 yJ3_checkIndex_8e157 ∈ en_cw := cw_at 1959 (by decide +kernel) (by decide +kernel)
theorem cwj1960 : Cond.static yJ3_checkIndex_8e157 ∈ en_cw := cw_at 1960 (by decide +kernel) (by decide +kernel)
theorem cwj1961 : Cond.code yJ3_checkIndex_8e157 cJ3_checkIndex_8e157 3 (some .int) ∈ en_cw := cw_at 1961 (by decide +kernel) (by decide +kernel)
theorem cwj1962 : Cond.methodLink RJx4a65c 123 yJx4a65c_elementData_915e3 ∈ en_cw := cw_at 1962 (by decide +kernel) (by decide +kernel)
theorem cwj1963 : Cond.instanceMethod yJx4a65c_elementData_915e3 ∈ en_cw := cw_at 1963 (by decide +kernel) (by decide +kernel)
theorem cwj1964 : Cond.selects RJx4a65c yJx4a65c_elementData_915e3 yJx4a65c_elementData_915e3 ∈ en_cw := cw_at 1964 (by decide +kernel) (by decide +kernel)
theorem cwj1965 : Cond.code yJx4a65c_elementData_915e3 cJx4a65c_elementData_915e3 2 (some (.object "java/lang/Object")) ∈ en_cw := cw_at 1965 (by decide +kernel) (by decide +kernel)
theorem cwj1966 : Cond.methodLink RX7 317 yJx4a65c_isEmpty_aae02 ∈ en_cw := cw_at 1966 (by decide +kernel) (by decide +kernel)
theorem cwj1967 : Cond.instanceMethod yJx4a65c_isEmpty_aae02 ∈ en_cw := cw_at 1967 (by decide +kernel) (by decide +kernel)
theorem cwj1968 : Cond.selects RJx4a65c yJx4a65c_isEmpty_aae02 yJx4a65c_isEmpty_aae02 ∈ en_cw := cw_at 1968 (by decide +kernel) (by decide +kernel)
theorem cwj1969 : Cond.code yJx4a65c_isEmpty_aae02 cJx4a65c_isEmpty_aae02 1 (some .boolean) ∈ en_cw := cw_at 1969 (by decide +kernel) (by decide +kernel)
theorem cwj1970 : Cond.methodLink RX7 304 yJ6_valueOf_2dffe ∈ en_cw := cw_at 1970 (by decide +kernel) (by decide +kernel)
theorem cwj1971 : Cond.static yJ6_valueOf_2dffe ∈ en_cw := cw_at 1971 (by decide +kernel) (by decide +kernel)
theorem cwj1972 : Cond.code yJ6_valueOf_2dffe cJ6_valueOf_2dffe 1 (some (.object "java/lang/Integer")) ∈ en_cw := cw_at 1972 (by decide +kernel) (by decide +kernel)
theorem cwj1973 : Cond.fieldLink RJ6 191 "java/lang/Integer$IntegerCache" "high" "I" ∈ en_cw := cw_at 1973 (by decide +kernel) (by decide +kernel)
theorem cwj1975 : Cond.fieldLink RJ6 195 "java/lang/Integer$IntegerCache" "cache" "[Ljava/lang/Integer;" ∈ en_cw := cw_at 1975 (by decide +kernel) (by decide +kernel)
theorem cwj1977 : Cond.classLink RJ6 1 RJ6 ∈ en_cw := cw_at 1977 (by decide +kernel) (by decide +kernel)
theorem cwj1978 : Cond.instantiable RJ6 1 ∈ en_cw := cw_at 1978 (by decide +kernel) (by decide +kernel)
theorem cwj1979 : Cond.methodLink RJ6 199 yJ6_init_d00df ∈ en_cw := cw_at 1979 (by decide +kernel) (by decide +kernel)
theorem cwj1980 : Cond.instanceMethod yJ6_init_d00df ∈ en_cw := cw_at 1980 (by decide +kernel) (by decide +kernel)
theorem cwj1981 : Cond.code yJ6_init_d00df cJ6_init_d00df 2 none ∈ en_cw := cw_at 1981 (by decide +kernel) (by decide +kernel)
theorem cwj1982 : Cond.methodLink RJ6 202 yJxd2413_init_da8c8 ∈ en_cw := cw_at 1982 (by decide +kernel) (by decide +kernel)
theorem cwj1983 : Cond.instanceMethod yJxd2413_init_da8c8 ∈ en_cw := cw_at 1983 (by decide +kernel) (by decide +kernel)
theorem cwj1984 : Cond.code yJxd2413_init_da8c8 cJxd2413_init_da8c8 1 none ∈ en_cw := cw_at 1984 (by decide +kernel) (by decide +kernel)
theorem cwj1985 : Cond.methodLink RJxd2413 1 objectInit ∈ en_cw := cw_at 1985 (by decide +kernel) (by decide +kernel)
theorem cwj1986 : Cond.fieldLink RJ6 205 "java/lang/Integer" "value" "I" ∈ en_cw := cw_at 1986 (by decide +kernel) (by decide +kernel)
theorem cwj1990 : Cond.methodLink RX7 297 yJx4a65c_size_8abf5 ∈ en_cw := cw_at 1990 (by decide +kernel) (by decide +kernel)
theorem cwj1991 : Cond.instanceMethod yJx4a65c_size_8abf5 ∈ en_cw := cw_at 1991 (by decide +kernel) (by decide +kernel)
theorem cwj1992 : Cond.selects RJx4a65c yJx4a65c_size_8abf5 yJx4a65c_size_8abf5 ∈ en_cw := cw_at 1992 (by decide +kernel) (by decide +kernel)
theorem cwj1993 : Cond.code yJx4a65c_size_8abf5 cJx4a65c_size_8abf5 1 (some .int) ∈ en_cw := cw_at 1993 (by decide +kernel) (by decide +kernel)
theorem cwj1994 : Cond.methodLink RX7 320 yJx4a65c_remove_915e3 ∈ en_cw := cw_at 1994 (by decide +kernel) (by decide +kernel)
theorem cwj1995 : Cond.instanceMethod yJx4a65c_remove_915e3 ∈ en_cw := cw_at 1995 (by decide +kernel) (by decide +kernel)
theorem cwj1996 : Cond.selects RJx4a65c yJx4a65c_remove_915e3 yJx4a65c_remove_915e3 ∈ en_cw := cw_at 1996 (by decide +kernel) (by decide +kernel)
theorem cwj1997 : Cond.code yJx4a65c_remove_915e3 cJx4a65c_remove_915e3 4 (some (.object "java/lang/Object")) ∈ en_cw := cw_at 1997 (by decide +kernel) (by decide +kernel)
theorem cwj1998 : Cond.methodLink RJx4a65c 144 yJx4a65c_fastRemove_b59b0 ∈ en_cw := cw_at 1998 (by decide +kernel) (by decide +kernel)
theorem cwj2000 : Cond.instanceMethod yJx4a65c_fastRemove_b59b0 ∈ en_cw := cw_at 2000 (by decide +kernel) (by decide +kernel)
theorem cwj2001 : Cond.code yJx4a65c_fastRemove_b59b0 cJx4a65c_fastRemove_b59b0 4 none ∈ en_cw := cw_at 2001 (by decide +kernel) (by decide +kernel)
theorem cwj2002 : Cond.methodLink RJx4a65c 112 arraycopyName ∈ en_cw := cw_at 2002 (by decide +kernel) (by decide +kernel)
theorem cwj2003 : Cond.classLink RX7 265 "java/lang/Integer" ∈ en_cw := cw_at 2003 (by decide +kernel) (by decide +kernel)
theorem cwj2004 : Cond.methodLink RX7 294 yJ6_intValue_8abf5 ∈ en_cw := cw_at 2004 (by decide +kernel) (by decide +kernel)
theorem cwj2005 : Cond.instanceMethod yJ6_intValue_8abf5 ∈ en_cw := cw_at 2005 (by decide +kernel) (by decide +kernel)
theorem cwj2006 : Cond.selects RJ6 yJ6_intValue_8abf5 yJ6_intValue_8abf5 ∈ en_cw := cw_at 2006 (by decide +kernel) (by decide +kernel)
theorem cwj2007 : Cond.code yJ6_intValue_8abf5 cJ6_intValue_8abf5 1 (some .int) ∈ en_cw := cw_at 2007 (by decide +kernel) (by decide +kernel)
theorem cwj2008 : Cond.methodLink RX7 323 yJx4a65c_set_bcc79 ∈ en_cw := cw_at 2008 (by decide +kernel) (by decide +kernel)
theorem cwj2009 : Cond.instanceMethod yJx4a65c_set_bcc79 ∈ en_cw := cw_at 2009 (by decide +kernel) (by decide +kernel)
theorem cwj2010 : Cond.selects RJx4a65c yJx4a65c_set_bcc79 yJx4a65c_set_bcc79 ∈ en_cw := cw_at 2010 (by decide +kernel) (by decide +kernel)
theorem cwj2011 : Cond.code yJx4a65c_set_bcc79 cJx4a65c_set_bcc79 4 (some (.object "java/lang/Object")) ∈ en_cw := cw_at 2011 (by decide +kernel) (by decide +kernel)
theorem cwj2012 : Cond.methodLink RX7 327 yX7_meanOf ∈ en_cw := cw_at 2012 (by decide +kernel) (by decide +kernel)
theorem cwj2013 : Cond.static yX7_meanOf ∈ en_cw := cw_at 2013 (by decide +kernel) (by decide +kernel)
theorem cwj2014 : Cond.code yX7_meanOf cX7_meanOf 5 (some .int) ∈ en_cw := cw_at 2014 (by decide +kernel) (by decide +kernel)
theorem cwj2015 : Cond.methodLink RX7 281 yJx4a65c_iterator_32c93 ∈ en_cw := cw_at 2015 (by decide +kernel) (by decide +kernel)
theorem cwj2016 : Cond.instanceMethod yJx4a65c_iterator_32c93 ∈ en_cw := cw_at 2016 (by decide +kernel) (by decide +kernel)
theorem cwj2017 : Cond.selects RJx4a65c yJx4a65c_iterator_32c93 yJx4a65c_iterator_32c93 ∈ en_cw := cw_at 2017 (by decide +kernel) (by decide +kernel)
theorem cwj2018 : Cond.code yJx4a65c_iterator_32c93 cJx4a65c_iterator_32c93 1 (some (.object "java/util/Iterator")) ∈ en_cw := cw_at 2018 (by decide +kernel) (by decide +kernel)
theorem cwj2019 : Cond.classLink RJx4a65c 267 RJx35411 ∈ en_cw := cw_at 2019 (by decide +kernel) (by decide +kernel)
theorem cwj2020 : Cond.instantiable RJx35411 4 ∈ en_cw := cw_at 2020 (by decide +kernel) (by decide +kernel)
theorem cwj2021 : Cond.methodLink RJx4a65c 269 yJx35411_init_45d68 ∈ en_cw := cw_at 2021 (by decide +kernel) (by decide +kernel)
theorem cwj2022 : Cond.instanceMethod yJx35411_init_45d68 ∈ en_cw := cw_at 2022 (by decide +kernel) (by decide +kernel)
theorem cwj2023 : Cond.code yJx35411_init_45d68 cJx35411_init_45d68 2 none ∈ en_cw := cw_at 2023 (by decide +kernel) (by decide +kernel)
theorem cwj2024 : Cond.methodLink RJx35411 7 objectInit ∈ en_cw := cw_at 2024 (by decide +kernel) (by decide +kernel)
theorem cwj2025 : Cond.fieldLink RJx35411 25 "java/util/ArrayList$Itr" "cursor" "I" ∈ en_cw := cw_at 2025 (by decide +kernel) (by decide +kernel)
theorem cwj2026 : Cond.fieldLink RJx35411 13 "java/util/ArrayList$Itr" "lastRet" "I" ∈ en_cw := cw_at 2026 (by decide +kernel) (by decide +kernel)
theorem cwj2027 : Cond.fieldLink RJx35411 22 "java/util/ArrayList$Itr" "expectedModCount" "I" ∈ en_cw := cw_at 2027 (by decide +kernel) (by decide +kernel)
theorem cwj2028 : Cond.fieldLink RJx35411 1 "java/util/ArrayList$Itr" "this$0" "Ljava/util/ArrayList;" ∈ en_cw := cw_at 2028 (by decide +kernel) (by decide +kernel)
theorem cwj2039 : Cond.methodLink RX7 285 li_hn ∈ en_cw := cw_at 2039 (by decide +kernel) (by decide +kernel)
theorem cwj2043 : Cond.selects RJx35411 li_hn yJx35411_hasNext_aae02 ∈ en_cw := cw_at 2043 (by decide +kernel) (by decide +kernel)
theorem cwj2045 : Cond.instanceMethod yJx35411_hasNext_aae02 ∈ en_cw := cw_at 2045 (by decide +kernel) (by decide +kernel)
theorem cwj2047 : Cond.code yJx35411_hasNext_aae02 cJx35411_hasNext_aae02 1 (some .boolean) ∈ en_cw := cw_at 2047 (by decide +kernel) (by decide +kernel)
theorem cwj2049 : Cond.methodLink RX7 290 li_nx ∈ en_cw := cw_at 2049 (by decide +kernel) (by decide +kernel)
theorem cwj2052 : Cond.selects RJx35411 li_nx yJx35411_next_0502b ∈ en_cw := cw_at 2052 (by decide +kernel) (by decide +kernel)
theorem cwj2054 : Cond.instanceMethod yJx35411_next_0502b ∈ en_cw := cw_at 2054 (by decide +kernel) (by decide +kernel)
theorem cwj2056 : Cond.code yJx35411_next_0502b cJx35411_next_0502b 3 (some (.object "java/lang/Object")) ∈ en_cw := cw_at 2056 (by decide +kernel) (by decide +kernel)
theorem cwj2057 : Cond.methodLink RJx35411 31 yJx35411_checkForComodification_da8c8 ∈ en_cw := cw_at 2057 (by decide +kernel) (by decide +kernel)
theorem cwj2058 : Cond.instanceMethod yJx35411_checkForComodification_da8c8 ∈ en_cw := cw_at 2058 (by decide +kernel) (by decide +kernel)
theorem cwj2059 : Cond.selects RJx35411 yJx35411_checkForComodification_da8c8 yJx35411_checkForComodification_da8c8 ∈ en_cw := cw_at 2059 (by decide +kernel) (by decide +kernel)
theorem cwj2060 : Cond.code yJx35411_checkForComodification_da8c8 cJx35411_checkForComodification_da8c8 1 none ∈ en_cw := cw_at 2060 (by decide +kernel) (by decide +kernel)
theorem cwj2072 : Cond.methodLink RX7 308 yJx4a65c_add_7a177 ∈ en_cw := cw_at 2072 (by decide +kernel) (by decide +kernel)
theorem cwj2073 : Cond.instanceMethod yJx4a65c_add_7a177 ∈ en_cw := cw_at 2073 (by decide +kernel) (by decide +kernel)
theorem cwj2074 : Cond.selects RJx4a65c yJx4a65c_add_7a177 yJx4a65c_add_7a177 ∈ en_cw := cw_at 2074 (by decide +kernel) (by decide +kernel)
theorem cwj2075 : Cond.code yJx4a65c_add_7a177 cJx4a65c_add_7a177 5 none ∈ en_cw := cw_at 2075 (by decide +kernel) (by decide +kernel)
theorem cwj2076 : Cond.methodLink RJx4a65c 135 yJx4a65c_rangeCheckForAdd_d00df ∈ en_cw := cw_at 2076 (by decide +kernel) (by decide +kernel)
theorem cwj2078 : Cond.instanceMethod yJx4a65c_rangeCheckForAdd_d00df ∈ en_cw := cw_at 2078 (by decide +kernel) (by decide +kernel)
theorem cwj2079 : Cond.code yJx4a65c_rangeCheckForAdd_d00df cJx4a65c_rangeCheckForAdd_d00df 2 none ∈ en_cw := cw_at 2079 (by decide +kernel) (by decide +kernel)
theorem cwj2312 : Cond.methodLink RX7 311 yX7_counted ∈ en_cw := cw_at 2312 (by decide +kernel) (by decide +kernel)
theorem cwj2313 : Cond.static yX7_counted ∈ en_cw := cw_at 2313 (by decide +kernel) (by decide +kernel)
theorem cwj2314 : Cond.code yX7_counted cX7_counted 3 (some .int) ∈ en_cw := cw_at 2314 (by decide +kernel) (by decide +kernel)
theorem cwj2379 : Cond.selects "[Ljava/lang/Object;" ⟨"java/lang/Object", "getClass", "()Ljava/lang/Class;"⟩ ⟨"java/lang/Object", "getClass", "()Ljava/lang/Class;"⟩ ∈ en_cw := cw_at 2379 (by decide +kernel) (by decide +kernel)
set_option maxRecDepth 20000 in
theorem uwj_J6 : ∀ w ∈ u_ws RJ6 TJ6 1, w ∈ en_cw := cw_all _ [1987] (by decide +kernel) (by decide +kernel)
set_option maxRecDepth 20000 in
theorem uwj_Jx35411 : ∀ w ∈ u_ws RJx35411 TJx35411 4, w ∈ en_cw := cw_all _ [2029, 2031, 2033, 2035] (by decide +kernel) (by decide +kernel)
set_option maxRecDepth 20000 in
theorem uwj_Jx4a65c : ∀ w ∈ u_ws RJx4a65c TJx4a65c 3, w ∈ en_cw := cw_all _ [1431, 1427, 1429] (by decide +kernel) (by decide +kernel)
set_option maxRecDepth 20000 in
theorem uwj_X7 : ∀ w ∈ u_ws RX7 TX7 31, w ∈ en_cw := cw_all _ [1529, 1531, 1533, 1535, 1537, 1539, 1541, 1543, 1545, 1547, 1549, 1551, 1553, 1555, 1557, 1559, 1561, 1563, 1565, 1567, 1569, 1571, 1573, 1575, 1577, 1579, 1581, 1583, 1585, 1587, 1589] (by decide +kernel) (by decide +kernel)
theorem gj_J15_105 : en_CZ en_cw RJ15 105 yJ3_checkIndex_8e157 cJ3_checkIndex_8e157 3 (some .int) 3 := en_gs cwj1959 cwj1960 cwj103 cwj1961 ⟨by decide, by decide, by decide +kernel⟩
theorem gj_Jx4a65c_118 : en_CZ en_cw RJx4a65c 118 yJ15_checkIndex_7cf53 cJ15_checkIndex_7cf53 2 (some .int) 2 := en_gs cwj1956 cwj1957 cwj102 cwj1958 ⟨by decide, by decide, by decide +kernel⟩
theorem gj_Jx4a65c_123 : en_CV en_cw RJx4a65c 123 yJx4a65c_elementData_915e3 RJx4a65c cJx4a65c_elementData_915e3 2 (some (.object "java/lang/Object")) 1 := en_gv cwj1962 cwj1963 cwj1964 cwj85 cwj1965 ⟨rfl, by decide, by decide, by decide +kernel⟩
theorem gj_J7_300 : en_CZ en_cw RJ7 300 yJ7_copyOf_6403c cJ7_copyOf_6403c 4 (some (.array (.object "java/lang/Object"))) 3 := en_gs cwj1486 cwj1487 cwj88 cwj1488 ⟨by decide, by decide, by decide +kernel⟩
theorem gj_Jx4a65c_73 : en_CZ en_cw RJx4a65c 73 yJ8_newLength_cabcc cJ8_newLength_cabcc 4 (some .int) 3 := en_gs cwj1451 cwj1452 cwj86 cwj1453 ⟨by decide, by decide, by decide +kernel⟩
theorem gj_Jx4a65c_66 : en_CZ en_cw RJx4a65c 66 yJ7_copyOf_1904c cJ7_copyOf_1904c 2 (some (.array (.object "java/lang/Object"))) 2 := en_gs cwj1459 cwj1460 cwj88 cwj1461 ⟨by decide, by decide, by decide +kernel⟩
theorem gj_Jx4a65c_69 : en_CV en_cw RJx4a65c 69 yJx4a65c_grow_92f84 RJx4a65c cJx4a65c_grow_92f84 4 (some (.array (.object "java/lang/Object"))) 1 := en_gv cwj1447 cwj1449 cwj36 cwj85 cwj1450 ⟨rfl, by decide, by decide, by decide +kernel⟩
theorem gj_Jx4a65c_129 : en_CV en_cw RJx4a65c 129 yJx4a65c_grow_d5877 RJx4a65c cJx4a65c_grow_d5877 1 (some (.array (.object "java/lang/Object"))) 0 := en_gv cwj1443 cwj1445 cwj35 cwj85 cwj1446 ⟨rfl, by decide, by decide, by decide +kernel⟩
theorem gj_Jx4a65c_131 : en_CV en_cw RJx4a65c 131 yJx4a65c_add_72be8 RJx4a65c cJx4a65c_add_72be8 4 none 3 := en_gv cwj1439 cwj1441 cwj34 cwj85 cwj1442 ⟨rfl, by decide, by decide, by decide +kernel⟩
theorem gj_Jx4a65c_144 : en_CV en_cw RJx4a65c 144 yJx4a65c_fastRemove_b59b0 RJx4a65c cJx4a65c_fastRemove_b59b0 4 none 2 := en_gv cwj1998 cwj2000 cwj71 cwj85 cwj2001 ⟨rfl, by decide, by decide, by decide +kernel⟩
theorem gj_Jx4a65c_135 : en_CV en_cw RJx4a65c 135 yJx4a65c_rangeCheckForAdd_d00df RJx4a65c cJx4a65c_rangeCheckForAdd_d00df 2 none 1 := en_gv cwj2076 cwj2078 cwj72 cwj85 cwj2079 ⟨rfl, by decide, by decide, by decide +kernel⟩
theorem gj_J6_202 : li_CI RJ6 202 yJxd2413_init_da8c8 cJxd2413_init_da8c8 1 0 := ⟨cwj100, cwj1982, cwj1983, cwj1984, rfl, by decide, by decide, by decide +kernel⟩
theorem gj_J6_199 : li_CI RJ6 199 yJ6_init_d00df cJ6_init_d00df 2 1 := ⟨cwj101, cwj1979, cwj1980, cwj1981, rfl, by decide, by decide, by decide +kernel⟩
theorem gj_Jxc12de_1 : li_CI RJxc12de 1 yJxa1e45_init_da8c8 cJxa1e45_init_da8c8 1 0 := ⟨cwj83, cwj1413, cwj1414, cwj1415, rfl, by decide, by decide, by decide +kernel⟩
theorem gj_Jx4a65c_1 : li_CI RJx4a65c 1 yJxc12de_init_da8c8 cJxc12de_init_da8c8 1 0 := ⟨cwj84, cwj1410, cwj1411, cwj1412, rfl, by decide, by decide, by decide +kernel⟩
theorem gj_Jx4a65c_269 : li_CI RJx4a65c 269 yJx35411_init_45d68 cJx35411_init_45d68 2 1 := ⟨cwj105, cwj2021, cwj2022, cwj2023, rfl, by decide, by decide, by decide +kernel⟩
theorem gj_Jx35411_31 : en_CV en_cw RJx35411 31 yJx35411_checkForComodification_da8c8 RJx35411 cJx35411_checkForComodification_da8c8 1 none 0 := en_gv cwj2057 cwj2058 cwj2059 cwj105 cwj2060 ⟨rfl, by decide, by decide, by decide +kernel⟩
theorem gj_X7_297 : en_CV en_cw RX7 297 yJx4a65c_size_8abf5 RJx4a65c cJx4a65c_size_8abf5 1 (some .int) 0 := en_gv cwj1990 cwj1991 cwj1992 cwj85 cwj1993 ⟨rfl, by decide, by decide, by decide +kernel⟩
theorem gj_X7_300 : en_CV en_cw RX7 300 yJx4a65c_get_915e3 RJx4a65c cJx4a65c_get_915e3 2 (some (.object "java/lang/Object")) 1 := en_gv cwj1952 cwj1953 cwj1954 cwj85 cwj1955 ⟨rfl, by decide, by decide, by decide +kernel⟩
theorem gj_X7_294 : en_CV en_cw RX7 294 yJ6_intValue_8abf5 RJ6 cJ6_intValue_8abf5 1 (some .int) 0 := en_gv cwj2004 cwj2005 cwj2006 cwj101 cwj2007 ⟨rfl, by decide, by decide, by decide +kernel⟩
theorem gj_X7_304 : en_CZ en_cw RX7 304 yJ6_valueOf_2dffe cJ6_valueOf_2dffe 1 (some (.object "java/lang/Integer")) 1 := en_gs cwj1970 cwj1971 cwj101 cwj1972 ⟨by decide, by decide, by decide +kernel⟩
theorem gj_X7_308 : en_CV en_cw RX7 308 yJx4a65c_add_7a177 RJx4a65c cJx4a65c_add_7a177 5 none 2 := en_gv cwj2072 cwj2073 cwj2074 cwj85 cwj2075 ⟨rfl, by decide, by decide, by decide +kernel⟩
theorem gj_X7_53 : li_CI RX7 53 yJx4a65c_init_da8c8 cJx4a65c_init_da8c8 1 0 := ⟨cwj85, cwj1407, cwj1408, cwj1409, rfl, by decide, by decide, by decide +kernel⟩
theorem gj_X7_281 : en_CV en_cw RX7 281 yJx4a65c_iterator_32c93 RJx4a65c cJx4a65c_iterator_32c93 1 (some (.object "java/util/Iterator")) 0 := en_gv cwj2015 cwj2016 cwj2017 cwj85 cwj2018 ⟨rfl, by decide, by decide, by decide +kernel⟩
theorem gj_X7_311 : en_CZ en_cw RX7 311 yX7_counted cX7_counted 3 (some .int) 1 := en_gs cwj2312 cwj2313 cwj82 cwj2314 ⟨by decide, by decide, by decide +kernel⟩
theorem gj_X7_314 : en_CZ en_cw RX7 314 yJ9_floorDiv_7cf53 cJ9_floorDiv_7cf53 3 (some .int) 2 := en_gs cwj1951 cwj413 cwj87 cwj414 ⟨by decide, by decide, by decide +kernel⟩
theorem gj_X7_82 : en_CZ en_cw RX7 82 yX7_isIn cX7_isIn 3 (some .boolean) 3 := en_gs cwj1596 cwj1597 cwj82 cwj1598 ⟨by decide, by decide, by decide +kernel⟩
theorem gj_X7_138 : en_CV en_cw RX7 138 yX7_strokesFor RX7 cX7_strokesFor 5 (some .int) 2 := en_gv cwj1638 cwj1640 cwj40 cwj82 cwj1641 ⟨rfl, by decide, by decide, by decide +kernel⟩
theorem gj_X7_323 : en_CV en_cw RX7 323 yJx4a65c_set_bcc79 RJx4a65c cJx4a65c_set_bcc79 4 (some (.object "java/lang/Object")) 2 := en_gv cwj2008 cwj2009 cwj2010 cwj85 cwj2011 ⟨rfl, by decide, by decide, by decide +kernel⟩
theorem gj_X7_327 : en_CZ en_cw RX7 327 yX7_meanOf cX7_meanOf 5 (some .int) 1 := en_gs cwj2012 cwj2013 cwj82 cwj2014 ⟨by decide, by decide, by decide +kernel⟩
theorem gj_X7_75 : en_CV en_cw RX7 75 yJx4a65c_add_9ea2d RJx4a65c cJx4a65c_add_9ea2d 2 (some .boolean) 1 := en_gv cwj1435 cwj1436 cwj1437 cwj85 cwj1438 ⟨rfl, by decide, by decide, by decide +kernel⟩
theorem gj_X7_320 : en_CV en_cw RX7 320 yJx4a65c_remove_915e3 RJx4a65c cJx4a65c_remove_915e3 4 (some (.object "java/lang/Object")) 1 := en_gv cwj1994 cwj1995 cwj1996 cwj85 cwj1997 ⟨rfl, by decide, by decide, by decide +kernel⟩
theorem gj_X7_132 : en_CV en_cw RX7 132 yX7_isNoPlayer RX7 cX7_isNoPlayer 2 (some .boolean) 1 := en_gv cwj1630 cwj1632 cwj39 cwj82 cwj1633 ⟨rfl, by decide, by decide, by decide +kernel⟩
theorem gj_X7_110 : en_CV en_cw RX7 110 yX7_isThrown RX7 cX7_isThrown 3 (some .boolean) 2 := en_gv cwj1602 cwj1604 cwj37 cwj82 cwj1605 ⟨rfl, by decide, by decide, by decide +kernel⟩
theorem gj_X7_272 : en_CV en_cw RX7 272 yX7_isRanked RX7 cX7_isRanked 2 (some .boolean) 1 := en_gv cwj1927 cwj1929 cwj69 cwj82 cwj1930 ⟨rfl, by decide, by decide, by decide +kernel⟩
theorem gj_X7_317 : en_CV en_cw RX7 317 yJx4a65c_isEmpty_aae02 RJx4a65c cJx4a65c_isEmpty_aae02 1 (some .boolean) 0 := en_gv cwj1966 cwj1967 cwj1968 cwj85 cwj1969 ⟨rfl, by decide, by decide, by decide +kernel⟩
theorem dj_J3_checkIndex_8e157_0 : decode cJ3_checkIndex_8e157 0 = .ok (.iload_n 0, 1) := by decide +kernel
theorem dj_J3_checkIndex_8e157_1 : decode cJ3_checkIndex_8e157 1 = .ok (.ifCond .lt 8, 3) := by decide +kernel
theorem dj_J3_checkIndex_8e157_4 : decode cJ3_checkIndex_8e157 4 = .ok (.iload_n 0, 1) := by decide +kernel
theorem dj_J3_checkIndex_8e157_5 : decode cJ3_checkIndex_8e157 5 = .ok (.iload_n 1, 1) := by decide +kernel
theorem dj_J3_checkIndex_8e157_6 : decode cJ3_checkIndex_8e157 6 = .ok (.if_icmp .lt 10, 3) := by decide +kernel
theorem dj_J3_checkIndex_8e157_16 : decode cJ3_checkIndex_8e157 16 = .ok (.iload_n 0, 1) := by decide +kernel
theorem dj_J3_checkIndex_8e157_17 : decode cJ3_checkIndex_8e157 17 = .ok (.ireturn, 1) := by decide +kernel
theorem dj_J15_checkIndex_7cf53_0 : decode cJ15_checkIndex_7cf53 0 = .ok (.iload_n 0, 1) := by decide +kernel
theorem dj_J15_checkIndex_7cf53_1 : decode cJ15_checkIndex_7cf53 1 = .ok (.iload_n 1, 1) := by decide +kernel
theorem dj_J15_checkIndex_7cf53_2 : decode cJ15_checkIndex_7cf53 2 = .ok (.aconst_null, 1) := by decide +kernel
theorem dj_J15_checkIndex_7cf53_3 : decode cJ15_checkIndex_7cf53 3 = .ok (.invokestatic 105, 3) := by decide +kernel
theorem dj_J15_checkIndex_7cf53_6 : decode cJ15_checkIndex_7cf53 6 = .ok (.ireturn, 1) := by decide +kernel
theorem dj_Jx4a65c_size_8abf5_0 : decode cJx4a65c_size_8abf5 0 = .ok (.aload_n 0, 1) := by decide +kernel
theorem dj_Jx4a65c_size_8abf5_1 : decode cJx4a65c_size_8abf5 1 = .ok (.getfield 48, 3) := by decide +kernel
theorem dj_Jx4a65c_size_8abf5_4 : decode cJx4a65c_size_8abf5 4 = .ok (.ireturn, 1) := by decide +kernel
theorem dj_Jx4a65c_isEmpty_aae02_0 : decode cJx4a65c_isEmpty_aae02 0 = .ok (.aload_n 0, 1) := by decide +kernel
theorem dj_Jx4a65c_isEmpty_aae02_1 : decode cJx4a65c_isEmpty_aae02 1 = .ok (.getfield 48, 3) := by decide +kernel
theorem dj_Jx4a65c_isEmpty_aae02_4 : decode cJx4a65c_isEmpty_aae02 4 = .ok (.ifCond .ne 7, 3) := by decide +kernel
theorem dj_Jx4a65c_isEmpty_aae02_7 : decode cJx4a65c_isEmpty_aae02 7 = .ok (.iconst 1, 1) := by decide +kernel
theorem dj_Jx4a65c_isEmpty_aae02_8 : decode cJx4a65c_isEmpty_aae02 8 = .ok (.goto 4, 3) := by decide +kernel
theorem dj_Jx4a65c_isEmpty_aae02_12 : decode cJx4a65c_isEmpty_aae02 12 = .ok (.ireturn, 1) := by decide +kernel
theorem dj_Jx4a65c_isEmpty_aae02_11 : decode cJx4a65c_isEmpty_aae02 11 = .ok (.iconst 0, 1) := by decide +kernel
theorem dj_Jx4a65c_elementData_915e3_0 : decode cJx4a65c_elementData_915e3 0 = .ok (.aload_n 0, 1) := by decide +kernel
theorem dj_Jx4a65c_elementData_915e3_1 : decode cJx4a65c_elementData_915e3 1 = .ok (.getfield 9, 3) := by decide +kernel
theorem dj_Jx4a65c_elementData_915e3_4 : decode cJx4a65c_elementData_915e3 4 = .ok (.iload_n 1, 1) := by decide +kernel
theorem dj_Jx4a65c_elementData_915e3_5 : decode cJx4a65c_elementData_915e3 5 = .ok (.aaload, 1) := by decide +kernel
theorem dj_Jx4a65c_elementData_915e3_6 : decode cJx4a65c_elementData_915e3 6 = .ok (.areturn, 1) := by decide +kernel
theorem dj_Jx4a65c_get_915e3_0 : decode cJx4a65c_get_915e3 0 = .ok (.iload_n 1, 1) := by decide +kernel
theorem dj_Jx4a65c_get_915e3_1 : decode cJx4a65c_get_915e3 1 = .ok (.aload_n 0, 1) := by decide +kernel
theorem dj_Jx4a65c_get_915e3_2 : decode cJx4a65c_get_915e3 2 = .ok (.getfield 48, 3) := by decide +kernel
theorem dj_Jx4a65c_get_915e3_5 : decode cJx4a65c_get_915e3 5 = .ok (.invokestatic 118, 3) := by decide +kernel
theorem dj_Jx4a65c_get_915e3_8 : decode cJx4a65c_get_915e3 8 = .ok (.pop, 1) := by decide +kernel
theorem dj_Jx4a65c_get_915e3_9 : decode cJx4a65c_get_915e3 9 = .ok (.aload_n 0, 1) := by decide +kernel
theorem dj_Jx4a65c_get_915e3_10 : decode cJx4a65c_get_915e3 10 = .ok (.iload_n 1, 1) := by decide +kernel
theorem dj_Jx4a65c_get_915e3_11 : decode cJx4a65c_get_915e3 11 = .ok (.invokevirtual 123, 3) := by decide +kernel
theorem dj_Jx4a65c_get_915e3_14 : decode cJx4a65c_get_915e3 14 = .ok (.areturn, 1) := by decide +kernel
theorem dj_J8_newLength_cabcc_0 : decode cJ8_newLength_cabcc 0 = .ok (.iload_n 0, 1) := by decide +kernel
theorem dj_J8_newLength_cabcc_1 : decode cJ8_newLength_cabcc 1 = .ok (.iload_n 1, 1) := by decide +kernel
theorem dj_J8_newLength_cabcc_2 : decode cJ8_newLength_cabcc 2 = .ok (.iload_n 2, 1) := by decide +kernel
theorem dj_J8_newLength_cabcc_3 : decode cJ8_newLength_cabcc 3 = .ok (.invokestatic 194, 3) := by decide +kernel
theorem dj_J8_newLength_cabcc_6 : decode cJ8_newLength_cabcc 6 = .ok (.iadd, 1) := by decide +kernel
theorem dj_J8_newLength_cabcc_7 : decode cJ8_newLength_cabcc 7 = .ok (.istore_n 3, 1) := by decide +kernel
theorem dj_J8_newLength_cabcc_8 : decode cJ8_newLength_cabcc 8 = .ok (.iconst 0, 1) := by decide +kernel
theorem dj_J8_newLength_cabcc_9 : decode cJ8_newLength_cabcc 9 = .ok (.iload_n 3, 1) := by decide +kernel
theorem dj_J8_newLength_cabcc_10 : decode cJ8_newLength_cabcc 10 = .ok (.if_icmp .ge 11, 3) := by decide +kernel
theorem dj_J8_newLength_cabcc_13 : decode cJ8_newLength_cabcc 13 = .ok (.iload_n 3, 1) := by decide +kernel
theorem dj_J8_newLength_cabcc_14 : decode cJ8_newLength_cabcc 14 = .ok (.ldc 200, 2) := by decide +kernel
theorem dj_J8_newLength_cabcc_16 : decode cJ8_newLength_cabcc 16 = .ok (.if_icmp .gt 5, 3) := by decide +kernel
theorem dj_J8_newLength_cabcc_19 : decode cJ8_newLength_cabcc 19 = .ok (.iload_n 3, 1) := by decide +kernel
theorem dj_J8_newLength_cabcc_20 : decode cJ8_newLength_cabcc 20 = .ok (.ireturn, 1) := by decide +kernel
theorem dj_J7_copyOf_6403c_0 : decode cJ7_copyOf_6403c 0 = .ok (.aload_n 2, 1) := by decide +kernel
theorem dj_J7_copyOf_6403c_1 : decode cJ7_copyOf_6403c 1 = .ok (.ldc 110, 2) := by decide +kernel
theorem dj_J7_copyOf_6403c_3 : decode cJ7_copyOf_6403c 3 = .ok (.if_acmp .ne 10, 3) := by decide +kernel
theorem dj_J7_copyOf_6403c_6 : decode cJ7_copyOf_6403c 6 = .ok (.iload_n 1, 1) := by decide +kernel
theorem dj_J7_copyOf_6403c_7 : decode cJ7_copyOf_6403c 7 = .ok (.anewarray 2, 3) := by decide +kernel
theorem dj_J7_copyOf_6403c_10 : decode cJ7_copyOf_6403c 10 = .ok (.goto 14, 3) := by decide +kernel
theorem dj_J7_copyOf_6403c_24 : decode cJ7_copyOf_6403c 24 = .ok (.astore_n 3, 1) := by decide +kernel
theorem dj_J7_copyOf_6403c_25 : decode cJ7_copyOf_6403c 25 = .ok (.aload_n 0, 1) := by decide +kernel
theorem dj_J7_copyOf_6403c_26 : decode cJ7_copyOf_6403c 26 = .ok (.iconst 0, 1) := by decide +kernel
theorem dj_J7_copyOf_6403c_27 : decode cJ7_copyOf_6403c 27 = .ok (.aload_n 3, 1) := by decide +kernel
theorem dj_J7_copyOf_6403c_28 : decode cJ7_copyOf_6403c 28 = .ok (.iconst 0, 1) := by decide +kernel
theorem dj_J7_copyOf_6403c_29 : decode cJ7_copyOf_6403c 29 = .ok (.aload_n 0, 1) := by decide +kernel
theorem dj_J7_copyOf_6403c_30 : decode cJ7_copyOf_6403c 30 = .ok (.arraylength, 1) := by decide +kernel
theorem dj_J7_copyOf_6403c_31 : decode cJ7_copyOf_6403c 31 = .ok (.iload_n 1, 1) := by decide +kernel
theorem dj_J7_copyOf_6403c_32 : decode cJ7_copyOf_6403c 32 = .ok (.invokestatic 304, 3) := by decide +kernel
theorem dj_J7_copyOf_6403c_35 : decode cJ7_copyOf_6403c 35 = .ok (.invokestatic 150, 3) := by decide +kernel
theorem dj_J7_copyOf_6403c_38 : decode cJ7_copyOf_6403c 38 = .ok (.aload_n 3, 1) := by decide +kernel
theorem dj_J7_copyOf_6403c_39 : decode cJ7_copyOf_6403c 39 = .ok (.areturn, 1) := by decide +kernel
theorem dj_J7_copyOf_1904c_0 : decode cJ7_copyOf_1904c 0 = .ok (.aload_n 0, 1) := by decide +kernel
theorem dj_J7_copyOf_1904c_1 : decode cJ7_copyOf_1904c 1 = .ok (.iload_n 1, 1) := by decide +kernel
theorem dj_J7_copyOf_1904c_2 : decode cJ7_copyOf_1904c 2 = .ok (.aload_n 0, 1) := by decide +kernel
theorem dj_J7_copyOf_1904c_3 : decode cJ7_copyOf_1904c 3 = .ok (.invokevirtual 86, 3) := by decide +kernel
theorem dj_J7_copyOf_1904c_6 : decode cJ7_copyOf_1904c 6 = .ok (.invokestatic 300, 3) := by decide +kernel
theorem dj_J7_copyOf_1904c_9 : decode cJ7_copyOf_1904c 9 = .ok (.areturn, 1) := by decide +kernel
theorem dj_Jx4a65c_grow_92f84_0 : decode cJx4a65c_grow_92f84 0 = .ok (.aload_n 0, 1) := by decide +kernel
theorem dj_Jx4a65c_grow_92f84_1 : decode cJx4a65c_grow_92f84 1 = .ok (.getfield 9, 3) := by decide +kernel
theorem dj_Jx4a65c_grow_92f84_4 : decode cJx4a65c_grow_92f84 4 = .ok (.arraylength, 1) := by decide +kernel
theorem dj_Jx4a65c_grow_92f84_5 : decode cJx4a65c_grow_92f84 5 = .ok (.istore_n 2, 1) := by decide +kernel
theorem dj_Jx4a65c_grow_92f84_6 : decode cJx4a65c_grow_92f84 6 = .ok (.iload_n 2, 1) := by decide +kernel
theorem dj_Jx4a65c_grow_92f84_7 : decode cJx4a65c_grow_92f84 7 = .ok (.ifCond .gt 13, 3) := by decide +kernel
theorem dj_Jx4a65c_grow_92f84_20 : decode cJx4a65c_grow_92f84 20 = .ok (.iload_n 2, 1) := by decide +kernel
theorem dj_Jx4a65c_grow_92f84_21 : decode cJx4a65c_grow_92f84 21 = .ok (.iload_n 1, 1) := by decide +kernel
theorem dj_Jx4a65c_grow_92f84_22 : decode cJx4a65c_grow_92f84 22 = .ok (.iload_n 2, 1) := by decide +kernel
theorem dj_Jx4a65c_grow_92f84_23 : decode cJx4a65c_grow_92f84 23 = .ok (.isub, 1) := by decide +kernel
theorem dj_Jx4a65c_grow_92f84_24 : decode cJx4a65c_grow_92f84 24 = .ok (.iload_n 2, 1) := by decide +kernel
theorem dj_Jx4a65c_grow_92f84_25 : decode cJx4a65c_grow_92f84 25 = .ok (.iconst 1, 1) := by decide +kernel
theorem dj_Jx4a65c_grow_92f84_26 : decode cJx4a65c_grow_92f84 26 = .ok (.ishr, 1) := by decide +kernel
theorem dj_Jx4a65c_grow_92f84_27 : decode cJx4a65c_grow_92f84 27 = .ok (.invokestatic 73, 3) := by decide +kernel
theorem dj_Jx4a65c_grow_92f84_30 : decode cJx4a65c_grow_92f84 30 = .ok (.istore_n 3, 1) := by decide +kernel
theorem dj_Jx4a65c_grow_92f84_31 : decode cJx4a65c_grow_92f84 31 = .ok (.aload_n 0, 1) := by decide +kernel
theorem dj_Jx4a65c_grow_92f84_32 : decode cJx4a65c_grow_92f84 32 = .ok (.aload_n 0, 1) := by decide +kernel
theorem dj_Jx4a65c_grow_92f84_33 : decode cJx4a65c_grow_92f84 33 = .ok (.getfield 9, 3) := by decide +kernel
theorem dj_Jx4a65c_grow_92f84_36 : decode cJx4a65c_grow_92f84 36 = .ok (.iload_n 3, 1) := by decide +kernel
theorem dj_Jx4a65c_grow_92f84_37 : decode cJx4a65c_grow_92f84 37 = .ok (.invokestatic 66, 3) := by decide +kernel
theorem dj_Jx4a65c_grow_92f84_40 : decode cJx4a65c_grow_92f84 40 = .ok (.dup_x1, 1) := by decide +kernel
theorem dj_Jx4a65c_grow_92f84_41 : decode cJx4a65c_grow_92f84 41 = .ok (.putfield 9, 3) := by decide +kernel
theorem dj_Jx4a65c_grow_92f84_44 : decode cJx4a65c_grow_92f84 44 = .ok (.areturn, 1) := by decide +kernel
theorem dj_Jx4a65c_grow_d5877_0 : decode cJx4a65c_grow_d5877 0 = .ok (.aload_n 0, 1) := by decide +kernel
theorem dj_Jx4a65c_grow_d5877_1 : decode cJx4a65c_grow_d5877 1 = .ok (.aload_n 0, 1) := by decide +kernel
theorem dj_Jx4a65c_grow_d5877_2 : decode cJx4a65c_grow_d5877 2 = .ok (.getfield 48, 3) := by decide +kernel
theorem dj_Jx4a65c_grow_d5877_5 : decode cJx4a65c_grow_d5877 5 = .ok (.iconst 1, 1) := by decide +kernel
theorem dj_Jx4a65c_grow_d5877_6 : decode cJx4a65c_grow_d5877 6 = .ok (.iadd, 1) := by decide +kernel
theorem dj_Jx4a65c_grow_d5877_7 : decode cJx4a65c_grow_d5877 7 = .ok (.invokevirtual 69, 3) := by decide +kernel
theorem dj_Jx4a65c_grow_d5877_10 : decode cJx4a65c_grow_d5877 10 = .ok (.areturn, 1) := by decide +kernel
theorem dj_Jx4a65c_grow_92f84_10 : decode cJx4a65c_grow_92f84 10 = .ok (.aload_n 0, 1) := by decide +kernel
theorem dj_Jx4a65c_grow_92f84_11 : decode cJx4a65c_grow_92f84 11 = .ok (.getfield 9, 3) := by decide +kernel
theorem dj_Jx4a65c_grow_92f84_14 : decode cJx4a65c_grow_92f84 14 = .ok (.getstatic 39, 3) := by decide +kernel
theorem dj_Jx4a65c_grow_92f84_17 : decode cJx4a65c_grow_92f84 17 = .ok (.if_acmp .eq 28, 3) := by decide +kernel
theorem dj_Jx4a65c_grow_92f84_45 : decode cJx4a65c_grow_92f84 45 = .ok (.aload_n 0, 1) := by decide +kernel
theorem dj_Jx4a65c_grow_92f84_46 : decode cJx4a65c_grow_92f84 46 = .ok (.bipush 10, 2) := by decide +kernel
theorem dj_Jx4a65c_grow_92f84_48 : decode cJx4a65c_grow_92f84 48 = .ok (.iload_n 1, 1) := by decide +kernel
theorem dj_Jx4a65c_grow_92f84_49 : decode cJx4a65c_grow_92f84 49 = .ok (.invokestatic 79, 3) := by decide +kernel
theorem dj_Jx4a65c_grow_92f84_52 : decode cJx4a65c_grow_92f84 52 = .ok (.anewarray 7, 3) := by decide +kernel
theorem dj_Jx4a65c_grow_92f84_55 : decode cJx4a65c_grow_92f84 55 = .ok (.dup_x1, 1) := by decide +kernel
theorem dj_Jx4a65c_grow_92f84_56 : decode cJx4a65c_grow_92f84 56 = .ok (.putfield 9, 3) := by decide +kernel
theorem dj_Jx4a65c_grow_92f84_59 : decode cJx4a65c_grow_92f84 59 = .ok (.areturn, 1) := by decide +kernel
theorem dj_Jx4a65c_add_72be8_0 : decode cJx4a65c_add_72be8 0 = .ok (.iload_n 3, 1) := by decide +kernel
theorem dj_Jx4a65c_add_72be8_1 : decode cJx4a65c_add_72be8 1 = .ok (.aload_n 2, 1) := by decide +kernel
theorem dj_Jx4a65c_add_72be8_2 : decode cJx4a65c_add_72be8 2 = .ok (.arraylength, 1) := by decide +kernel
theorem dj_Jx4a65c_add_72be8_3 : decode cJx4a65c_add_72be8 3 = .ok (.if_icmp .ne 8, 3) := by decide +kernel
theorem dj_Jx4a65c_add_72be8_11 : decode cJx4a65c_add_72be8 11 = .ok (.aload_n 2, 1) := by decide +kernel
theorem dj_Jx4a65c_add_72be8_12 : decode cJx4a65c_add_72be8 12 = .ok (.iload_n 3, 1) := by decide +kernel
theorem dj_Jx4a65c_add_72be8_13 : decode cJx4a65c_add_72be8 13 = .ok (.aload_n 1, 1) := by decide +kernel
theorem dj_Jx4a65c_add_72be8_14 : decode cJx4a65c_add_72be8 14 = .ok (.aastore, 1) := by decide +kernel
theorem dj_Jx4a65c_add_72be8_15 : decode cJx4a65c_add_72be8 15 = .ok (.aload_n 0, 1) := by decide +kernel
theorem dj_Jx4a65c_add_72be8_16 : decode cJx4a65c_add_72be8 16 = .ok (.iload_n 3, 1) := by decide +kernel
theorem dj_Jx4a65c_add_72be8_17 : decode cJx4a65c_add_72be8 17 = .ok (.iconst 1, 1) := by decide +kernel
theorem dj_Jx4a65c_add_72be8_18 : decode cJx4a65c_add_72be8 18 = .ok (.iadd, 1) := by decide +kernel
theorem dj_Jx4a65c_add_72be8_19 : decode cJx4a65c_add_72be8 19 = .ok (.putfield 48, 3) := by decide +kernel
theorem dj_Jx4a65c_add_72be8_22 : decode cJx4a65c_add_72be8 22 = .ok (.return_, 1) := by decide +kernel
theorem dj_Jx4a65c_add_72be8_6 : decode cJx4a65c_add_72be8 6 = .ok (.aload_n 0, 1) := by decide +kernel
theorem dj_Jx4a65c_add_72be8_7 : decode cJx4a65c_add_72be8 7 = .ok (.invokevirtual 129, 3) := by decide +kernel
theorem dj_Jx4a65c_add_72be8_10 : decode cJx4a65c_add_72be8 10 = .ok (.astore_n 2, 1) := by decide +kernel
theorem dj_Jx4a65c_add_9ea2d_0 : decode cJx4a65c_add_9ea2d 0 = .ok (.aload_n 0, 1) := by decide +kernel
theorem dj_Jx4a65c_add_9ea2d_1 : decode cJx4a65c_add_9ea2d 1 = .ok (.dup, 1) := by decide +kernel
theorem dj_Jx4a65c_add_9ea2d_2 : decode cJx4a65c_add_9ea2d 2 = .ok (.getfield 63, 3) := by decide +kernel
theorem dj_Jx4a65c_add_9ea2d_5 : decode cJx4a65c_add_9ea2d 5 = .ok (.iconst 1, 1) := by decide +kernel
theorem dj_Jx4a65c_add_9ea2d_6 : decode cJx4a65c_add_9ea2d 6 = .ok (.iadd, 1) := by decide +kernel
theorem dj_Jx4a65c_add_9ea2d_7 : decode cJx4a65c_add_9ea2d 7 = .ok (.putfield 63, 3) := by decide +kernel
theorem dj_Jx4a65c_add_9ea2d_10 : decode cJx4a65c_add_9ea2d 10 = .ok (.aload_n 0, 1) := by decide +kernel
theorem dj_Jx4a65c_add_9ea2d_11 : decode cJx4a65c_add_9ea2d 11 = .ok (.aload_n 1, 1) := by decide +kernel
theorem dj_Jx4a65c_add_9ea2d_12 : decode cJx4a65c_add_9ea2d 12 = .ok (.aload_n 0, 1) := by decide +kernel
theorem dj_Jx4a65c_add_9ea2d_13 : decode cJx4a65c_add_9ea2d 13 = .ok (.getfield 9, 3) := by decide +kernel
theorem dj_Jx4a65c_add_9ea2d_16 : decode cJx4a65c_add_9ea2d 16 = .ok (.aload_n 0, 1) := by decide +kernel
theorem dj_Jx4a65c_add_9ea2d_17 : decode cJx4a65c_add_9ea2d 17 = .ok (.getfield 48, 3) := by decide +kernel
theorem dj_Jx4a65c_add_9ea2d_20 : decode cJx4a65c_add_9ea2d 20 = .ok (.invokevirtual 131, 3) := by decide +kernel
theorem dj_Jx4a65c_add_9ea2d_23 : decode cJx4a65c_add_9ea2d 23 = .ok (.iconst 1, 1) := by decide +kernel
theorem dj_Jx4a65c_add_9ea2d_24 : decode cJx4a65c_add_9ea2d 24 = .ok (.ireturn, 1) := by decide +kernel
theorem dj_Jx4a65c_set_bcc79_0 : decode cJx4a65c_set_bcc79 0 = .ok (.iload_n 1, 1) := by decide +kernel
theorem dj_Jx4a65c_set_bcc79_1 : decode cJx4a65c_set_bcc79 1 = .ok (.aload_n 0, 1) := by decide +kernel
theorem dj_Jx4a65c_set_bcc79_2 : decode cJx4a65c_set_bcc79 2 = .ok (.getfield 48, 3) := by decide +kernel
theorem dj_Jx4a65c_set_bcc79_5 : decode cJx4a65c_set_bcc79 5 = .ok (.invokestatic 118, 3) := by decide +kernel
theorem dj_Jx4a65c_set_bcc79_8 : decode cJx4a65c_set_bcc79 8 = .ok (.pop, 1) := by decide +kernel
theorem dj_Jx4a65c_set_bcc79_9 : decode cJx4a65c_set_bcc79 9 = .ok (.aload_n 0, 1) := by decide +kernel
theorem dj_Jx4a65c_set_bcc79_10 : decode cJx4a65c_set_bcc79 10 = .ok (.iload_n 1, 1) := by decide +kernel
theorem dj_Jx4a65c_set_bcc79_11 : decode cJx4a65c_set_bcc79 11 = .ok (.invokevirtual 123, 3) := by decide +kernel
theorem dj_Jx4a65c_set_bcc79_14 : decode cJx4a65c_set_bcc79 14 = .ok (.astore_n 3, 1) := by decide +kernel
theorem dj_Jx4a65c_set_bcc79_15 : decode cJx4a65c_set_bcc79 15 = .ok (.aload_n 0, 1) := by decide +kernel
theorem dj_Jx4a65c_set_bcc79_16 : decode cJx4a65c_set_bcc79 16 = .ok (.getfield 9, 3) := by decide +kernel
theorem dj_Jx4a65c_set_bcc79_19 : decode cJx4a65c_set_bcc79 19 = .ok (.iload_n 1, 1) := by decide +kernel
theorem dj_Jx4a65c_set_bcc79_20 : decode cJx4a65c_set_bcc79 20 = .ok (.aload_n 2, 1) := by decide +kernel
theorem dj_Jx4a65c_set_bcc79_21 : decode cJx4a65c_set_bcc79 21 = .ok (.aastore, 1) := by decide +kernel
theorem dj_Jx4a65c_set_bcc79_22 : decode cJx4a65c_set_bcc79 22 = .ok (.aload_n 3, 1) := by decide +kernel
theorem dj_Jx4a65c_set_bcc79_23 : decode cJx4a65c_set_bcc79 23 = .ok (.areturn, 1) := by decide +kernel
theorem dj_Jx4a65c_fastRemove_b59b0_0 : decode cJx4a65c_fastRemove_b59b0 0 = .ok (.aload_n 0, 1) := by decide +kernel
theorem dj_Jx4a65c_fastRemove_b59b0_1 : decode cJx4a65c_fastRemove_b59b0 1 = .ok (.dup, 1) := by decide +kernel
theorem dj_Jx4a65c_fastRemove_b59b0_2 : decode cJx4a65c_fastRemove_b59b0 2 = .ok (.getfield 63, 3) := by decide +kernel
theorem dj_Jx4a65c_fastRemove_b59b0_5 : decode cJx4a65c_fastRemove_b59b0 5 = .ok (.iconst 1, 1) := by decide +kernel
theorem dj_Jx4a65c_fastRemove_b59b0_6 : decode cJx4a65c_fastRemove_b59b0 6 = .ok (.iadd, 1) := by decide +kernel
theorem dj_Jx4a65c_fastRemove_b59b0_7 : decode cJx4a65c_fastRemove_b59b0 7 = .ok (.putfield 63, 3) := by decide +kernel
theorem dj_Jx4a65c_fastRemove_b59b0_10 : decode cJx4a65c_fastRemove_b59b0 10 = .ok (.aload_n 0, 1) := by decide +kernel
theorem dj_Jx4a65c_fastRemove_b59b0_11 : decode cJx4a65c_fastRemove_b59b0 11 = .ok (.getfield 48, 3) := by decide +kernel
theorem dj_Jx4a65c_fastRemove_b59b0_14 : decode cJx4a65c_fastRemove_b59b0 14 = .ok (.iconst 1, 1) := by decide +kernel
theorem dj_Jx4a65c_fastRemove_b59b0_15 : decode cJx4a65c_fastRemove_b59b0 15 = .ok (.isub, 1) := by decide +kernel
theorem dj_Jx4a65c_fastRemove_b59b0_16 : decode cJx4a65c_fastRemove_b59b0 16 = .ok (.dup, 1) := by decide +kernel
theorem dj_Jx4a65c_fastRemove_b59b0_17 : decode cJx4a65c_fastRemove_b59b0 17 = .ok (.istore_n 3, 1) := by decide +kernel
theorem dj_Jx4a65c_fastRemove_b59b0_18 : decode cJx4a65c_fastRemove_b59b0 18 = .ok (.iload_n 2, 1) := by decide +kernel
theorem dj_Jx4a65c_fastRemove_b59b0_19 : decode cJx4a65c_fastRemove_b59b0 19 = .ok (.if_icmp .le 15, 3) := by decide +kernel
theorem dj_Jx4a65c_fastRemove_b59b0_22 : decode cJx4a65c_fastRemove_b59b0 22 = .ok (.aload_n 1, 1) := by decide +kernel
theorem dj_Jx4a65c_fastRemove_b59b0_23 : decode cJx4a65c_fastRemove_b59b0 23 = .ok (.iload_n 2, 1) := by decide +kernel
theorem dj_Jx4a65c_fastRemove_b59b0_24 : decode cJx4a65c_fastRemove_b59b0 24 = .ok (.iconst 1, 1) := by decide +kernel
theorem dj_Jx4a65c_fastRemove_b59b0_25 : decode cJx4a65c_fastRemove_b59b0 25 = .ok (.iadd, 1) := by decide +kernel
theorem dj_Jx4a65c_fastRemove_b59b0_26 : decode cJx4a65c_fastRemove_b59b0 26 = .ok (.aload_n 1, 1) := by decide +kernel
theorem dj_Jx4a65c_fastRemove_b59b0_27 : decode cJx4a65c_fastRemove_b59b0 27 = .ok (.iload_n 2, 1) := by decide +kernel
theorem dj_Jx4a65c_fastRemove_b59b0_28 : decode cJx4a65c_fastRemove_b59b0 28 = .ok (.iload_n 3, 1) := by decide +kernel
theorem dj_Jx4a65c_fastRemove_b59b0_29 : decode cJx4a65c_fastRemove_b59b0 29 = .ok (.iload_n 2, 1) := by decide +kernel
theorem dj_Jx4a65c_fastRemove_b59b0_30 : decode cJx4a65c_fastRemove_b59b0 30 = .ok (.isub, 1) := by decide +kernel
theorem dj_Jx4a65c_fastRemove_b59b0_31 : decode cJx4a65c_fastRemove_b59b0 31 = .ok (.invokestatic 112, 3) := by decide +kernel
theorem dj_Jx4a65c_fastRemove_b59b0_34 : decode cJx4a65c_fastRemove_b59b0 34 = .ok (.aload_n 1, 1) := by decide +kernel
theorem dj_Jx4a65c_fastRemove_b59b0_35 : decode cJx4a65c_fastRemove_b59b0 35 = .ok (.aload_n 0, 1) := by decide +kernel
theorem dj_Jx4a65c_fastRemove_b59b0_36 : decode cJx4a65c_fastRemove_b59b0 36 = .ok (.iload_n 3, 1) := by decide +kernel
theorem dj_Jx4a65c_fastRemove_b59b0_37 : decode cJx4a65c_fastRemove_b59b0 37 = .ok (.dup_x1, 1) := by decide +kernel
theorem dj_Jx4a65c_fastRemove_b59b0_38 : decode cJx4a65c_fastRemove_b59b0 38 = .ok (.putfield 48, 3) := by decide +kernel
theorem dj_Jx4a65c_fastRemove_b59b0_41 : decode cJx4a65c_fastRemove_b59b0 41 = .ok (.aconst_null, 1) := by decide +kernel
theorem dj_Jx4a65c_fastRemove_b59b0_42 : decode cJx4a65c_fastRemove_b59b0 42 = .ok (.aastore, 1) := by decide +kernel
theorem dj_Jx4a65c_fastRemove_b59b0_43 : decode cJx4a65c_fastRemove_b59b0 43 = .ok (.return_, 1) := by decide +kernel
theorem dj_Jx4a65c_remove_915e3_0 : decode cJx4a65c_remove_915e3 0 = .ok (.iload_n 1, 1) := by decide +kernel
theorem dj_Jx4a65c_remove_915e3_1 : decode cJx4a65c_remove_915e3 1 = .ok (.aload_n 0, 1) := by decide +kernel
theorem dj_Jx4a65c_remove_915e3_2 : decode cJx4a65c_remove_915e3 2 = .ok (.getfield 48, 3) := by decide +kernel
theorem dj_Jx4a65c_remove_915e3_5 : decode cJx4a65c_remove_915e3 5 = .ok (.invokestatic 118, 3) := by decide +kernel
theorem dj_Jx4a65c_remove_915e3_8 : decode cJx4a65c_remove_915e3 8 = .ok (.pop, 1) := by decide +kernel
theorem dj_Jx4a65c_remove_915e3_9 : decode cJx4a65c_remove_915e3 9 = .ok (.aload_n 0, 1) := by decide +kernel
theorem dj_Jx4a65c_remove_915e3_10 : decode cJx4a65c_remove_915e3 10 = .ok (.getfield 9, 3) := by decide +kernel
theorem dj_Jx4a65c_remove_915e3_13 : decode cJx4a65c_remove_915e3 13 = .ok (.astore_n 2, 1) := by decide +kernel
theorem dj_Jx4a65c_remove_915e3_14 : decode cJx4a65c_remove_915e3 14 = .ok (.aload_n 2, 1) := by decide +kernel
theorem dj_Jx4a65c_remove_915e3_15 : decode cJx4a65c_remove_915e3 15 = .ok (.iload_n 1, 1) := by decide +kernel
theorem dj_Jx4a65c_remove_915e3_16 : decode cJx4a65c_remove_915e3 16 = .ok (.aaload, 1) := by decide +kernel
theorem dj_Jx4a65c_remove_915e3_17 : decode cJx4a65c_remove_915e3 17 = .ok (.astore_n 3, 1) := by decide +kernel
theorem dj_Jx4a65c_remove_915e3_18 : decode cJx4a65c_remove_915e3 18 = .ok (.aload_n 0, 1) := by decide +kernel
theorem dj_Jx4a65c_remove_915e3_19 : decode cJx4a65c_remove_915e3 19 = .ok (.aload_n 2, 1) := by decide +kernel
theorem dj_Jx4a65c_remove_915e3_20 : decode cJx4a65c_remove_915e3 20 = .ok (.iload_n 1, 1) := by decide +kernel
theorem dj_Jx4a65c_remove_915e3_21 : decode cJx4a65c_remove_915e3 21 = .ok (.invokevirtual 144, 3) := by decide +kernel
theorem dj_Jx4a65c_remove_915e3_24 : decode cJx4a65c_remove_915e3 24 = .ok (.aload_n 3, 1) := by decide +kernel
theorem dj_Jx4a65c_remove_915e3_25 : decode cJx4a65c_remove_915e3 25 = .ok (.areturn, 1) := by decide +kernel
theorem dj_Jx4a65c_rangeCheckForAdd_d00df_0 : decode cJx4a65c_rangeCheckForAdd_d00df 0 = .ok (.iload_n 1, 1) := by decide +kernel
theorem dj_Jx4a65c_rangeCheckForAdd_d00df_1 : decode cJx4a65c_rangeCheckForAdd_d00df 1 = .ok (.aload_n 0, 1) := by decide +kernel
theorem dj_Jx4a65c_rangeCheckForAdd_d00df_2 : decode cJx4a65c_rangeCheckForAdd_d00df 2 = .ok (.getfield 48, 3) := by decide +kernel
theorem dj_Jx4a65c_rangeCheckForAdd_d00df_5 : decode cJx4a65c_rangeCheckForAdd_d00df 5 = .ok (.if_icmp .gt 7, 3) := by decide +kernel
theorem dj_Jx4a65c_rangeCheckForAdd_d00df_8 : decode cJx4a65c_rangeCheckForAdd_d00df 8 = .ok (.iload_n 1, 1) := by decide +kernel
theorem dj_Jx4a65c_rangeCheckForAdd_d00df_9 : decode cJx4a65c_rangeCheckForAdd_d00df 9 = .ok (.ifCond .ge 16, 3) := by decide +kernel
theorem dj_Jx4a65c_rangeCheckForAdd_d00df_25 : decode cJx4a65c_rangeCheckForAdd_d00df 25 = .ok (.return_, 1) := by decide +kernel
theorem dj_Jx4a65c_add_7a177_0 : decode cJx4a65c_add_7a177 0 = .ok (.aload_n 0, 1) := by decide +kernel
theorem dj_Jx4a65c_add_7a177_1 : decode cJx4a65c_add_7a177 1 = .ok (.iload_n 1, 1) := by decide +kernel
theorem dj_Jx4a65c_add_7a177_2 : decode cJx4a65c_add_7a177 2 = .ok (.invokevirtual 135, 3) := by decide +kernel
theorem dj_Jx4a65c_add_7a177_5 : decode cJx4a65c_add_7a177 5 = .ok (.aload_n 0, 1) := by decide +kernel
theorem dj_Jx4a65c_add_7a177_6 : decode cJx4a65c_add_7a177 6 = .ok (.dup, 1) := by decide +kernel
theorem dj_Jx4a65c_add_7a177_7 : decode cJx4a65c_add_7a177 7 = .ok (.getfield 63, 3) := by decide +kernel
theorem dj_Jx4a65c_add_7a177_10 : decode cJx4a65c_add_7a177 10 = .ok (.iconst 1, 1) := by decide +kernel
theorem dj_Jx4a65c_add_7a177_11 : decode cJx4a65c_add_7a177 11 = .ok (.iadd, 1) := by decide +kernel
theorem dj_Jx4a65c_add_7a177_12 : decode cJx4a65c_add_7a177 12 = .ok (.putfield 63, 3) := by decide +kernel
theorem dj_Jx4a65c_add_7a177_15 : decode cJx4a65c_add_7a177 15 = .ok (.aload_n 0, 1) := by decide +kernel
theorem dj_Jx4a65c_add_7a177_16 : decode cJx4a65c_add_7a177 16 = .ok (.getfield 48, 3) := by decide +kernel
theorem dj_Jx4a65c_add_7a177_19 : decode cJx4a65c_add_7a177 19 = .ok (.dup, 1) := by decide +kernel
theorem dj_Jx4a65c_add_7a177_20 : decode cJx4a65c_add_7a177 20 = .ok (.istore_n 3, 1) := by decide +kernel
theorem dj_Jx4a65c_add_7a177_21 : decode cJx4a65c_add_7a177 21 = .ok (.aload_n 0, 1) := by decide +kernel
theorem dj_Jx4a65c_add_7a177_22 : decode cJx4a65c_add_7a177 22 = .ok (.getfield 9, 3) := by decide +kernel
theorem dj_Jx4a65c_add_7a177_25 : decode cJx4a65c_add_7a177 25 = .ok (.dup, 1) := by decide +kernel
theorem dj_Jx4a65c_add_7a177_26 : decode cJx4a65c_add_7a177 26 = .ok (.astore 4, 2) := by decide +kernel
theorem dj_Jx4a65c_add_7a177_28 : decode cJx4a65c_add_7a177 28 = .ok (.arraylength, 1) := by decide +kernel
theorem dj_Jx4a65c_add_7a177_29 : decode cJx4a65c_add_7a177 29 = .ok (.if_icmp .ne 9, 3) := by decide +kernel
theorem dj_Jx4a65c_add_7a177_38 : decode cJx4a65c_add_7a177 38 = .ok (.aload 4, 2) := by decide +kernel
theorem dj_Jx4a65c_add_7a177_40 : decode cJx4a65c_add_7a177 40 = .ok (.iload_n 1, 1) := by decide +kernel
theorem dj_Jx4a65c_add_7a177_41 : decode cJx4a65c_add_7a177 41 = .ok (.aload 4, 2) := by decide +kernel
theorem dj_Jx4a65c_add_7a177_43 : decode cJx4a65c_add_7a177 43 = .ok (.iload_n 1, 1) := by decide +kernel
theorem dj_Jx4a65c_add_7a177_44 : decode cJx4a65c_add_7a177 44 = .ok (.iconst 1, 1) := by decide +kernel
theorem dj_Jx4a65c_add_7a177_45 : decode cJx4a65c_add_7a177 45 = .ok (.iadd, 1) := by decide +kernel
theorem dj_Jx4a65c_add_7a177_46 : decode cJx4a65c_add_7a177 46 = .ok (.iload_n 3, 1) := by decide +kernel
theorem dj_Jx4a65c_add_7a177_47 : decode cJx4a65c_add_7a177 47 = .ok (.iload_n 1, 1) := by decide +kernel
theorem dj_Jx4a65c_add_7a177_48 : decode cJx4a65c_add_7a177 48 = .ok (.isub, 1) := by decide +kernel
theorem dj_Jx4a65c_add_7a177_49 : decode cJx4a65c_add_7a177 49 = .ok (.invokestatic 112, 3) := by decide +kernel
theorem dj_Jx4a65c_add_7a177_52 : decode cJx4a65c_add_7a177 52 = .ok (.aload 4, 2) := by decide +kernel
theorem dj_Jx4a65c_add_7a177_54 : decode cJx4a65c_add_7a177 54 = .ok (.iload_n 1, 1) := by decide +kernel
theorem dj_Jx4a65c_add_7a177_55 : decode cJx4a65c_add_7a177 55 = .ok (.aload_n 2, 1) := by decide +kernel
theorem dj_Jx4a65c_add_7a177_56 : decode cJx4a65c_add_7a177 56 = .ok (.aastore, 1) := by decide +kernel
theorem dj_Jx4a65c_add_7a177_57 : decode cJx4a65c_add_7a177 57 = .ok (.aload_n 0, 1) := by decide +kernel
theorem dj_Jx4a65c_add_7a177_58 : decode cJx4a65c_add_7a177 58 = .ok (.iload_n 3, 1) := by decide +kernel
theorem dj_Jx4a65c_add_7a177_59 : decode cJx4a65c_add_7a177 59 = .ok (.iconst 1, 1) := by decide +kernel
theorem dj_Jx4a65c_add_7a177_60 : decode cJx4a65c_add_7a177 60 = .ok (.iadd, 1) := by decide +kernel
theorem dj_Jx4a65c_add_7a177_61 : decode cJx4a65c_add_7a177 61 = .ok (.putfield 48, 3) := by decide +kernel
theorem dj_Jx4a65c_add_7a177_64 : decode cJx4a65c_add_7a177 64 = .ok (.return_, 1) := by decide +kernel
theorem dj_Jx4a65c_add_7a177_32 : decode cJx4a65c_add_7a177 32 = .ok (.aload_n 0, 1) := by decide +kernel
theorem dj_Jx4a65c_add_7a177_33 : decode cJx4a65c_add_7a177 33 = .ok (.invokevirtual 129, 3) := by decide +kernel
theorem dj_Jx4a65c_add_7a177_36 : decode cJx4a65c_add_7a177 36 = .ok (.astore 4, 2) := by decide +kernel
theorem dj_Jxd2413_init_da8c8_0 : decode cJxd2413_init_da8c8 0 = .ok (.aload_n 0, 1) := by decide +kernel
theorem dj_Jxd2413_init_da8c8_1 : decode cJxd2413_init_da8c8 1 = .ok (.invokespecial 1, 3) := by decide +kernel
theorem dj_Jxd2413_init_da8c8_4 : decode cJxd2413_init_da8c8 4 = .ok (.return_, 1) := by decide +kernel
theorem dj_J6_init_d00df_0 : decode cJ6_init_d00df 0 = .ok (.aload_n 0, 1) := by decide +kernel
theorem dj_J6_init_d00df_1 : decode cJ6_init_d00df 1 = .ok (.invokespecial 202, 3) := by decide +kernel
theorem dj_J6_init_d00df_4 : decode cJ6_init_d00df 4 = .ok (.aload_n 0, 1) := by decide +kernel
theorem dj_J6_init_d00df_5 : decode cJ6_init_d00df 5 = .ok (.iload_n 1, 1) := by decide +kernel
theorem dj_J6_init_d00df_6 : decode cJ6_init_d00df 6 = .ok (.putfield 205, 3) := by decide +kernel
theorem dj_J6_init_d00df_9 : decode cJ6_init_d00df 9 = .ok (.return_, 1) := by decide +kernel
theorem dj_J6_valueOf_2dffe_0 : decode cJ6_valueOf_2dffe 0 = .ok (.iload_n 0, 1) := by decide +kernel
theorem dj_J6_valueOf_2dffe_1 : decode cJ6_valueOf_2dffe 1 = .ok (.bipush (-128), 2) := by decide +kernel
theorem dj_J6_valueOf_2dffe_3 : decode cJ6_valueOf_2dffe 3 = .ok (.if_icmp .lt 20, 3) := by decide +kernel
theorem dj_J6_valueOf_2dffe_23 : decode cJ6_valueOf_2dffe 23 = .ok (.new 1, 3) := by decide +kernel
theorem dj_J6_valueOf_2dffe_26 : decode cJ6_valueOf_2dffe 26 = .ok (.dup, 1) := by decide +kernel
theorem dj_J6_valueOf_2dffe_27 : decode cJ6_valueOf_2dffe 27 = .ok (.iload_n 0, 1) := by decide +kernel
theorem dj_J6_valueOf_2dffe_28 : decode cJ6_valueOf_2dffe 28 = .ok (.invokespecial 199, 3) := by decide +kernel
theorem dj_J6_valueOf_2dffe_31 : decode cJ6_valueOf_2dffe 31 = .ok (.areturn, 1) := by decide +kernel
theorem dj_J6_valueOf_2dffe_6 : decode cJ6_valueOf_2dffe 6 = .ok (.iload_n 0, 1) := by decide +kernel
theorem dj_J6_valueOf_2dffe_7 : decode cJ6_valueOf_2dffe 7 = .ok (.getstatic 191, 3) := by decide +kernel
theorem dj_J6_valueOf_2dffe_10 : decode cJ6_valueOf_2dffe 10 = .ok (.if_icmp .gt 13, 3) := by decide +kernel
theorem dj_J6_valueOf_2dffe_13 : decode cJ6_valueOf_2dffe 13 = .ok (.getstatic 195, 3) := by decide +kernel
theorem dj_J6_valueOf_2dffe_16 : decode cJ6_valueOf_2dffe 16 = .ok (.iload_n 0, 1) := by decide +kernel
theorem dj_J6_valueOf_2dffe_17 : decode cJ6_valueOf_2dffe 17 = .ok (.sipush 128, 3) := by decide +kernel
theorem dj_J6_valueOf_2dffe_20 : decode cJ6_valueOf_2dffe 20 = .ok (.iadd, 1) := by decide +kernel
theorem dj_J6_valueOf_2dffe_21 : decode cJ6_valueOf_2dffe 21 = .ok (.aaload, 1) := by decide +kernel
theorem dj_J6_valueOf_2dffe_22 : decode cJ6_valueOf_2dffe 22 = .ok (.areturn, 1) := by decide +kernel
theorem dj_J6_intValue_8abf5_0 : decode cJ6_intValue_8abf5 0 = .ok (.aload_n 0, 1) := by decide +kernel
theorem dj_J6_intValue_8abf5_1 : decode cJ6_intValue_8abf5 1 = .ok (.getfield 205, 3) := by decide +kernel
theorem dj_J6_intValue_8abf5_4 : decode cJ6_intValue_8abf5 4 = .ok (.ireturn, 1) := by decide +kernel
theorem dj_Jxa1e45_init_da8c8_0 : decode cJxa1e45_init_da8c8 0 = .ok (.aload_n 0, 1) := by decide +kernel
theorem dj_Jxa1e45_init_da8c8_1 : decode cJxa1e45_init_da8c8 1 = .ok (.invokespecial 1, 3) := by decide +kernel
theorem dj_Jxa1e45_init_da8c8_4 : decode cJxa1e45_init_da8c8 4 = .ok (.return_, 1) := by decide +kernel
theorem dj_Jxc12de_init_da8c8_0 : decode cJxc12de_init_da8c8 0 = .ok (.aload_n 0, 1) := by decide +kernel
theorem dj_Jxc12de_init_da8c8_1 : decode cJxc12de_init_da8c8 1 = .ok (.invokespecial 1, 3) := by decide +kernel
theorem dj_Jxc12de_init_da8c8_4 : decode cJxc12de_init_da8c8 4 = .ok (.aload_n 0, 1) := by decide +kernel
theorem dj_Jxc12de_init_da8c8_5 : decode cJxc12de_init_da8c8 5 = .ok (.iconst 0, 1) := by decide +kernel
theorem dj_Jxc12de_init_da8c8_6 : decode cJxc12de_init_da8c8 6 = .ok (.putfield 7, 3) := by decide +kernel
theorem dj_Jxc12de_init_da8c8_9 : decode cJxc12de_init_da8c8 9 = .ok (.return_, 1) := by decide +kernel
theorem dj_Jx4a65c_init_da8c8_0 : decode cJx4a65c_init_da8c8 0 = .ok (.aload_n 0, 1) := by decide +kernel
theorem dj_Jx4a65c_init_da8c8_1 : decode cJx4a65c_init_da8c8 1 = .ok (.invokespecial 1, 3) := by decide +kernel
theorem dj_Jx4a65c_init_da8c8_4 : decode cJx4a65c_init_da8c8 4 = .ok (.aload_n 0, 1) := by decide +kernel
theorem dj_Jx4a65c_init_da8c8_5 : decode cJx4a65c_init_da8c8 5 = .ok (.getstatic 39, 3) := by decide +kernel
theorem dj_Jx4a65c_init_da8c8_8 : decode cJx4a65c_init_da8c8 8 = .ok (.putfield 9, 3) := by decide +kernel
theorem dj_Jx4a65c_init_da8c8_11 : decode cJx4a65c_init_da8c8 11 = .ok (.return_, 1) := by decide +kernel
theorem dj_Jx35411_init_45d68_0 : decode cJx35411_init_45d68 0 = .ok (.aload_n 0, 1) := by decide +kernel
theorem dj_Jx35411_init_45d68_1 : decode cJx35411_init_45d68 1 = .ok (.aload_n 1, 1) := by decide +kernel
theorem dj_Jx35411_init_45d68_2 : decode cJx35411_init_45d68 2 = .ok (.putfield 1, 3) := by decide +kernel
theorem dj_Jx35411_init_45d68_5 : decode cJx35411_init_45d68 5 = .ok (.aload_n 0, 1) := by decide +kernel
theorem dj_Jx35411_init_45d68_6 : decode cJx35411_init_45d68 6 = .ok (.invokespecial 7, 3) := by decide +kernel
theorem dj_Jx35411_init_45d68_9 : decode cJx35411_init_45d68 9 = .ok (.aload_n 0, 1) := by decide +kernel
theorem dj_Jx35411_init_45d68_10 : decode cJx35411_init_45d68 10 = .ok (.iconst (-1), 1) := by decide +kernel
theorem dj_Jx35411_init_45d68_11 : decode cJx35411_init_45d68 11 = .ok (.putfield 13, 3) := by decide +kernel
theorem dj_Jx35411_init_45d68_14 : decode cJx35411_init_45d68 14 = .ok (.aload_n 0, 1) := by decide +kernel
theorem dj_Jx35411_init_45d68_15 : decode cJx35411_init_45d68 15 = .ok (.aload_n 0, 1) := by decide +kernel
theorem dj_Jx35411_init_45d68_16 : decode cJx35411_init_45d68 16 = .ok (.getfield 1, 3) := by decide +kernel
theorem dj_Jx35411_init_45d68_19 : decode cJx35411_init_45d68 19 = .ok (.getfield 17, 3) := by decide +kernel
theorem dj_Jx35411_init_45d68_22 : decode cJx35411_init_45d68 22 = .ok (.putfield 22, 3) := by decide +kernel
theorem dj_Jx35411_init_45d68_25 : decode cJx35411_init_45d68 25 = .ok (.return_, 1) := by decide +kernel
theorem dj_Jx4a65c_iterator_32c93_0 : decode cJx4a65c_iterator_32c93 0 = .ok (.new 267, 3) := by decide +kernel
theorem dj_Jx4a65c_iterator_32c93_3 : decode cJx4a65c_iterator_32c93 3 = .ok (.dup, 1) := by decide +kernel
theorem dj_Jx4a65c_iterator_32c93_4 : decode cJx4a65c_iterator_32c93 4 = .ok (.aload_n 0, 1) := by decide +kernel
theorem dj_Jx4a65c_iterator_32c93_5 : decode cJx4a65c_iterator_32c93 5 = .ok (.invokespecial 269, 3) := by decide +kernel
theorem dj_Jx4a65c_iterator_32c93_8 : decode cJx4a65c_iterator_32c93 8 = .ok (.areturn, 1) := by decide +kernel
theorem dj_Jx35411_hasNext_aae02_0 : decode cJx35411_hasNext_aae02 0 = .ok (.aload_n 0, 1) := by decide +kernel
theorem dj_Jx35411_hasNext_aae02_1 : decode cJx35411_hasNext_aae02 1 = .ok (.getfield 25, 3) := by decide +kernel
theorem dj_Jx35411_hasNext_aae02_4 : decode cJx35411_hasNext_aae02 4 = .ok (.aload_n 0, 1) := by decide +kernel
theorem dj_Jx35411_hasNext_aae02_5 : decode cJx35411_hasNext_aae02 5 = .ok (.getfield 1, 3) := by decide +kernel
theorem dj_Jx35411_hasNext_aae02_8 : decode cJx35411_hasNext_aae02 8 = .ok (.getfield 28, 3) := by decide +kernel
theorem dj_Jx35411_hasNext_aae02_11 : decode cJx35411_hasNext_aae02 11 = .ok (.if_icmp .eq 7, 3) := by decide +kernel
theorem dj_Jx35411_hasNext_aae02_18 : decode cJx35411_hasNext_aae02 18 = .ok (.iconst 0, 1) := by decide +kernel
theorem dj_Jx35411_hasNext_aae02_19 : decode cJx35411_hasNext_aae02 19 = .ok (.ireturn, 1) := by decide +kernel
theorem dj_Jx35411_hasNext_aae02_14 : decode cJx35411_hasNext_aae02 14 = .ok (.iconst 1, 1) := by decide +kernel
theorem dj_Jx35411_hasNext_aae02_15 : decode cJx35411_hasNext_aae02 15 = .ok (.goto 4, 3) := by decide +kernel
theorem dj_Jx35411_checkForComodification_da8c8_0 : decode cJx35411_checkForComodification_da8c8 0 = .ok (.aload_n 0, 1) := by decide +kernel
theorem dj_Jx35411_checkForComodification_da8c8_1 : decode cJx35411_checkForComodification_da8c8 1 = .ok (.getfield 1, 3) := by decide +kernel
theorem dj_Jx35411_checkForComodification_da8c8_4 : decode cJx35411_checkForComodification_da8c8 4 = .ok (.getfield 17, 3) := by decide +kernel
theorem dj_Jx35411_checkForComodification_da8c8_7 : decode cJx35411_checkForComodification_da8c8 7 = .ok (.aload_n 0, 1) := by decide +kernel
theorem dj_Jx35411_checkForComodification_da8c8_8 : decode cJx35411_checkForComodification_da8c8 8 = .ok (.getfield 22, 3) := by decide +kernel
theorem dj_Jx35411_checkForComodification_da8c8_11 : decode cJx35411_checkForComodification_da8c8 11 = .ok (.if_icmp .eq 11, 3) := by decide +kernel
theorem dj_Jx35411_checkForComodification_da8c8_22 : decode cJx35411_checkForComodification_da8c8 22 = .ok (.return_, 1) := by decide +kernel
theorem dj_Jx35411_next_0502b_0 : decode cJx35411_next_0502b 0 = .ok (.aload_n 0, 1) := by decide +kernel
theorem dj_Jx35411_next_0502b_1 : decode cJx35411_next_0502b 1 = .ok (.invokevirtual 31, 3) := by decide +kernel
theorem dj_Jx35411_next_0502b_4 : decode cJx35411_next_0502b 4 = .ok (.aload_n 0, 1) := by decide +kernel
theorem dj_Jx35411_next_0502b_5 : decode cJx35411_next_0502b 5 = .ok (.getfield 25, 3) := by decide +kernel
theorem dj_Jx35411_next_0502b_8 : decode cJx35411_next_0502b 8 = .ok (.istore_n 1, 1) := by decide +kernel
theorem dj_Jx35411_next_0502b_9 : decode cJx35411_next_0502b 9 = .ok (.iload_n 1, 1) := by decide +kernel
theorem dj_Jx35411_next_0502b_10 : decode cJx35411_next_0502b 10 = .ok (.aload_n 0, 1) := by decide +kernel
theorem dj_Jx35411_next_0502b_11 : decode cJx35411_next_0502b 11 = .ok (.getfield 1, 3) := by decide +kernel
theorem dj_Jx35411_next_0502b_14 : decode cJx35411_next_0502b 14 = .ok (.getfield 28, 3) := by decide +kernel
theorem dj_Jx35411_next_0502b_17 : decode cJx35411_next_0502b 17 = .ok (.if_icmp .lt 11, 3) := by decide +kernel
theorem dj_Jx35411_next_0502b_28 : decode cJx35411_next_0502b 28 = .ok (.aload_n 0, 1) := by decide +kernel
theorem dj_Jx35411_next_0502b_29 : decode cJx35411_next_0502b 29 = .ok (.getfield 1, 3) := by decide +kernel
theorem dj_Jx35411_next_0502b_32 : decode cJx35411_next_0502b 32 = .ok (.getfield 37, 3) := by decide +kernel
theorem dj_Jx35411_next_0502b_35 : decode cJx35411_next_0502b 35 = .ok (.astore_n 2, 1) := by decide +kernel
theorem dj_Jx35411_next_0502b_36 : decode cJx35411_next_0502b 36 = .ok (.iload_n 1, 1) := by decide +kernel
theorem dj_Jx35411_next_0502b_37 : decode cJx35411_next_0502b 37 = .ok (.aload_n 2, 1) := by decide +kernel
theorem dj_Jx35411_next_0502b_38 : decode cJx35411_next_0502b 38 = .ok (.arraylength, 1) := by decide +kernel
theorem dj_Jx35411_next_0502b_39 : decode cJx35411_next_0502b 39 = .ok (.if_icmp .lt 11, 3) := by decide +kernel
theorem dj_Jx35411_next_0502b_50 : decode cJx35411_next_0502b 50 = .ok (.aload_n 0, 1) := by decide +kernel
theorem dj_Jx35411_next_0502b_51 : decode cJx35411_next_0502b 51 = .ok (.iload_n 1, 1) := by decide +kernel
theorem dj_Jx35411_next_0502b_52 : decode cJx35411_next_0502b 52 = .ok (.iconst 1, 1) := by decide +kernel
theorem dj_Jx35411_next_0502b_53 : decode cJx35411_next_0502b 53 = .ok (.iadd, 1) := by decide +kernel
theorem dj_Jx35411_next_0502b_54 : decode cJx35411_next_0502b 54 = .ok (.putfield 25, 3) := by decide +kernel
theorem dj_Jx35411_next_0502b_57 : decode cJx35411_next_0502b 57 = .ok (.aload_n 2, 1) := by decide +kernel
theorem dj_Jx35411_next_0502b_58 : decode cJx35411_next_0502b 58 = .ok (.aload_n 0, 1) := by decide +kernel
theorem dj_Jx35411_next_0502b_59 : decode cJx35411_next_0502b 59 = .ok (.iload_n 1, 1) := by decide +kernel
theorem dj_Jx35411_next_0502b_60 : decode cJx35411_next_0502b 60 = .ok (.dup_x1, 1) := by decide +kernel
theorem dj_Jx35411_next_0502b_61 : decode cJx35411_next_0502b 61 = .ok (.putfield 13, 3) := by decide +kernel
theorem dj_Jx35411_next_0502b_64 : decode cJx35411_next_0502b 64 = .ok (.aaload, 1) := by decide +kernel
theorem dj_Jx35411_next_0502b_65 : decode cJx35411_next_0502b 65 = .ok (.areturn, 1) := by decide +kernel
theorem dj_X7_counted_0 : decode cX7_counted 0 = .ok (.bipush 8, 2) := by decide +kernel
theorem dj_X7_counted_2 : decode cX7_counted 2 = .ok (.newarray .int, 2) := by decide +kernel
theorem dj_X7_counted_4 : decode cX7_counted 4 = .ok (.dup, 1) := by decide +kernel
theorem dj_X7_counted_5 : decode cX7_counted 5 = .ok (.iconst 0, 1) := by decide +kernel
theorem dj_X7_counted_6 : decode cX7_counted 6 = .ok (.iconst 5, 1) := by decide +kernel
theorem dj_X7_counted_7 : decode cX7_counted 7 = .ok (.iastore, 1) := by decide +kernel
theorem dj_X7_counted_8 : decode cX7_counted 8 = .ok (.dup, 1) := by decide +kernel
theorem dj_X7_counted_9 : decode cX7_counted 9 = .ok (.iconst 1, 1) := by decide +kernel
theorem dj_X7_counted_10 : decode cX7_counted 10 = .ok (.bipush 8, 2) := by decide +kernel
theorem dj_X7_counted_12 : decode cX7_counted 12 = .ok (.iastore, 1) := by decide +kernel
theorem dj_X7_counted_13 : decode cX7_counted 13 = .ok (.dup, 1) := by decide +kernel
theorem dj_X7_counted_14 : decode cX7_counted 14 = .ok (.iconst 2, 1) := by decide +kernel
theorem dj_X7_counted_15 : decode cX7_counted 15 = .ok (.bipush 11, 2) := by decide +kernel
theorem dj_X7_counted_17 : decode cX7_counted 17 = .ok (.iastore, 1) := by decide +kernel
theorem dj_X7_counted_18 : decode cX7_counted 18 = .ok (.dup, 1) := by decide +kernel
theorem dj_X7_counted_19 : decode cX7_counted 19 = .ok (.iconst 3, 1) := by decide +kernel
theorem dj_X7_counted_20 : decode cX7_counted 20 = .ok (.bipush 14, 2) := by decide +kernel
theorem dj_X7_counted_22 : decode cX7_counted 22 = .ok (.iastore, 1) := by decide +kernel
theorem dj_X7_counted_23 : decode cX7_counted 23 = .ok (.dup, 1) := by decide +kernel
theorem dj_X7_counted_24 : decode cX7_counted 24 = .ok (.iconst 4, 1) := by decide +kernel
theorem dj_X7_counted_25 : decode cX7_counted 25 = .ok (.bipush 16, 2) := by decide +kernel
theorem dj_X7_counted_27 : decode cX7_counted 27 = .ok (.iastore, 1) := by decide +kernel
theorem dj_X7_counted_28 : decode cX7_counted 28 = .ok (.dup, 1) := by decide +kernel
theorem dj_X7_counted_29 : decode cX7_counted 29 = .ok (.iconst 5, 1) := by decide +kernel
theorem dj_X7_counted_30 : decode cX7_counted 30 = .ok (.bipush 18, 2) := by decide +kernel
theorem dj_X7_counted_32 : decode cX7_counted 32 = .ok (.iastore, 1) := by decide +kernel
theorem dj_X7_counted_33 : decode cX7_counted 33 = .ok (.dup, 1) := by decide +kernel
theorem dj_X7_counted_34 : decode cX7_counted 34 = .ok (.bipush 6, 2) := by decide +kernel
theorem dj_X7_counted_36 : decode cX7_counted 36 = .ok (.bipush 19, 2) := by decide +kernel
theorem dj_X7_counted_38 : decode cX7_counted 38 = .ok (.iastore, 1) := by decide +kernel
theorem dj_X7_counted_39 : decode cX7_counted 39 = .ok (.dup, 1) := by decide +kernel
theorem dj_X7_counted_40 : decode cX7_counted 40 = .ok (.bipush 7, 2) := by decide +kernel
theorem dj_X7_counted_42 : decode cX7_counted 42 = .ok (.bipush 20, 2) := by decide +kernel
theorem dj_X7_counted_44 : decode cX7_counted 44 = .ok (.iastore, 1) := by decide +kernel
theorem dj_X7_counted_45 : decode cX7_counted 45 = .ok (.astore_n 1, 1) := by decide +kernel
theorem dj_X7_counted_46 : decode cX7_counted 46 = .ok (.iconst 1, 1) := by decide +kernel
theorem dj_X7_counted_47 : decode cX7_counted 47 = .ok (.istore_n 2, 1) := by decide +kernel
theorem dj_X7_counted_48 : decode cX7_counted 48 = .ok (.iload_n 0, 1) := by decide +kernel
theorem dj_X7_counted_49 : decode cX7_counted 49 = .ok (.aload_n 1, 1) := by decide +kernel
theorem dj_X7_counted_50 : decode cX7_counted 50 = .ok (.iload_n 2, 1) := by decide +kernel
theorem dj_X7_counted_51 : decode cX7_counted 51 = .ok (.iconst 1, 1) := by decide +kernel
theorem dj_X7_counted_52 : decode cX7_counted 52 = .ok (.isub, 1) := by decide +kernel
theorem dj_X7_counted_53 : decode cX7_counted 53 = .ok (.iaload, 1) := by decide +kernel
theorem dj_X7_counted_54 : decode cX7_counted 54 = .ok (.if_icmp .le 9, 3) := by decide +kernel
theorem dj_X7_counted_63 : decode cX7_counted 63 = .ok (.iload_n 2, 1) := by decide +kernel
theorem dj_X7_counted_64 : decode cX7_counted 64 = .ok (.ireturn, 1) := by decide +kernel
theorem dj_X7_counted_57 : decode cX7_counted 57 = .ok (.iinc 2 1, 3) := by decide +kernel
theorem dj_X7_counted_60 : decode cX7_counted 60 = .ok (.goto (-12), 3) := by decide +kernel
theorem dj_J9_floorDiv_7cf53_0 : decode cJ9_floorDiv_7cf53 0 = .ok (.iload_n 0, 1) := by decide +kernel
theorem dj_J9_floorDiv_7cf53_1 : decode cJ9_floorDiv_7cf53 1 = .ok (.iload_n 1, 1) := by decide +kernel
theorem dj_J9_floorDiv_7cf53_2 : decode cJ9_floorDiv_7cf53 2 = .ok (.idiv, 1) := by decide +kernel
theorem dj_J9_floorDiv_7cf53_3 : decode cJ9_floorDiv_7cf53 3 = .ok (.istore_n 2, 1) := by decide +kernel
theorem dj_J9_floorDiv_7cf53_4 : decode cJ9_floorDiv_7cf53 4 = .ok (.iload_n 0, 1) := by decide +kernel
theorem dj_J9_floorDiv_7cf53_5 : decode cJ9_floorDiv_7cf53 5 = .ok (.iload_n 1, 1) := by decide +kernel
theorem dj_J9_floorDiv_7cf53_6 : decode cJ9_floorDiv_7cf53 6 = .ok (.ixor, 1) := by decide +kernel
theorem dj_J9_floorDiv_7cf53_7 : decode cJ9_floorDiv_7cf53 7 = .ok (.ifCond .ge 14, 3) := by decide +kernel
theorem dj_J9_floorDiv_7cf53_21 : decode cJ9_floorDiv_7cf53 21 = .ok (.iload_n 2, 1) := by decide +kernel
theorem dj_J9_floorDiv_7cf53_22 : decode cJ9_floorDiv_7cf53 22 = .ok (.ireturn, 1) := by decide +kernel
theorem dj_J9_floorDiv_7cf53_10 : decode cJ9_floorDiv_7cf53 10 = .ok (.iload_n 2, 1) := by decide +kernel
theorem dj_J9_floorDiv_7cf53_11 : decode cJ9_floorDiv_7cf53 11 = .ok (.iload_n 1, 1) := by decide +kernel
theorem dj_J9_floorDiv_7cf53_12 : decode cJ9_floorDiv_7cf53 12 = .ok (.imul, 1) := by decide +kernel
theorem dj_J9_floorDiv_7cf53_13 : decode cJ9_floorDiv_7cf53 13 = .ok (.iload_n 0, 1) := by decide +kernel
theorem dj_J9_floorDiv_7cf53_14 : decode cJ9_floorDiv_7cf53 14 = .ok (.if_icmp .eq 7, 3) := by decide +kernel
theorem dj_J9_floorDiv_7cf53_17 : decode cJ9_floorDiv_7cf53 17 = .ok (.iload_n 2, 1) := by decide +kernel
theorem dj_J9_floorDiv_7cf53_18 : decode cJ9_floorDiv_7cf53 18 = .ok (.iconst 1, 1) := by decide +kernel
theorem dj_J9_floorDiv_7cf53_19 : decode cJ9_floorDiv_7cf53 19 = .ok (.isub, 1) := by decide +kernel
theorem dj_J9_floorDiv_7cf53_20 : decode cJ9_floorDiv_7cf53 20 = .ok (.ireturn, 1) := by decide +kernel
theorem dj_X7_meanOf_38 : decode cX7_meanOf 38 = .ok (.iload 4, 2) := by decide +kernel
theorem dj_X7_meanOf_40 : decode cX7_meanOf 40 = .ok (.aload_n 1, 1) := by decide +kernel
theorem dj_X7_meanOf_41 : decode cX7_meanOf 41 = .ok (.invokevirtual 297, 3) := by decide +kernel
theorem dj_X7_meanOf_44 : decode cX7_meanOf 44 = .ok (.if_icmp .ge 25, 3) := by decide +kernel
theorem dj_X7_meanOf_47 : decode cX7_meanOf 47 = .ok (.aload_n 1, 1) := by decide +kernel
theorem dj_X7_meanOf_48 : decode cX7_meanOf 48 = .ok (.iload 4, 2) := by decide +kernel
theorem dj_X7_meanOf_50 : decode cX7_meanOf 50 = .ok (.invokevirtual 300, 3) := by decide +kernel
theorem dj_X7_meanOf_53 : decode cX7_meanOf 53 = .ok (.checkcast 265, 3) := by decide +kernel
theorem dj_X7_meanOf_56 : decode cX7_meanOf 56 = .ok (.invokevirtual 294, 3) := by decide +kernel
theorem dj_X7_meanOf_59 : decode cX7_meanOf 59 = .ok (.iload_n 3, 1) := by decide +kernel
theorem dj_X7_meanOf_60 : decode cX7_meanOf 60 = .ok (.if_icmp .ge 9, 3) := by decide +kernel
theorem dj_X7_meanOf_63 : decode cX7_meanOf 63 = .ok (.iinc 4 1, 3) := by decide +kernel
theorem dj_X7_meanOf_66 : decode cX7_meanOf 66 = .ok (.goto (-28), 3) := by decide +kernel
theorem dj_X7_meanOf_13 : decode cX7_meanOf 13 = .ok (.aload_n 2, 1) := by decide +kernel
theorem dj_X7_meanOf_14 : decode cX7_meanOf 14 = .ok (.invokeinterface 285 1, 5) := by decide +kernel
theorem dj_X7_meanOf_19 : decode cX7_meanOf 19 = .ok (.ifCond .eq 63, 3) := by decide +kernel
theorem dj_X7_meanOf_22 : decode cX7_meanOf 22 = .ok (.aload_n 2, 1) := by decide +kernel
theorem dj_X7_meanOf_23 : decode cX7_meanOf 23 = .ok (.invokeinterface 290 1, 5) := by decide +kernel
theorem dj_X7_meanOf_28 : decode cX7_meanOf 28 = .ok (.checkcast 265, 3) := by decide +kernel
theorem dj_X7_meanOf_31 : decode cX7_meanOf 31 = .ok (.invokevirtual 294, 3) := by decide +kernel
theorem dj_X7_meanOf_34 : decode cX7_meanOf 34 = .ok (.istore_n 3, 1) := by decide +kernel
theorem dj_X7_meanOf_35 : decode cX7_meanOf 35 = .ok (.iconst 0, 1) := by decide +kernel
theorem dj_X7_meanOf_36 : decode cX7_meanOf 36 = .ok (.istore 4, 2) := by decide +kernel
theorem dj_X7_meanOf_69 : decode cX7_meanOf 69 = .ok (.aload_n 1, 1) := by decide +kernel
theorem dj_X7_meanOf_70 : decode cX7_meanOf 70 = .ok (.iload 4, 2) := by decide +kernel
theorem dj_X7_meanOf_72 : decode cX7_meanOf 72 = .ok (.iload_n 3, 1) := by decide +kernel
theorem dj_X7_meanOf_73 : decode cX7_meanOf 73 = .ok (.invokestatic 304, 3) := by decide +kernel
theorem dj_X7_meanOf_76 : decode cX7_meanOf 76 = .ok (.invokevirtual 308, 3) := by decide +kernel
theorem dj_X7_meanOf_79 : decode cX7_meanOf 79 = .ok (.goto (-66), 3) := by decide +kernel
theorem dj_X7_meanOf_95 : decode cX7_meanOf 95 = .ok (.iload 4, 2) := by decide +kernel
theorem dj_X7_meanOf_97 : decode cX7_meanOf 97 = .ok (.iload_n 2, 1) := by decide +kernel
theorem dj_X7_meanOf_98 : decode cX7_meanOf 98 = .ok (.if_icmp .ge 24, 3) := by decide +kernel
theorem dj_X7_meanOf_101 : decode cX7_meanOf 101 = .ok (.iload_n 3, 1) := by decide +kernel
theorem dj_X7_meanOf_102 : decode cX7_meanOf 102 = .ok (.aload_n 1, 1) := by decide +kernel
theorem dj_X7_meanOf_103 : decode cX7_meanOf 103 = .ok (.iload 4, 2) := by decide +kernel
theorem dj_X7_meanOf_105 : decode cX7_meanOf 105 = .ok (.invokevirtual 300, 3) := by decide +kernel
theorem dj_X7_meanOf_108 : decode cX7_meanOf 108 = .ok (.checkcast 265, 3) := by decide +kernel
theorem dj_X7_meanOf_111 : decode cX7_meanOf 111 = .ok (.invokevirtual 294, 3) := by decide +kernel
theorem dj_X7_meanOf_114 : decode cX7_meanOf 114 = .ok (.iadd, 1) := by decide +kernel
theorem dj_X7_meanOf_115 : decode cX7_meanOf 115 = .ok (.istore_n 3, 1) := by decide +kernel
theorem dj_X7_meanOf_116 : decode cX7_meanOf 116 = .ok (.iinc 4 1, 3) := by decide +kernel
theorem dj_X7_meanOf_119 : decode cX7_meanOf 119 = .ok (.goto (-24), 3) := by decide +kernel
theorem dj_X7_meanOf_0 : decode cX7_meanOf 0 = .ok (.new 51, 3) := by decide +kernel
theorem dj_X7_meanOf_3 : decode cX7_meanOf 3 = .ok (.dup, 1) := by decide +kernel
theorem dj_X7_meanOf_4 : decode cX7_meanOf 4 = .ok (.invokespecial 53, 3) := by decide +kernel
theorem dj_X7_meanOf_7 : decode cX7_meanOf 7 = .ok (.astore_n 1, 1) := by decide +kernel
theorem dj_X7_meanOf_8 : decode cX7_meanOf 8 = .ok (.aload_n 0, 1) := by decide +kernel
theorem dj_X7_meanOf_9 : decode cX7_meanOf 9 = .ok (.invokevirtual 281, 3) := by decide +kernel
theorem dj_X7_meanOf_12 : decode cX7_meanOf 12 = .ok (.astore_n 2, 1) := by decide +kernel
theorem dj_X7_meanOf_82 : decode cX7_meanOf 82 = .ok (.aload_n 0, 1) := by decide +kernel
theorem dj_X7_meanOf_83 : decode cX7_meanOf 83 = .ok (.invokevirtual 297, 3) := by decide +kernel
theorem dj_X7_meanOf_86 : decode cX7_meanOf 86 = .ok (.invokestatic 311, 3) := by decide +kernel
theorem dj_X7_meanOf_89 : decode cX7_meanOf 89 = .ok (.istore_n 2, 1) := by decide +kernel
theorem dj_X7_meanOf_90 : decode cX7_meanOf 90 = .ok (.iconst 0, 1) := by decide +kernel
theorem dj_X7_meanOf_91 : decode cX7_meanOf 91 = .ok (.istore_n 3, 1) := by decide +kernel
theorem dj_X7_meanOf_92 : decode cX7_meanOf 92 = .ok (.iconst 0, 1) := by decide +kernel
theorem dj_X7_meanOf_93 : decode cX7_meanOf 93 = .ok (.istore 4, 2) := by decide +kernel
theorem dj_X7_meanOf_122 : decode cX7_meanOf 122 = .ok (.iload_n 3, 1) := by decide +kernel
theorem dj_X7_meanOf_123 : decode cX7_meanOf 123 = .ok (.iload_n 2, 1) := by decide +kernel
theorem dj_X7_meanOf_124 : decode cX7_meanOf 124 = .ok (.invokestatic 314, 3) := by decide +kernel
theorem dj_X7_meanOf_127 : decode cX7_meanOf 127 = .ok (.ireturn, 1) := by decide +kernel
theorem dj_X7_isIn_0 : decode cX7_isIn 0 = .ok (.iload_n 0, 1) := by decide +kernel
theorem dj_X7_isIn_1 : decode cX7_isIn 1 = .ok (.iload_n 1, 1) := by decide +kernel
theorem dj_X7_isIn_2 : decode cX7_isIn 2 = .ok (.if_icmp .lt 12, 3) := by decide +kernel
theorem dj_X7_isIn_14 : decode cX7_isIn 14 = .ok (.iconst 0, 1) := by decide +kernel
theorem dj_X7_isIn_15 : decode cX7_isIn 15 = .ok (.ireturn, 1) := by decide +kernel
theorem dj_X7_isIn_5 : decode cX7_isIn 5 = .ok (.iload_n 0, 1) := by decide +kernel
theorem dj_X7_isIn_6 : decode cX7_isIn 6 = .ok (.iload_n 2, 1) := by decide +kernel
theorem dj_X7_isIn_7 : decode cX7_isIn 7 = .ok (.if_icmp .gt 7, 3) := by decide +kernel
theorem dj_X7_isIn_10 : decode cX7_isIn 10 = .ok (.iconst 1, 1) := by decide +kernel
theorem dj_X7_isIn_11 : decode cX7_isIn 11 = .ok (.goto 4, 3) := by decide +kernel
theorem dj_X7_isThrown_0 : decode cX7_isThrown 0 = .ok (.aload_n 0, 1) := by decide +kernel
theorem dj_X7_isThrown_1 : decode cX7_isThrown 1 = .ok (.iload_n 1, 1) := by decide +kernel
theorem dj_X7_isThrown_2 : decode cX7_isThrown 2 = .ok (.ifCond .eq 7, 3) := by decide +kernel
theorem dj_X7_isThrown_9 : decode cX7_isThrown 9 = .ok (.iconst 0, 1) := by decide +kernel
theorem dj_X7_isThrown_10 : decode cX7_isThrown 10 = .ok (.putfield 79, 3) := by decide +kernel
theorem dj_X7_isThrown_13 : decode cX7_isThrown 13 = .ok (.iload_n 1, 1) := by decide +kernel
theorem dj_X7_isThrown_14 : decode cX7_isThrown 14 = .ok (.ireturn, 1) := by decide +kernel
theorem dj_X7_isThrown_5 : decode cX7_isThrown 5 = .ok (.iload_n 2, 1) := by decide +kernel
theorem dj_X7_isThrown_6 : decode cX7_isThrown 6 = .ok (.goto 4, 3) := by decide +kernel
theorem dj_X7_isNoPlayer_0 : decode cX7_isNoPlayer 0 = .ok (.iload_n 1, 1) := by decide +kernel
theorem dj_X7_isNoPlayer_1 : decode cX7_isNoPlayer 1 = .ok (.iconst 0, 1) := by decide +kernel
theorem dj_X7_isNoPlayer_2 : decode cX7_isNoPlayer 2 = .ok (.aload_n 0, 1) := by decide +kernel
theorem dj_X7_isNoPlayer_3 : decode cX7_isNoPlayer 3 = .ok (.getfield 89, 3) := by decide +kernel
theorem dj_X7_isNoPlayer_6 : decode cX7_isNoPlayer 6 = .ok (.iconst 1, 1) := by decide +kernel
theorem dj_X7_isNoPlayer_7 : decode cX7_isNoPlayer 7 = .ok (.isub, 1) := by decide +kernel
theorem dj_X7_isNoPlayer_8 : decode cX7_isNoPlayer 8 = .ok (.invokestatic 82, 3) := by decide +kernel
theorem dj_X7_isNoPlayer_11 : decode cX7_isNoPlayer 11 = .ok (.ifCond .ne 7, 3) := by decide +kernel
theorem dj_X7_isNoPlayer_18 : decode cX7_isNoPlayer 18 = .ok (.iconst 0, 1) := by decide +kernel
theorem dj_X7_isNoPlayer_19 : decode cX7_isNoPlayer 19 = .ok (.ireturn, 1) := by decide +kernel
theorem dj_X7_isNoPlayer_14 : decode cX7_isNoPlayer 14 = .ok (.iconst 1, 1) := by decide +kernel
theorem dj_X7_isNoPlayer_15 : decode cX7_isNoPlayer 15 = .ok (.goto 4, 3) := by decide +kernel
theorem dj_X7_isRanked_0 : decode cX7_isRanked 0 = .ok (.aload_n 0, 1) := by decide +kernel
theorem dj_X7_isRanked_1 : decode cX7_isRanked 1 = .ok (.getfield 38, 3) := by decide +kernel
theorem dj_X7_isRanked_4 : decode cX7_isRanked 4 = .ok (.iload_n 1, 1) := by decide +kernel
theorem dj_X7_isRanked_5 : decode cX7_isRanked 5 = .ok (.baload, 1) := by decide +kernel
theorem dj_X7_isRanked_6 : decode cX7_isRanked 6 = .ok (.ifCond .eq 16, 3) := by decide +kernel
theorem dj_X7_isRanked_22 : decode cX7_isRanked 22 = .ok (.iconst 0, 1) := by decide +kernel
theorem dj_X7_isRanked_23 : decode cX7_isRanked 23 = .ok (.ireturn, 1) := by decide +kernel
theorem dj_X7_isRanked_9 : decode cX7_isRanked 9 = .ok (.aload_n 0, 1) := by decide +kernel
theorem dj_X7_isRanked_10 : decode cX7_isRanked 10 = .ok (.getfield 42, 3) := by decide +kernel
theorem dj_X7_isRanked_13 : decode cX7_isRanked 13 = .ok (.iload_n 1, 1) := by decide +kernel
theorem dj_X7_isRanked_14 : decode cX7_isRanked 14 = .ok (.baload, 1) := by decide +kernel
theorem dj_X7_isRanked_15 : decode cX7_isRanked 15 = .ok (.ifCond .ne 7, 3) := by decide +kernel
theorem dj_X7_isRanked_18 : decode cX7_isRanked 18 = .ok (.iconst 1, 1) := by decide +kernel
theorem dj_X7_isRanked_19 : decode cX7_isRanked 19 = .ok (.goto 4, 3) := by decide +kernel
theorem dj_X7_strokesFor_5 : decode cX7_strokesFor 5 = .ok (.iload 4, 2) := by decide +kernel
theorem dj_X7_strokesFor_7 : decode cX7_strokesFor 7 = .ok (.aload_n 0, 1) := by decide +kernel
theorem dj_X7_strokesFor_8 : decode cX7_strokesFor 8 = .ok (.getfield 86, 3) := by decide +kernel
theorem dj_X7_strokesFor_11 : decode cX7_strokesFor 11 = .ok (.if_icmp .ge 37, 3) := by decide +kernel
theorem dj_X7_strokesFor_14 : decode cX7_strokesFor 14 = .ok (.iload_n 3, 1) := by decide +kernel
theorem dj_X7_strokesFor_15 : decode cX7_strokesFor 15 = .ok (.aload_n 0, 1) := by decide +kernel
theorem dj_X7_strokesFor_16 : decode cX7_strokesFor 16 = .ok (.getfield 11, 3) := by decide +kernel
theorem dj_X7_strokesFor_19 : decode cX7_strokesFor 19 = .ok (.iload 4, 2) := by decide +kernel
theorem dj_X7_strokesFor_21 : decode cX7_strokesFor 21 = .ok (.aaload, 1) := by decide +kernel
theorem dj_X7_strokesFor_22 : decode cX7_strokesFor 22 = .ok (.iconst 1, 1) := by decide +kernel
theorem dj_X7_strokesFor_23 : decode cX7_strokesFor 23 = .ok (.iaload, 1) := by decide +kernel
theorem dj_X7_strokesFor_24 : decode cX7_strokesFor 24 = .ok (.aload_n 0, 1) := by decide +kernel
theorem dj_X7_strokesFor_25 : decode cX7_strokesFor 25 = .ok (.getfield 11, 3) := by decide +kernel
theorem dj_X7_strokesFor_28 : decode cX7_strokesFor 28 = .ok (.iload_n 2, 1) := by decide +kernel
theorem dj_X7_strokesFor_29 : decode cX7_strokesFor 29 = .ok (.aaload, 1) := by decide +kernel
theorem dj_X7_strokesFor_30 : decode cX7_strokesFor 30 = .ok (.iconst 1, 1) := by decide +kernel
theorem dj_X7_strokesFor_31 : decode cX7_strokesFor 31 = .ok (.iaload, 1) := by decide +kernel
theorem dj_X7_strokesFor_32 : decode cX7_strokesFor 32 = .ok (.if_icmp .ge 7, 3) := by decide +kernel
theorem dj_X7_strokesFor_39 : decode cX7_strokesFor 39 = .ok (.iconst 0, 1) := by decide +kernel
theorem dj_X7_strokesFor_40 : decode cX7_strokesFor 40 = .ok (.iadd, 1) := by decide +kernel
theorem dj_X7_strokesFor_41 : decode cX7_strokesFor 41 = .ok (.istore_n 3, 1) := by decide +kernel
theorem dj_X7_strokesFor_42 : decode cX7_strokesFor 42 = .ok (.iinc 4 1, 3) := by decide +kernel
theorem dj_X7_strokesFor_45 : decode cX7_strokesFor 45 = .ok (.goto (-40), 3) := by decide +kernel
theorem dj_X7_strokesFor_35 : decode cX7_strokesFor 35 = .ok (.iconst 1, 1) := by decide +kernel
theorem dj_X7_strokesFor_36 : decode cX7_strokesFor 36 = .ok (.goto 4, 3) := by decide +kernel
theorem dj_X7_strokesFor_0 : decode cX7_strokesFor 0 = .ok (.iconst 0, 1) := by decide +kernel
theorem dj_X7_strokesFor_1 : decode cX7_strokesFor 1 = .ok (.istore_n 3, 1) := by decide +kernel
theorem dj_X7_strokesFor_2 : decode cX7_strokesFor 2 = .ok (.iconst 0, 1) := by decide +kernel
theorem dj_X7_strokesFor_3 : decode cX7_strokesFor 3 = .ok (.istore 4, 2) := by decide +kernel
theorem dj_X7_strokesFor_48 : decode cX7_strokesFor 48 = .ok (.iload_n 1, 1) := by decide +kernel
theorem dj_X7_strokesFor_49 : decode cX7_strokesFor 49 = .ok (.aload_n 0, 1) := by decide +kernel
theorem dj_X7_strokesFor_50 : decode cX7_strokesFor 50 = .ok (.getfield 86, 3) := by decide +kernel
theorem dj_X7_strokesFor_53 : decode cX7_strokesFor 53 = .ok (.idiv, 1) := by decide +kernel
theorem dj_X7_strokesFor_54 : decode cX7_strokesFor 54 = .ok (.iload_n 3, 1) := by decide +kernel
theorem dj_X7_strokesFor_55 : decode cX7_strokesFor 55 = .ok (.iload_n 1, 1) := by decide +kernel
theorem dj_X7_strokesFor_56 : decode cX7_strokesFor 56 = .ok (.aload_n 0, 1) := by decide +kernel
theorem dj_X7_strokesFor_57 : decode cX7_strokesFor 57 = .ok (.getfield 86, 3) := by decide +kernel
theorem dj_X7_strokesFor_60 : decode cX7_strokesFor 60 = .ok (.irem, 1) := by decide +kernel
theorem dj_X7_strokesFor_61 : decode cX7_strokesFor 61 = .ok (.if_icmp .ge 7, 3) := by decide +kernel
theorem dj_X7_strokesFor_68 : decode cX7_strokesFor 68 = .ok (.iconst 0, 1) := by decide +kernel
theorem dj_X7_strokesFor_69 : decode cX7_strokesFor 69 = .ok (.iadd, 1) := by decide +kernel
theorem dj_X7_strokesFor_70 : decode cX7_strokesFor 70 = .ok (.ireturn, 1) := by decide +kernel
theorem dj_X7_strokesFor_64 : decode cX7_strokesFor 64 = .ok (.iconst 1, 1) := by decide +kernel
theorem dj_X7_strokesFor_65 : decode cX7_strokesFor 65 = .ok (.goto 4, 3) := by decide +kernel
theorem dj_X7_post_88 : decode cX7_post 88 = .ok (.iload 5, 2) := by decide +kernel
theorem dj_X7_post_90 : decode cX7_post 90 = .ok (.aload_n 0, 1) := by decide +kernel
theorem dj_X7_post_91 : decode cX7_post 91 = .ok (.getfield 86, 3) := by decide +kernel
theorem dj_X7_post_94 : decode cX7_post 94 = .ok (.if_icmp .ge 50, 3) := by decide +kernel
theorem dj_X7_post_97 : decode cX7_post 97 = .ok (.iload 4, 2) := by decide +kernel
theorem dj_X7_post_99 : decode cX7_post 99 = .ok (.aload_n 0, 1) := by decide +kernel
theorem dj_X7_post_100 : decode cX7_post 100 = .ok (.getfield 35, 3) := by decide +kernel
theorem dj_X7_post_103 : decode cX7_post 103 = .ok (.iload_n 1, 1) := by decide +kernel
theorem dj_X7_post_104 : decode cX7_post 104 = .ok (.aaload, 1) := by decide +kernel
theorem dj_X7_post_105 : decode cX7_post 105 = .ok (.iload 5, 2) := by decide +kernel
theorem dj_X7_post_107 : decode cX7_post 107 = .ok (.iaload, 1) := by decide +kernel
theorem dj_X7_post_108 : decode cX7_post 108 = .ok (.aload_n 0, 1) := by decide +kernel
theorem dj_X7_post_109 : decode cX7_post 109 = .ok (.getfield 11, 3) := by decide +kernel
theorem dj_X7_post_112 : decode cX7_post 112 = .ok (.iload 5, 2) := by decide +kernel
theorem dj_X7_post_114 : decode cX7_post 114 = .ok (.aaload, 1) := by decide +kernel
theorem dj_X7_post_115 : decode cX7_post 115 = .ok (.iconst 0, 1) := by decide +kernel
theorem dj_X7_post_116 : decode cX7_post 116 = .ok (.iaload, 1) := by decide +kernel
theorem dj_X7_post_117 : decode cX7_post 117 = .ok (.iconst 2, 1) := by decide +kernel
theorem dj_X7_post_118 : decode cX7_post 118 = .ok (.iadd, 1) := by decide +kernel
theorem dj_X7_post_119 : decode cX7_post 119 = .ok (.aload_n 0, 1) := by decide +kernel
theorem dj_X7_post_120 : decode cX7_post 120 = .ok (.aload_n 0, 1) := by decide +kernel
theorem dj_X7_post_121 : decode cX7_post 121 = .ok (.getfield 19, 3) := by decide +kernel
theorem dj_X7_post_124 : decode cX7_post 124 = .ok (.iload_n 1, 1) := by decide +kernel
theorem dj_X7_post_125 : decode cX7_post 125 = .ok (.iaload, 1) := by decide +kernel
theorem dj_X7_post_126 : decode cX7_post 126 = .ok (.iload 5, 2) := by decide +kernel
theorem dj_X7_post_128 : decode cX7_post 128 = .ok (.invokevirtual 138, 3) := by decide +kernel
theorem dj_X7_post_131 : decode cX7_post 131 = .ok (.iadd, 1) := by decide +kernel
theorem dj_X7_post_132 : decode cX7_post 132 = .ok (.invokestatic 269, 3) := by decide +kernel
theorem dj_X7_post_135 : decode cX7_post 135 = .ok (.iadd, 1) := by decide +kernel
theorem dj_X7_post_136 : decode cX7_post 136 = .ok (.istore 4, 2) := by decide +kernel
theorem dj_X7_post_138 : decode cX7_post 138 = .ok (.iinc 5 1, 3) := by decide +kernel
theorem dj_X7_post_141 : decode cX7_post 141 = .ok (.goto (-53), 3) := by decide +kernel
theorem dj_X7_post_276 : decode cX7_post 276 = .ok (.iload 9, 2) := by decide +kernel
theorem dj_X7_post_278 : decode cX7_post 278 = .ok (.aload 6, 2) := by decide +kernel
theorem dj_X7_post_280 : decode cX7_post 280 = .ok (.invokevirtual 297, 3) := by decide +kernel
theorem dj_X7_post_283 : decode cX7_post 283 = .ok (.if_icmp .ge 43, 3) := by decide +kernel
theorem dj_X7_post_286 : decode cX7_post 286 = .ok (.aload 6, 2) := by decide +kernel
theorem dj_X7_post_288 : decode cX7_post 288 = .ok (.iload 9, 2) := by decide +kernel
theorem dj_X7_post_290 : decode cX7_post 290 = .ok (.aload 6, 2) := by decide +kernel
theorem dj_X7_post_292 : decode cX7_post 292 = .ok (.iload 9, 2) := by decide +kernel
theorem dj_X7_post_294 : decode cX7_post 294 = .ok (.invokevirtual 300, 3) := by decide +kernel
theorem dj_X7_post_297 : decode cX7_post 297 = .ok (.checkcast 265, 3) := by decide +kernel
theorem dj_X7_post_300 : decode cX7_post 300 = .ok (.invokevirtual 294, 3) := by decide +kernel
theorem dj_X7_post_303 : decode cX7_post 303 = .ok (.iload 8, 2) := by decide +kernel
theorem dj_X7_post_305 : decode cX7_post 305 = .ok (.isub, 1) := by decide +kernel
theorem dj_X7_post_306 : decode cX7_post 306 = .ok (.invokestatic 304, 3) := by decide +kernel
theorem dj_X7_post_309 : decode cX7_post 309 = .ok (.invokevirtual 323, 3) := by decide +kernel
theorem dj_X7_post_312 : decode cX7_post 312 = .ok (.checkcast 265, 3) := by decide +kernel
theorem dj_X7_post_315 : decode cX7_post 315 = .ok (.invokevirtual 294, 3) := by decide +kernel
theorem dj_X7_post_318 : decode cX7_post 318 = .ok (.istore 10, 2) := by decide +kernel
theorem dj_X7_post_320 : decode cX7_post 320 = .ok (.iinc 9 1, 3) := by decide +kernel
theorem dj_X7_post_323 : decode cX7_post 323 = .ok (.goto (-47), 3) := by decide +kernel
theorem dj_X7_post_423 : decode cX7_post 423 = .ok (.iastore, 1) := by decide +kernel
theorem dj_X7_post_424 : decode cX7_post 424 = .ok (.aload_n 0, 1) := by decide +kernel
theorem dj_X7_post_425 : decode cX7_post 425 = .ok (.getfield 45, 3) := by decide +kernel
theorem dj_X7_post_428 : decode cX7_post 428 = .ok (.iload_n 1, 1) := by decide +kernel
theorem dj_X7_post_429 : decode cX7_post 429 = .ok (.iconst 1, 1) := by decide +kernel
theorem dj_X7_post_430 : decode cX7_post 430 = .ok (.bastore, 1) := by decide +kernel
theorem dj_X7_post_431 : decode cX7_post 431 = .ok (.iload 5, 2) := by decide +kernel
theorem dj_X7_post_389 : decode cX7_post 389 = .ok (.aload_n 0, 1) := by decide +kernel
theorem dj_X7_post_390 : decode cX7_post 390 = .ok (.getfield 58, 3) := by decide +kernel
theorem dj_X7_post_393 : decode cX7_post 393 = .ok (.iload_n 1, 1) := by decide +kernel
theorem dj_X7_post_394 : decode cX7_post 394 = .ok (.iload 9, 2) := by decide +kernel
theorem dj_X7_post_396 : decode cX7_post 396 = .ok (.iastore, 1) := by decide +kernel
theorem dj_X7_post_397 : decode cX7_post 397 = .ok (.aload_n 0, 1) := by decide +kernel
theorem dj_X7_post_398 : decode cX7_post 398 = .ok (.getfield 61, 3) := by decide +kernel
theorem dj_X7_post_401 : decode cX7_post 401 = .ok (.iload_n 1, 1) := by decide +kernel
theorem dj_X7_post_402 : decode cX7_post 402 = .ok (.iload 7, 2) := by decide +kernel
theorem dj_X7_post_404 : decode cX7_post 404 = .ok (.ifCond .eq 8, 3) := by decide +kernel
theorem dj_X7_post_412 : decode cX7_post 412 = .ok (.aload_n 0, 1) := by decide +kernel
theorem dj_X7_post_413 : decode cX7_post 413 = .ok (.getfield 61, 3) := by decide +kernel
theorem dj_X7_post_416 : decode cX7_post 416 = .ok (.iload_n 1, 1) := by decide +kernel
theorem dj_X7_post_417 : decode cX7_post 417 = .ok (.iaload, 1) := by decide +kernel
theorem dj_X7_post_418 : decode cX7_post 418 = .ok (.iload 9, 2) := by decide +kernel
theorem dj_X7_post_420 : decode cX7_post 420 = .ok (.invokestatic 269, 3) := by decide +kernel
theorem dj_X7_post_407 : decode cX7_post 407 = .ok (.iload 9, 2) := by decide +kernel
theorem dj_X7_post_409 : decode cX7_post 409 = .ok (.goto 14, 3) := by decide +kernel
theorem dj_X7_post_326 : decode cX7_post 326 = .ok (.aload 6, 2) := by decide +kernel
theorem dj_X7_post_328 : decode cX7_post 328 = .ok (.invokestatic 327, 3) := by decide +kernel
theorem dj_X7_post_331 : decode cX7_post 331 = .ok (.istore 9, 2) := by decide +kernel
theorem dj_X7_post_333 : decode cX7_post 333 = .ok (.iload 7, 2) := by decide +kernel
theorem dj_X7_post_335 : decode cX7_post 335 = .ok (.ifCond .ne 54, 3) := by decide +kernel
theorem dj_X7_post_338 : decode cX7_post 338 = .ok (.aload_n 0, 1) := by decide +kernel
theorem dj_X7_post_339 : decode cX7_post 339 = .ok (.getfield 61, 3) := by decide +kernel
theorem dj_X7_post_342 : decode cX7_post 342 = .ok (.iload_n 1, 1) := by decide +kernel
theorem dj_X7_post_343 : decode cX7_post 343 = .ok (.iaload, 1) := by decide +kernel
theorem dj_X7_post_344 : decode cX7_post 344 = .ok (.bipush 30, 2) := by decide +kernel
theorem dj_X7_post_346 : decode cX7_post 346 = .ok (.iadd, 1) := by decide +kernel
theorem dj_X7_post_347 : decode cX7_post 347 = .ok (.istore 10, 2) := by decide +kernel
theorem dj_X7_post_349 : decode cX7_post 349 = .ok (.iload 9, 2) := by decide +kernel
theorem dj_X7_post_351 : decode cX7_post 351 = .ok (.iload 10, 2) := by decide +kernel
theorem dj_X7_post_353 : decode cX7_post 353 = .ok (.if_icmp .le 16, 3) := by decide +kernel
theorem dj_X7_post_369 : decode cX7_post 369 = .ok (.iload 9, 2) := by decide +kernel
theorem dj_X7_post_371 : decode cX7_post 371 = .ok (.istore 9, 2) := by decide +kernel
theorem dj_X7_post_373 : decode cX7_post 373 = .ok (.iload 9, 2) := by decide +kernel
theorem dj_X7_post_375 : decode cX7_post 375 = .ok (.aload_n 0, 1) := by decide +kernel
theorem dj_X7_post_376 : decode cX7_post 376 = .ok (.getfield 61, 3) := by decide +kernel
theorem dj_X7_post_379 : decode cX7_post 379 = .ok (.iload_n 1, 1) := by decide +kernel
theorem dj_X7_post_380 : decode cX7_post 380 = .ok (.iaload, 1) := by decide +kernel
theorem dj_X7_post_381 : decode cX7_post 381 = .ok (.bipush 50, 2) := by decide +kernel
theorem dj_X7_post_383 : decode cX7_post 383 = .ok (.iadd, 1) := by decide +kernel
theorem dj_X7_post_384 : decode cX7_post 384 = .ok (.invokestatic 269, 3) := by decide +kernel
theorem dj_X7_post_387 : decode cX7_post 387 = .ok (.istore 9, 2) := by decide +kernel
theorem dj_X7_post_356 : decode cX7_post 356 = .ok (.iload 10, 2) := by decide +kernel
theorem dj_X7_post_358 : decode cX7_post 358 = .ok (.iload 9, 2) := by decide +kernel
theorem dj_X7_post_360 : decode cX7_post 360 = .ok (.iload 10, 2) := by decide +kernel
theorem dj_X7_post_362 : decode cX7_post 362 = .ok (.isub, 1) := by decide +kernel
theorem dj_X7_post_363 : decode cX7_post 363 = .ok (.iconst 2, 1) := by decide +kernel
theorem dj_X7_post_364 : decode cX7_post 364 = .ok (.idiv, 1) := by decide +kernel
theorem dj_X7_post_365 : decode cX7_post 365 = .ok (.iadd, 1) := by decide +kernel
theorem dj_X7_post_366 : decode cX7_post 366 = .ok (.goto 5, 3) := by decide +kernel
theorem dj_X7_post_273 : decode cX7_post 273 = .ok (.iconst 0, 1) := by decide +kernel
theorem dj_X7_post_274 : decode cX7_post 274 = .ok (.istore 9, 2) := by decide +kernel
theorem dj_X7_post_236 : decode cX7_post 236 = .ok (.istore 8, 2) := by decide +kernel
theorem dj_X7_post_238 : decode cX7_post 238 = .ok (.aload 6, 2) := by decide +kernel
theorem dj_X7_post_240 : decode cX7_post 240 = .ok (.iload 5, 2) := by decide +kernel
theorem dj_X7_post_242 : decode cX7_post 242 = .ok (.invokestatic 304, 3) := by decide +kernel
theorem dj_X7_post_245 : decode cX7_post 245 = .ok (.invokevirtual 75, 3) := by decide +kernel
theorem dj_X7_post_248 : decode cX7_post 248 = .ok (.pop, 1) := by decide +kernel
theorem dj_X7_post_249 : decode cX7_post 249 = .ok (.aload 6, 2) := by decide +kernel
theorem dj_X7_post_251 : decode cX7_post 251 = .ok (.invokevirtual 297, 3) := by decide +kernel
theorem dj_X7_post_254 : decode cX7_post 254 = .ok (.bipush 20, 2) := by decide +kernel
theorem dj_X7_post_256 : decode cX7_post 256 = .ok (.if_icmp .le 17, 3) := by decide +kernel
theorem dj_X7_post_259 : decode cX7_post 259 = .ok (.aload 6, 2) := by decide +kernel
theorem dj_X7_post_261 : decode cX7_post 261 = .ok (.iconst 0, 1) := by decide +kernel
theorem dj_X7_post_262 : decode cX7_post 262 = .ok (.invokevirtual 320, 3) := by decide +kernel
theorem dj_X7_post_265 : decode cX7_post 265 = .ok (.checkcast 265, 3) := by decide +kernel
theorem dj_X7_post_268 : decode cX7_post 268 = .ok (.invokevirtual 294, 3) := by decide +kernel
theorem dj_X7_post_271 : decode cX7_post 271 = .ok (.istore 9, 2) := by decide +kernel
theorem dj_X7_post_0 : decode cX7_post 0 = .ok (.aload_n 0, 1) := by decide +kernel
theorem dj_X7_post_1 : decode cX7_post 1 = .ok (.aload_n 0, 1) := by decide +kernel
theorem dj_X7_post_2 : decode cX7_post 2 = .ok (.iload_n 1, 1) := by decide +kernel
theorem dj_X7_post_3 : decode cX7_post 3 = .ok (.invokevirtual 132, 3) := by decide +kernel
theorem dj_X7_post_6 : decode cX7_post 6 = .ok (.iconst 1, 1) := by decide +kernel
theorem dj_X7_post_7 : decode cX7_post 7 = .ok (.invokevirtual 110, 3) := by decide +kernel
theorem dj_X7_post_10 : decode cX7_post 10 = .ok (.ifCond .ne 70, 3) := by decide +kernel
theorem dj_X7_post_13 : decode cX7_post 13 = .ok (.aload_n 0, 1) := by decide +kernel
theorem dj_X7_post_14 : decode cX7_post 14 = .ok (.iload_n 2, 1) := by decide +kernel
theorem dj_X7_post_15 : decode cX7_post 15 = .ok (.bipush 100, 2) := by decide +kernel
theorem dj_X7_post_17 : decode cX7_post 17 = .ok (.sipush 800, 3) := by decide +kernel
theorem dj_X7_post_20 : decode cX7_post 20 = .ok (.invokestatic 82, 3) := by decide +kernel
theorem dj_X7_post_23 : decode cX7_post 23 = .ok (.ifCond .eq 15, 3) := by decide +kernel
theorem dj_X7_post_26 : decode cX7_post 26 = .ok (.iload_n 3, 1) := by decide +kernel
theorem dj_X7_post_27 : decode cX7_post 27 = .ok (.bipush 55, 2) := by decide +kernel
theorem dj_X7_post_29 : decode cX7_post 29 = .ok (.sipush 155, 3) := by decide +kernel
theorem dj_X7_post_32 : decode cX7_post 32 = .ok (.invokestatic 82, 3) := by decide +kernel
theorem dj_X7_post_35 : decode cX7_post 35 = .ok (.ifCond .ne 7, 3) := by decide +kernel
theorem dj_X7_post_42 : decode cX7_post 42 = .ok (.iconst 0, 1) := by decide +kernel
theorem dj_X7_post_43 : decode cX7_post 43 = .ok (.iconst 2, 1) := by decide +kernel
theorem dj_X7_post_44 : decode cX7_post 44 = .ok (.invokevirtual 110, 3) := by decide +kernel
theorem dj_X7_post_47 : decode cX7_post 47 = .ok (.ifCond .ne 33, 3) := by decide +kernel
theorem dj_X7_post_50 : decode cX7_post 50 = .ok (.aload_n 0, 1) := by decide +kernel
theorem dj_X7_post_51 : decode cX7_post 51 = .ok (.aload_n 0, 1) := by decide +kernel
theorem dj_X7_post_52 : decode cX7_post 52 = .ok (.iload_n 1, 1) := by decide +kernel
theorem dj_X7_post_53 : decode cX7_post 53 = .ok (.invokevirtual 272, 3) := by decide +kernel
theorem dj_X7_post_56 : decode cX7_post 56 = .ok (.ifCond .eq 12, 3) := by decide +kernel
theorem dj_X7_post_59 : decode cX7_post 59 = .ok (.aload_n 0, 1) := by decide +kernel
theorem dj_X7_post_60 : decode cX7_post 60 = .ok (.getfield 45, 3) := by decide +kernel
theorem dj_X7_post_63 : decode cX7_post 63 = .ok (.iload_n 1, 1) := by decide +kernel
theorem dj_X7_post_64 : decode cX7_post 64 = .ok (.baload, 1) := by decide +kernel
theorem dj_X7_post_65 : decode cX7_post 65 = .ok (.ifCond .eq 7, 3) := by decide +kernel
theorem dj_X7_post_72 : decode cX7_post 72 = .ok (.iconst 0, 1) := by decide +kernel
theorem dj_X7_post_73 : decode cX7_post 73 = .ok (.iconst 3, 1) := by decide +kernel
theorem dj_X7_post_74 : decode cX7_post 74 = .ok (.invokevirtual 110, 3) := by decide +kernel
theorem dj_X7_post_77 : decode cX7_post 77 = .ok (.ifCond .eq 5, 3) := by decide +kernel
theorem dj_X7_post_82 : decode cX7_post 82 = .ok (.iconst 0, 1) := by decide +kernel
theorem dj_X7_post_83 : decode cX7_post 83 = .ok (.istore 4, 2) := by decide +kernel
theorem dj_X7_post_85 : decode cX7_post 85 = .ok (.iconst 0, 1) := by decide +kernel
theorem dj_X7_post_86 : decode cX7_post 86 = .ok (.istore 5, 2) := by decide +kernel
theorem dj_X7_post_144 : decode cX7_post 144 = .ok (.bipush 10, 2) := by decide +kernel
theorem dj_X7_post_146 : decode cX7_post 146 = .ok (.iload 4, 2) := by decide +kernel
theorem dj_X7_post_148 : decode cX7_post 148 = .ok (.imul, 1) := by decide +kernel
theorem dj_X7_post_149 : decode cX7_post 149 = .ok (.iload_n 2, 1) := by decide +kernel
theorem dj_X7_post_150 : decode cX7_post 150 = .ok (.isub, 1) := by decide +kernel
theorem dj_X7_post_151 : decode cX7_post 151 = .ok (.bipush 113, 2) := by decide +kernel
theorem dj_X7_post_153 : decode cX7_post 153 = .ok (.imul, 1) := by decide +kernel
theorem dj_X7_post_154 : decode cX7_post 154 = .ok (.iload_n 3, 1) := by decide +kernel
theorem dj_X7_post_155 : decode cX7_post 155 = .ok (.invokestatic 314, 3) := by decide +kernel
theorem dj_X7_post_158 : decode cX7_post 158 = .ok (.bipush 10, 2) := by decide +kernel
theorem dj_X7_post_160 : decode cX7_post 160 = .ok (.aload_n 0, 1) := by decide +kernel
theorem dj_X7_post_161 : decode cX7_post 161 = .ok (.getfield 278, 3) := by decide +kernel
theorem dj_X7_post_164 : decode cX7_post 164 = .ok (.imul, 1) := by decide +kernel
theorem dj_X7_post_165 : decode cX7_post 165 = .ok (.isub, 1) := by decide +kernel
theorem dj_X7_post_166 : decode cX7_post 166 = .ok (.istore 5, 2) := by decide +kernel
theorem dj_X7_post_168 : decode cX7_post 168 = .ok (.aload_n 0, 1) := by decide +kernel
theorem dj_X7_post_169 : decode cX7_post 169 = .ok (.getfield 54, 3) := by decide +kernel
theorem dj_X7_post_172 : decode cX7_post 172 = .ok (.iload_n 1, 1) := by decide +kernel
theorem dj_X7_post_173 : decode cX7_post 173 = .ok (.invokevirtual 300, 3) := by decide +kernel
theorem dj_X7_post_176 : decode cX7_post 176 = .ok (.checkcast 51, 3) := by decide +kernel
theorem dj_X7_post_179 : decode cX7_post 179 = .ok (.astore 6, 2) := by decide +kernel
theorem dj_X7_post_181 : decode cX7_post 181 = .ok (.aload 6, 2) := by decide +kernel
theorem dj_X7_post_183 : decode cX7_post 183 = .ok (.invokevirtual 317, 3) := by decide +kernel
theorem dj_X7_post_186 : decode cX7_post 186 = .ok (.istore 7, 2) := by decide +kernel
theorem dj_X7_post_188 : decode cX7_post 188 = .ok (.iload 7, 2) := by decide +kernel
theorem dj_X7_post_190 : decode cX7_post 190 = .ok (.ifCond .eq 7, 3) := by decide +kernel
theorem dj_X7_post_197 : decode cX7_post 197 = .ok (.iload 5, 2) := by decide +kernel
theorem dj_X7_post_199 : decode cX7_post 199 = .ok (.aload_n 0, 1) := by decide +kernel
theorem dj_X7_post_200 : decode cX7_post 200 = .ok (.getfield 58, 3) := by decide +kernel
theorem dj_X7_post_203 : decode cX7_post 203 = .ok (.iload_n 1, 1) := by decide +kernel
theorem dj_X7_post_204 : decode cX7_post 204 = .ok (.iaload, 1) := by decide +kernel
theorem dj_X7_post_205 : decode cX7_post 205 = .ok (.bipush 100, 2) := by decide +kernel
theorem dj_X7_post_207 : decode cX7_post 207 = .ok (.isub, 1) := by decide +kernel
theorem dj_X7_post_208 : decode cX7_post 208 = .ok (.if_icmp .gt 8, 3) := by decide +kernel
theorem dj_X7_post_216 : decode cX7_post 216 = .ok (.iload 5, 2) := by decide +kernel
theorem dj_X7_post_218 : decode cX7_post 218 = .ok (.aload_n 0, 1) := by decide +kernel
theorem dj_X7_post_219 : decode cX7_post 219 = .ok (.getfield 58, 3) := by decide +kernel
theorem dj_X7_post_222 : decode cX7_post 222 = .ok (.iload_n 1, 1) := by decide +kernel
theorem dj_X7_post_223 : decode cX7_post 223 = .ok (.iaload, 1) := by decide +kernel
theorem dj_X7_post_224 : decode cX7_post 224 = .ok (.bipush 70, 2) := by decide +kernel
theorem dj_X7_post_226 : decode cX7_post 226 = .ok (.isub, 1) := by decide +kernel
theorem dj_X7_post_227 : decode cX7_post 227 = .ok (.if_icmp .gt 8, 3) := by decide +kernel
theorem dj_X7_post_235 : decode cX7_post 235 = .ok (.iconst 0, 1) := by decide +kernel
theorem dj_X7_post_433 : decode cX7_post 433 = .ok (.ireturn, 1) := by decide +kernel
theorem dj_X7_post_230 : decode cX7_post 230 = .ok (.bipush 10, 2) := by decide +kernel
theorem dj_X7_post_232 : decode cX7_post 232 = .ok (.goto 4, 3) := by decide +kernel
theorem dj_X7_post_211 : decode cX7_post 211 = .ok (.bipush 20, 2) := by decide +kernel
theorem dj_X7_post_213 : decode cX7_post 213 = .ok (.goto 23, 3) := by decide +kernel
theorem dj_X7_post_193 : decode cX7_post 193 = .ok (.iconst 0, 1) := by decide +kernel
theorem dj_X7_post_194 : decode cX7_post 194 = .ok (.goto 42, 3) := by decide +kernel
theorem dj_X7_post_68 : decode cX7_post 68 = .ok (.iconst 1, 1) := by decide +kernel
theorem dj_X7_post_69 : decode cX7_post 69 = .ok (.goto 4, 3) := by decide +kernel
theorem dj_X7_post_80 : decode cX7_post 80 = .ok (.iconst 0, 1) := by decide +kernel
theorem dj_X7_post_81 : decode cX7_post 81 = .ok (.ireturn, 1) := by decide +kernel
theorem dj_X7_post_38 : decode cX7_post 38 = .ok (.iconst 1, 1) := by decide +kernel
theorem dj_X7_post_39 : decode cX7_post 39 = .ok (.goto 4, 3) := by decide +kernel
theorem dj_X7_difference_0 : decode cX7_difference 0 = .ok (.aload_n 0, 1) := by decide +kernel
theorem dj_X7_difference_1 : decode cX7_difference 1 = .ok (.aload_n 0, 1) := by decide +kernel
theorem dj_X7_difference_2 : decode cX7_difference 2 = .ok (.iload_n 1, 1) := by decide +kernel
theorem dj_X7_difference_3 : decode cX7_difference 3 = .ok (.invokevirtual 132, 3) := by decide +kernel
theorem dj_X7_difference_6 : decode cX7_difference 6 = .ok (.ifCond .ne 27, 3) := by decide +kernel
theorem dj_X7_difference_9 : decode cX7_difference 9 = .ok (.iload_n 2, 1) := by decide +kernel
theorem dj_X7_difference_10 : decode cX7_difference 10 = .ok (.iconst 0, 1) := by decide +kernel
theorem dj_X7_difference_11 : decode cX7_difference 11 = .ok (.aload_n 0, 1) := by decide +kernel
theorem dj_X7_difference_12 : decode cX7_difference 12 = .ok (.getfield 54, 3) := by decide +kernel
theorem dj_X7_difference_15 : decode cX7_difference 15 = .ok (.iload_n 1, 1) := by decide +kernel
theorem dj_X7_difference_16 : decode cX7_difference 16 = .ok (.invokevirtual 300, 3) := by decide +kernel
theorem dj_X7_difference_19 : decode cX7_difference 19 = .ok (.checkcast 51, 3) := by decide +kernel
theorem dj_X7_difference_22 : decode cX7_difference 22 = .ok (.invokevirtual 297, 3) := by decide +kernel
theorem dj_X7_difference_25 : decode cX7_difference 25 = .ok (.iconst 1, 1) := by decide +kernel
theorem dj_X7_difference_26 : decode cX7_difference 26 = .ok (.isub, 1) := by decide +kernel
theorem dj_X7_difference_27 : decode cX7_difference 27 = .ok (.invokestatic 82, 3) := by decide +kernel
theorem dj_X7_difference_30 : decode cX7_difference 30 = .ok (.ifCond .ne 7, 3) := by decide +kernel
theorem dj_X7_difference_37 : decode cX7_difference 37 = .ok (.iconst 0, 1) := by decide +kernel
theorem dj_X7_difference_38 : decode cX7_difference 38 = .ok (.iconst 1, 1) := by decide +kernel
theorem dj_X7_difference_39 : decode cX7_difference 39 = .ok (.invokevirtual 110, 3) := by decide +kernel
theorem dj_X7_difference_42 : decode cX7_difference 42 = .ok (.ifCond .eq 7, 3) := by decide +kernel
theorem dj_X7_difference_49 : decode cX7_difference 49 = .ok (.aload_n 0, 1) := by decide +kernel
theorem dj_X7_difference_50 : decode cX7_difference 50 = .ok (.getfield 54, 3) := by decide +kernel
theorem dj_X7_difference_53 : decode cX7_difference 53 = .ok (.iload_n 1, 1) := by decide +kernel
theorem dj_X7_difference_54 : decode cX7_difference 54 = .ok (.invokevirtual 300, 3) := by decide +kernel
theorem dj_X7_difference_57 : decode cX7_difference 57 = .ok (.checkcast 51, 3) := by decide +kernel
theorem dj_X7_difference_60 : decode cX7_difference 60 = .ok (.iload_n 2, 1) := by decide +kernel
theorem dj_X7_difference_61 : decode cX7_difference 61 = .ok (.invokevirtual 300, 3) := by decide +kernel
theorem dj_X7_difference_64 : decode cX7_difference 64 = .ok (.checkcast 265, 3) := by decide +kernel
theorem dj_X7_difference_67 : decode cX7_difference 67 = .ok (.invokevirtual 294, 3) := by decide +kernel
theorem dj_X7_difference_70 : decode cX7_difference 70 = .ok (.ireturn, 1) := by decide +kernel
theorem dj_X7_difference_33 : decode cX7_difference 33 = .ok (.iconst 1, 1) := by decide +kernel
theorem dj_X7_difference_34 : decode cX7_difference 34 = .ok (.goto 4, 3) := by decide +kernel
theorem dj_X7_difference_45 : decode cX7_difference 45 = .ok (.iconst 0, 1) := by decide +kernel
theorem dj_X7_difference_46 : decode cX7_difference 46 = .ok (.goto 24, 3) := by decide +kernel
theorem dj_X7_index_0 : decode cX7_index 0 = .ok (.aload_n 0, 1) := by decide +kernel
theorem dj_X7_index_1 : decode cX7_index 1 = .ok (.aload_n 0, 1) := by decide +kernel
theorem dj_X7_index_2 : decode cX7_index 2 = .ok (.iload_n 1, 1) := by decide +kernel
theorem dj_X7_index_3 : decode cX7_index 3 = .ok (.invokevirtual 132, 3) := by decide +kernel
theorem dj_X7_index_6 : decode cX7_index 6 = .ok (.iconst 1, 1) := by decide +kernel
theorem dj_X7_index_7 : decode cX7_index 7 = .ok (.invokevirtual 110, 3) := by decide +kernel
theorem dj_X7_index_10 : decode cX7_index 10 = .ok (.ifCond .ne 25, 3) := by decide +kernel
theorem dj_X7_index_13 : decode cX7_index 13 = .ok (.aload_n 0, 1) := by decide +kernel
theorem dj_X7_index_14 : decode cX7_index 14 = .ok (.aload_n 0, 1) := by decide +kernel
theorem dj_X7_index_15 : decode cX7_index 15 = .ok (.getfield 54, 3) := by decide +kernel
theorem dj_X7_index_18 : decode cX7_index 18 = .ok (.iload_n 1, 1) := by decide +kernel
theorem dj_X7_index_19 : decode cX7_index 19 = .ok (.invokevirtual 300, 3) := by decide +kernel
theorem dj_X7_index_22 : decode cX7_index 22 = .ok (.checkcast 51, 3) := by decide +kernel
theorem dj_X7_index_25 : decode cX7_index 25 = .ok (.invokevirtual 317, 3) := by decide +kernel
theorem dj_X7_index_28 : decode cX7_index 28 = .ok (.iconst 2, 1) := by decide +kernel
theorem dj_X7_index_29 : decode cX7_index 29 = .ok (.invokevirtual 110, 3) := by decide +kernel
theorem dj_X7_index_32 : decode cX7_index 32 = .ok (.ifCond .eq 7, 3) := by decide +kernel
theorem dj_X7_index_35 : decode cX7_index 35 = .ok (.iconst 0, 1) := by decide +kernel
theorem dj_X7_index_36 : decode cX7_index 36 = .ok (.goto 9, 3) := by decide +kernel
theorem dj_X7_index_45 : decode cX7_index 45 = .ok (.ireturn, 1) := by decide +kernel
theorem dj_X7_index_39 : decode cX7_index 39 = .ok (.aload_n 0, 1) := by decide +kernel
theorem dj_X7_index_40 : decode cX7_index 40 = .ok (.getfield 58, 3) := by decide +kernel
theorem dj_X7_index_43 : decode cX7_index 43 = .ok (.iload_n 1, 1) := by decide +kernel
theorem dj_X7_index_44 : decode cX7_index 44 = .ok (.iaload, 1) := by decide +kernel
theorem dj_X7_lowIndex_0 : decode cX7_lowIndex 0 = .ok (.aload_n 0, 1) := by decide +kernel
theorem dj_X7_lowIndex_1 : decode cX7_lowIndex 1 = .ok (.aload_n 0, 1) := by decide +kernel
theorem dj_X7_lowIndex_2 : decode cX7_lowIndex 2 = .ok (.iload_n 1, 1) := by decide +kernel
theorem dj_X7_lowIndex_3 : decode cX7_lowIndex 3 = .ok (.invokevirtual 132, 3) := by decide +kernel
theorem dj_X7_lowIndex_6 : decode cX7_lowIndex 6 = .ok (.iconst 1, 1) := by decide +kernel
theorem dj_X7_lowIndex_7 : decode cX7_lowIndex 7 = .ok (.invokevirtual 110, 3) := by decide +kernel
theorem dj_X7_lowIndex_10 : decode cX7_lowIndex 10 = .ok (.ifCond .ne 25, 3) := by decide +kernel
theorem dj_X7_lowIndex_13 : decode cX7_lowIndex 13 = .ok (.aload_n 0, 1) := by decide +kernel
theorem dj_X7_lowIndex_14 : decode cX7_lowIndex 14 = .ok (.aload_n 0, 1) := by decide +kernel
theorem dj_X7_lowIndex_15 : decode cX7_lowIndex 15 = .ok (.getfield 54, 3) := by decide +kernel
theorem dj_X7_lowIndex_18 : decode cX7_lowIndex 18 = .ok (.iload_n 1, 1) := by decide +kernel
theorem dj_X7_lowIndex_19 : decode cX7_lowIndex 19 = .ok (.invokevirtual 300, 3) := by decide +kernel
theorem dj_X7_lowIndex_22 : decode cX7_lowIndex 22 = .ok (.checkcast 51, 3) := by decide +kernel
theorem dj_X7_lowIndex_25 : decode cX7_lowIndex 25 = .ok (.invokevirtual 317, 3) := by decide +kernel
theorem dj_X7_lowIndex_28 : decode cX7_lowIndex 28 = .ok (.iconst 2, 1) := by decide +kernel
theorem dj_X7_lowIndex_29 : decode cX7_lowIndex 29 = .ok (.invokevirtual 110, 3) := by decide +kernel
theorem dj_X7_lowIndex_32 : decode cX7_lowIndex 32 = .ok (.ifCond .eq 7, 3) := by decide +kernel
theorem dj_X7_lowIndex_35 : decode cX7_lowIndex 35 = .ok (.iconst 0, 1) := by decide +kernel
theorem dj_X7_lowIndex_36 : decode cX7_lowIndex 36 = .ok (.goto 9, 3) := by decide +kernel
theorem dj_X7_lowIndex_45 : decode cX7_lowIndex 45 = .ok (.ireturn, 1) := by decide +kernel
theorem dj_X7_lowIndex_39 : decode cX7_lowIndex 39 = .ok (.aload_n 0, 1) := by decide +kernel
theorem dj_X7_lowIndex_40 : decode cX7_lowIndex 40 = .ok (.getfield 61, 3) := by decide +kernel
theorem dj_X7_lowIndex_43 : decode cX7_lowIndex 43 = .ok (.iload_n 1, 1) := by decide +kernel
theorem dj_X7_lowIndex_44 : decode cX7_lowIndex 44 = .ok (.iaload, 1) := by decide +kernel
